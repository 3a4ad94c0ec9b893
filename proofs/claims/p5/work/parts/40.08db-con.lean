set_option maxHeartbeats 4000000 in
set_option maxRecDepth 100000 in
theorem m_restore (l : Launch) (dC : Nat → ClassId) (dI : Nat → Nat → Nat) (ar : Nat → Nat) (cy : Nat → ClassId) (sz : Nat) (hN : MN ar) (st : Nat → Nat → Int32) (sl : Nat → Nat → Int64) (va : Int32) (hI : MI st) : Met l yX12_restore wsX12_restore ({ frames := 1, cells := 0, slots := 0, locals := 22 }) (va_Pc [.ref (ar 0), .int va] (mPre dC dI ar cy sz st sl)) (va_Qi (fun (r : Int32) (x : MT) => MG [1, 2, 3, 4, 5, 7, 8, 9, 10, 11, 12, 13, 14, 15, 16, 17, 19, 20, 22, 23] st x.1 ∧ LQ [9] sl x.2 ∧ ((∃ n : Nat, r = 1 ∧ va = nI n ∧ n < 2 ∧ ¬ st 10 n = 0 ∧ (NKk st → NKn x.1) ∧ (∀ a, a < 3 → x.1 2 a = st 4 (373 * n + a)) ∧ (∀ j, j < 19 → x.2 7 j = sl 9 (19 * n + j))) ∨ (r = 0 ∧ (∀ n, n < 2 → va = nI n → st 10 n = 0) ∧ (NKn st → NKn x.1) ∧ (∀ a, a < 3 → x.1 2 a = st 2 a) ∧ (∀ j, x.2 7 j = sl 7 j)))) (mB dC dI ar cy) (MA ar sz)) 0 0 (MA ar sz) := by
  refine Met.ofW (cc := cX12_restore) (maxL := 3) (ret := (some .boolean)) (by decide) rfl ?_
  intro p e s m args below meth c s₁ B hml hv
  obtain ⟨rfl, hsz, hP, hK⟩ := hv
  have hx := B.exec
  have hb := B.bytes
  have hr := B.returns
  have hts := atoms_spec (ws := wsX12_restore) B.pre
  have hown : s.vm.findClass RX12 = some m.cls := findClass_of_methodNamed B.named
  subst hsz
  have hS : va_S (MA ar s.heap.size) s.heap s.heap [] := va_S.rf
  have hG : MG [1, 2, 3, 4, 5, 7, 8, 9, 10, 11, 12, 13, 14, 15, 16, 17, 19, 20, 22, 23] st st := MG.rf hI
  have hl := lv_entry ([.ref (ar 0), .int va]) (n := 3) (Nat.le_of_ble_eq_true rfl)
  rw [lg_entry_eq]
  generalize (lg_sl ([.ref (ar 0), .int va]) ++ List.replicate (3 - (lg_sl ([.ref (ar 0), .int va])).length) Slot.unset).toArray = ls at hl ⊢
  have hl : lv_has ls 3 [(0, .ref (ar 0)), (1, .int va)] := hl
  clear hI
  have hGx6 : MG [6] st st := MG.rf hG.1
  have hGx7 : MG [7] st st := MG.rf hG.1
  have hGx2 : MG [2] st st := MG.rf hG.1
  have hGx21 : MG [21] st st := MG.rf hG.1
  have hL : LQ [9] sl sl := LQ.rf
  refine lv_aload_n hx hb dX12_restore_0 rfl (lv_at hl 0 rfl) ?_
  refine lv_iconst (v := 0) hx hb dX12_restore_1 (by decide) ?_
  refine va_put (D := (dC, dI)) (ci := 11) (v := .int 0) (ty := .int) (C := RX12) (T := TX12) (N := 47) hx hb hts ii_X12_restore tyX12 tyX12_ok nmX12 hown hK hP (mD hN _ _ _ _) hS 0 rfl rfl 0 (by decide) (hts _ mm_X12_restore_1) (fun _ hh => hh) rfl (by decide +kernel) rfl rfl (Nat.le_of_ble_eq_true rfl) dX12_restore_2 (fun H locs hP _ hS => ?_)
  have hP : va_P (dC, dI) vwCl (mw ar cy (up2 st 0 0 0) sl) H := hP
  obtain ⟨st1, est1⟩ : ∃ y, y = up2 st 0 0 0 := ⟨_, rfl⟩
  have hG : MG [1, 2, 3, 4, 5, 7, 8, 9, 10, 11, 12, 13, 14, 15, 16, 17, 19, 20, 22, 23] st st1 := by rw [est1]; exact hG.up (rz (by decide : mr 0 0 = 0)) (pn (by decide : pcl 0 0 = 0) (by decide))
  have hG2 : MG [6] st st1 := by rw [est1]; exact hGx6.up (rz (by decide : mr 0 0 = 0)) (pn (by decide : pcl 0 0 = 0) (by decide))
  have hG3 : MG [7] st st1 := by rw [est1]; exact hGx7.up (rz (by decide : mr 0 0 = 0)) (pn (by decide : pcl 0 0 = 0) (by decide))
  have hG4 : MG [2] st st1 := by rw [est1]; exact hGx2.up (rz (by decide : mr 0 0 = 0)) (pn (by decide : pcl 0 0 = 0) (by decide))
  have hG5 : MG [21] st st1 := by rw [est1]; exact hGx21.up (rz (by decide : mr 0 0 = 0)) (pn (by decide : pcl 0 0 = 0) (by decide))
  rw [← est1] at hP
  refine lv_iload_n hx hb dX12_restore_5 rfl (lv_at hl 1 rfl) ?_
  refine lv_iconst (v := 0) hx hb dX12_restore_6 (by decide) ?_
  refine lv_iconst (v := 1) hx hb dX12_restore_7 (by decide) ?_
  refine va_calli (va_runS (As := [.int va, .int 0, .int 1]) (rest := []) ⟨hx, hb, hml, hown, hts⟩ (m_isInX l dC dI ar cy _ hN st1 sl va 0 1  hG.1) (va_cwS 3 hts gX12_restore_X12_isIn rfl rfl rfl (by decide +kernel) ⟨Nat.le_of_ble_eq_true rfl, Nat.le_of_ble_eq_true rfl⟩) ⟨fun a U g mk q => ⟨q.1, mPre.blind q.2⟩, fun U hU hW => ⟨rfl, mPre.of hP hK hU hW⟩⟩ rfl rfl hl.1 rfl (lv_room (Nat.le_of_ble_eq_true rfl)) dX12_restore_8 ⟨Nat.le_of_ble_eq_true rfl, Nat.le_of_ble_eq_true rfl⟩) hS (fun q _ h => MA.le hS.1 q h) (MA.le hS.1) (fun r6 x t H locs ht hvm hw hB _ _ hS => ?_)
  have hP := mB.at ht hB
  clear hB ht hvm
  obtain ⟨rfl, hw⟩ := hw
  have hP : va_P (dC, dI) vwCl (mw ar cy st1 sl) _ := hP
  rcases hw with ⟨rfl, hf7, hf8⟩ | ⟨rfl, hf9⟩
  · obtain ⟨n10, hn10a, hn10b, rfl⟩ := zz_rng (a := 0) (b := 1) (by omega) hf7 (by omega) hf8
    refine lv_if_eq (tgt := 23) hx hb dX12_restore_11 (by decide) (fun cc => absurd cc (by decide)) (fun _ => ?_)
    refine lv_aload_n hx hb dX12_restore_14 rfl (lv_at hl 0 rfl) ?_
    refine va_get (D := (dC, dI)) (ci := 11) (v := .ref (ar 10)) (C := RX12) (T := TX12) (N := 47) hx hb hts ii_X12_restore hown hK hP 0 rfl rfl 22 (by decide) (hts _ mm_X12_restore_2) (fun _ hh => hh) rfl dX12_restore_15 ?_
    refine lv_iload_n hx hb dX12_restore_18 rfl (lv_at hl 1 rfl) ?_
    refine va_zald hx hb hK hP 10 9 rfl rfl (i := (nI n10)) (vp_in_nI (by omega) (by decide)) dX12_restore_19 ?_
    refine zz_top (v := st1 10 n10) (by rw [nI_clamp (by omega)]) ?_
    refine lv_topi (fun z11 ez11 => ?_)
    refine lv_if_ne (tgt := 25) hx hb dX12_restore_20 (by decide) (fun c2 => ?_) (fun c2 => ?_)
    · refine lv_iconst (v := 0) hx hb dX12_restore_25 (by decide) ?_
      refine lv_istore_n (lv' := [(2, .int 0), (0, .ref (ar 0)), (1, .int (nI n10))]) hx hb dX12_restore_26 rfl hl (by decide) rfl (fun ls hl => ?_)
      refine zz_wf (fun n stk H locs ls => ∃ k12 : Nat, ∃ st13 : Nat → Nat → Int32, n = 374 - k12 ∧ 0 ≤ k12 ∧ k12 < 374 ∧ (∀ j, j < k12 → st13 2 j = st13 4 (373 * n10 + j)) ∧ va_P (dC, dI) vwCl (mw ar cy st13 sl) H ∧ MG [1, 2, 3, 4, 5, 7, 8, 9, 10, 11, 12, 13, 14, 15, 16, 17, 19, 20, 22, 23] st st13 ∧ MG [7] st st13 ∧ MG [2] st st13 ∧ LQ [9] sl sl ∧ va_S (MA ar s.heap.size) s.heap H locs ∧ lv_has ls 3 [(2, .int (nI k12)), (0, .ref (ar 0)), (1, .int (nI n10))] ∧ stk = []) ?_ (374 - 0) _ _ _ _ ⟨0, st1, rfl, by omega, by omega, by intro jj hk; omega, hP, hG, hG3, hG4, hL, hS, lv_sub hl [0, 1, 2] rfl, rfl⟩
      rintro nn stk H locs ls ⟨k12, st13, hm18, hv16_0, hv17_1, hv18_0, hP, hG, hG14, hG15, hL, hS, hl, rfl⟩ ih19
      refine lv_iload_n hx hb dX12_restore_27 rfl (lv_at hl 0 rfl) ?_
      refine lv_sipush (v := 373) hx hb dX12_restore_28 (by decide) ?_
      refine lv_icmp_ge (tgt := 58) hx hb dX12_restore_31 (by decide) (fun c3 => ?_) (fun c3 => ?_)
      · have c3 : 373 ≤ k12 := (nI_leI (a := 373) (b := k12) (by omega) (by omega)).mp c3
        have hKK : NKk st → NKn st13 := fun hb => NKk.get (n := n10) (by omega) (fun jj hk => hv18_0 (133 + jj) (by omega)) (NKk.mg hG14 (by decide) hb)
        have hC1 : ∀ a, a < 3 → st13 2 a = st 4 (373 * n10 + a) := fun a ha => (hv18_0 a (by omega)).trans (hG.2 4 (373 * n10 + a) (by rw [pcl4c ha]; decide))
        refine lv_iconst (v := 0) hx hb dX12_restore_58 (by decide) ?_
        refine lv_istore_n (lv' := [(2, .int 0), (0, .ref (ar 0)), (1, .int (nI n10))]) hx hb dX12_restore_59 rfl hl (by decide) rfl (fun ls hl => ?_)
        refine zz_wf (fun n stk H locs ls => ∃ k20 : Nat, ∃ st21 : Nat → Nat → Int32, ∃ sl22 : Nat → Nat → Int64, n = 20 - k20 ∧ 0 ≤ k20 ∧ k20 < 20 ∧ (∀ j, j < k20 → sl22 7 j = sl 9 (19 * n10 + j)) ∧ va_P (dC, dI) vwCl (mw ar cy st21 sl22) H ∧ MG [1, 2, 3, 4, 5, 7, 8, 9, 10, 11, 12, 13, 14, 15, 16, 17, 19, 20, 22, 23] st st21 ∧ MG [7] st st21 ∧ MG [2] st st21 ∧ MG [6, 21] st13 st21 ∧ LQ [9] sl sl22 ∧ va_S (MA ar s.heap.size) s.heap H locs ∧ lv_has ls 3 [(2, .int (nI k20)), (0, .ref (ar 0)), (1, .int (nI n10))] ∧ stk = []) ?_ (20 - 0) _ _ _ _ ⟨0, st13, sl, rfl, by omega, by omega, by intro jj hk; omega, hP, hG, hG14, hG15, MG.rf hG.1, hL, hS, lv_sub hl [0, 1, 2] rfl, rfl⟩
        rintro nn stk H locs ls ⟨k20, st21, sl22, hm28, hv26_0, hv27_1, hv28_0, hP, hG, hG23, hG24, hG25, hL, hS, hl, rfl⟩ ih29
        refine lv_iload_n hx hb dX12_restore_60 rfl (lv_at hl 0 rfl) ?_
        refine lv_bipush (v := 19) hx hb dX12_restore_61 (by decide) ?_
        refine lv_icmp_ge (tgt := 89) hx hb dX12_restore_63 (by decide) (fun c4 => ?_) (fun c4 => ?_)
        · have c4 : 19 ≤ k20 := (nI_leI (a := 19) (b := k20) (by omega) (by omega)).mp c4
          refine lv_aload_n hx hb dX12_restore_89 rfl (lv_at hl 1 rfl) ?_
          refine lv_iconst (v := 0) hx hb dX12_restore_90 (by decide) ?_
          refine va_put (D := (dC, dI)) (ci := 11) (v := .int 0) (ty := .int) (C := RX12) (T := TX12) (N := 47) hx hb hts ii_X12_restore tyX12 tyX12_ok nmX12 hown hK hP (mD hN _ _ _ _) hS 0 rfl rfl 23 (by decide) (hts _ mm_X12_restore_7) (fun _ hh => hh) rfl (by decide +kernel) rfl rfl (Nat.le_of_ble_eq_true rfl) dX12_restore_91 (fun H locs hP _ hS => ?_)
          have hP : va_P (dC, dI) vwCl (mw ar cy (up2 st21 0 23 0) sl22) H := hP
          obtain ⟨st30, est30⟩ : ∃ y, y = up2 st21 0 23 0 := ⟨_, rfl⟩
          have hG : MG [1, 2, 3, 4, 5, 7, 8, 9, 10, 11, 12, 13, 14, 15, 16, 17, 19, 20, 22, 23] st st30 := by rw [est30]; exact hG.up (r0) (pn (by decide : pcl 0 23 = 18) (by decide))
          have hG31 : MG [7] st st30 := by rw [est30]; exact hG23.up (r0) (pn (by decide : pcl 0 23 = 18) (by decide))
          have hG32 : MG [2] st st30 := by rw [est30]; exact hG24.up (r0) (pn (by decide : pcl 0 23 = 18) (by decide))
          have hG33 : MG [6, 21] st13 st30 := by rw [est30]; exact hG25.up (r0) (pn (by decide : pcl 0 23 = 18) (by decide))
          rw [← est30] at hP
          refine lv_iconst (v := 1) hx hb dX12_restore_94 (by decide) ?_
          exact W.zret (v := 1) hx hb hr rfl (fun t ht hW => ⟨⟨1, (st30, sl22), rfl, ⟨hG, hL, Or.inl ⟨n10, rfl, rfl, by omega, fun hh => c2 (by rw [ez11, hG4.2 10 n10 (show (2 : Nat) ∈ _ by decide)]; exact hh), fun hb => NKn.mg hG33 (by decide) (hKK hb), fun a9 h9 => (hG33.2 2 a9 (by rw [pcl2c h9]; decide)).trans (hC1 a9 h9), fun jj hk => hv28_0 jj (by omega)⟩⟩, mB.of ht hP⟩, hS.F ht⟩) hS.2.2 dX12_restore_95
        · have c4 : ¬ 19 ≤ k20 := fun hh => c4 ((nI_leI (a := 19) (b := k20) (by omega) (by omega)).mpr hh)
          refine lv_aload_n hx hb dX12_restore_66 rfl (lv_at hl 1 rfl) ?_
          refine va_get (D := (dC, dI)) (ci := 11) (v := .ref (ar 7)) (C := RX12) (T := TX12) (N := 47) hx hb hts ii_X12_restore hown hK hP 0 rfl rfl 19 (by decide) (hts _ mm_X12_restore_5) (fun _ hh => hh) rfl dX12_restore_67 ?_
          refine lv_iload_n hx hb dX12_restore_70 rfl (lv_at hl 0 rfl) ?_
          refine lv_aload_n hx hb dX12_restore_71 rfl (lv_at hl 1 rfl) ?_
          refine va_get (D := (dC, dI)) (ci := 11) (v := .ref (ar 9)) (C := RX12) (T := TX12) (N := 47) hx hb hts ii_X12_restore hown hK hP 0 rfl rfl 21 (by decide) (hts _ mm_X12_restore_6) (fun _ hh => hh) rfl dX12_restore_72 ?_
          refine lv_bipush (v := 19) hx hb dX12_restore_75 (by decide) ?_
          refine lv_iload_n hx hb dX12_restore_77 rfl (lv_at hl 2 rfl) ?_
          refine lv_imul hx hb dX12_restore_78 ?_
          refine zz_top (v := nI (19 * n10)) (nI_mul 19 n10) ?_
          refine lv_iload_n hx hb dX12_restore_79 rfl (lv_at hl 0 rfl) ?_
          refine lv_iadd hx hb dX12_restore_80 ?_
          refine zz_top (v := nI ((19 * n10) + k20)) (nI_add (19 * n10) k20) ?_
          refine va_lald hx hb hK hP 9 8 rfl rfl (i := (nI ((19 * n10) + k20))) (vp_in_nI (by omega) (by decide)) dX12_restore_81 ?_
          refine zz_topl (v := sl22 9 ((19 * n10) + k20)) (by rw [nI_clamp (by omega)]) ?_
          refine va_last hx hb hK hP (mD hN _ _ _ _) hS 7 6 rfl rfl (i := (nI k20)) (vp_in_nI (by omega) (by decide)) dX12_restore_82 (fun H locs hP _ hS => ?_)
          rw [nI_clamp (by omega)] at hP
          have hP : va_P (dC, dI) vwCl (mw ar cy st21 (upL sl22 7 k20 (sl22 9 ((19 * n10) + k20)))) H := hP
          obtain ⟨sl34, esl34⟩ : ∃ y, y = upL sl22 7 k20 (sl22 9 ((19 * n10) + k20)) := ⟨_, rfl⟩
          rw [← esl34] at hP
          have hL : LQ [9] sl sl34 := by rw [esl34]; exact hL.up (by decide)
          refine lv_iinc (v := (nI (k20 + 1))) (lv' := [(2, .int (nI (k20 + 1))), (0, .ref (ar 0)), (1, .int (nI n10))]) hx hb dX12_restore_83 hl (k := 0) rfl (nI_add k20 1) (by decide) rfl (fun ls hl => ?_)
          refine lv_goto (tgt := 60) hx hb dX12_restore_86 (by decide) ?_
          exact ih29 (20 - (k20 + 1)) _ _ _ _ (by omega) ⟨(k20 + 1), st21, sl34, rfl, by omega, by omega, by intro jj hk; by_cases ee : jj = k20; (rw [ee, esl34, upL_same]; have hq := hL 9 (by decide) (19 * n10 + k20); rw [esl34, upL_ne (r := 7) (k := k20) (a := 9) (j := 19 * n10 + k20) _ _ (by omega)] at hq; exact hq); (rw [esl34, upL_ne (r := 7) (k := k20) (a := 7) (j := jj) _ _ (by omega)]; exact hv28_0 jj (by omega)), hP, hG, hG23, hG24, hG25, hL, hS, lv_sub hl [0, 1, 2] rfl, rfl⟩
      · have c3 : ¬ 373 ≤ k12 := fun hh => c3 ((nI_leI (a := 373) (b := k12) (by omega) (by omega)).mpr hh)
        refine lv_aload_n hx hb dX12_restore_34 rfl (lv_at hl 1 rfl) ?_
        refine va_get (D := (dC, dI)) (ci := 11) (v := .ref (ar 2)) (C := RX12) (T := TX12) (N := 47) hx hb hts ii_X12_restore hown hK hP 0 rfl rfl 14 (by decide) (hts _ mm_X12_restore_3) (fun _ hh => hh) rfl dX12_restore_35 ?_
        refine lv_iload_n hx hb dX12_restore_38 rfl (lv_at hl 0 rfl) ?_
        refine lv_aload_n hx hb dX12_restore_39 rfl (lv_at hl 1 rfl) ?_
        refine va_get (D := (dC, dI)) (ci := 11) (v := .ref (ar 4)) (C := RX12) (T := TX12) (N := 47) hx hb hts ii_X12_restore hown hK hP 0 rfl rfl 16 (by decide) (hts _ mm_X12_restore_4) (fun _ hh => hh) rfl dX12_restore_40 ?_
        refine lv_sipush (v := 373) hx hb dX12_restore_43 (by decide) ?_
        refine lv_iload_n hx hb dX12_restore_46 rfl (lv_at hl 2 rfl) ?_
        refine lv_imul hx hb dX12_restore_47 ?_
        refine zz_top (v := nI (373 * n10)) (nI_mul 373 n10) ?_
        refine lv_iload_n hx hb dX12_restore_48 rfl (lv_at hl 0 rfl) ?_
        refine lv_iadd hx hb dX12_restore_49 ?_
        refine zz_top (v := nI ((373 * n10) + k12)) (nI_add (373 * n10) k12) ?_
        refine va_iald hx hb hK hP 4 3 rfl rfl (i := (nI ((373 * n10) + k12))) (vp_in_nI (by omega) (by decide)) dX12_restore_50 ?_
        refine zz_top (v := st13 4 ((373 * n10) + k12)) (by rw [nI_clamp (by omega)]) ?_
        have hIst13 := hG.1
        refine va_iast hx hb hK hP (mD hN _ _ _ _) hS 2 1 rfl rfl (i := (nI k12)) (vp_in_nI (by omega) (by decide)) dX12_restore_51 (fun H locs hP _ hS => ?_)
        rw [nI_clamp (by omega)] at hP
        have hP : va_P (dC, dI) vwCl (mw ar cy (up2 st13 2 k12 (st13 4 ((373 * n10) + k12))) sl) H := hP
        obtain ⟨st35, est35⟩ : ∃ y, y = up2 st13 2 k12 (st13 4 ((373 * n10) + k12)) := ⟨_, rfl⟩
        have hG : MG [1, 2, 3, 4, 5, 7, 8, 9, 10, 11, 12, 13, 14, 15, 16, 17, 19, 20, 22, 23] st st35 := by rw [est35]; exact hG.up (rc hIst13 ((mr4 _ _ (by omega)).symm)) (pns_2_0_373_1_2_3_4_5_7_8_9_10_11_12_13_14_15_16_17_19_20_22_23 k12 (by omega) (by omega))
        have hG36 : MG [7] st st35 := by rw [est35]; exact hG14.up (rc hIst13 ((mr4 _ _ (by omega)).symm)) (pns_2_0_373_7 k12 (by omega) (by omega))
        have hG37 : MG [2] st st35 := by rw [est35]; exact hG15.up (rc hIst13 ((mr4 _ _ (by omega)).symm)) (pns_2_0_373_2 k12 (by omega) (by omega))
        rw [← est35] at hP
        refine lv_iinc (v := (nI (k12 + 1))) (lv' := [(2, .int (nI (k12 + 1))), (0, .ref (ar 0)), (1, .int (nI n10))]) hx hb dX12_restore_52 hl (k := 0) rfl (nI_add k12 1) (by decide) rfl (fun ls hl => ?_)
        refine lv_goto (tgt := 27) hx hb dX12_restore_55 (by decide) ?_
        exact ih19 (374 - (k12 + 1)) _ _ _ _ (by omega) ⟨(k12 + 1), st35, rfl, by omega, by omega, by intro jj hk; show st35 2 jj = st35 4 (373 * n10 + jj); rw [est35, up2_ne (r := 2) (k := k12) (a := 4) (j := 373 * n10 + jj) _ _ (by omega)]; by_cases ee : jj = k12; (rw [ee, up2_same]); (rw [up2_ne (r := 2) (k := k12) (a := 2) (j := jj) _ _ (by omega)]; exact hv18_0 jj (by omega)), hP, hG, hG36, hG37, hL, hS, lv_sub hl [0, 1, 2] rfl, rfl⟩
    · refine lv_iconst (v := 0) hx hb dX12_restore_23 (by decide) ?_
      exact W.zret (v := 0) hx hb hr rfl (fun t ht hW => ⟨⟨0, (st1, sl), rfl, ⟨hG, hL, Or.inr ⟨rfl, fun jj hk hh => by obtain rfl := (nI_eq (a := n10) (b := jj) (by omega) (by omega)).mp hh; exact (show st 10 n10 = 0 by rw [← hG4.2 10 n10 (show (2 : Nat) ∈ _ by decide), ← ez11]; exact c2), fun hh => NKn.mg hG2 (by decide) hh, fun a9 h9 => hG5.2 2 a9 (by rw [pcl2c h9]; decide), fun _ => rfl⟩⟩, mB.of ht hP⟩, hS.F ht⟩) hS.2.2 dX12_restore_24
  · refine lv_if_eq (tgt := 23) hx hb dX12_restore_11 (by decide) (fun _ => ?_) (fun cc => absurd (by decide) cc)
    refine lv_iconst (v := 0) hx hb dX12_restore_23 (by decide) ?_
    exact W.zret (v := 0) hx hb hr rfl (fun t ht hW => ⟨⟨0, (st1, sl), rfl, ⟨hG, hL, Or.inr ⟨rfl, fun jj hk hh => absurd ⟨jj, hk, hh⟩ (noidx hf9), fun hh => NKn.mg hG2 (by decide) hh, fun a9 h9 => hG5.2 2 a9 (by rw [pcl2c h9]; decide), fun _ => rfl⟩⟩, mB.of ht hP⟩, hS.F ht⟩) hS.2.2 dX12_restore_24
set_option maxHeartbeats 4000000 in
set_option maxRecDepth 100000 in
theorem m_come (l : Launch) (dC : Nat → ClassId) (dI : Nat → Nat → Nat) (ar : Nat → Nat) (cy : Nat → ClassId) (sz : Nat) (hN : MN ar) (st : Nat → Nat → Int32) (sl : Nat → Nat → Int64) (va : Int32) (gt : Nat) (hI : MI st) (hgt : st 0 2 = nI gt) (ht2 : gt + 4 ≤ 940) : Met l yX12_come wsX12_come ({ frames := 0, cells := 0, slots := 0, locals := 0 }) (va_Pc [.ref (ar 0), .int va] (mPre dC dI ar cy sz st sl)) (va_Qv (fun (x : MT) => MG [2, 3, 4, 5, 6, 7, 8, 9, 10, 11, 12, 13, 14, 15, 16, 17, 19, 21, 22, 23] st x.1 ∧ LQ [7, 9] sl x.2 ∧ (x.1 0 2 = nI (gt + 4) ∧ (∀ k, k < gt → x.1 1 k = st 1 k) ∧ (∀ j, j < 4 → x.1 1 (gt + j) = nI (wby va j)))) (mB dC dI ar cy) (MA ar sz)) 0 0 (MA ar sz) := by
  refine Met.ofW (cc := cX12_come) (maxL := 3) (ret := none) (by decide) rfl ?_
  intro p e s m args below meth c s₁ B hml hv
  obtain ⟨rfl, hsz, hP, hK⟩ := hv
  have hx := B.exec
  have hb := B.bytes
  have hr := B.returns
  have hts := atoms_spec (ws := wsX12_come) B.pre
  have hown : s.vm.findClass RX12 = some m.cls := findClass_of_methodNamed B.named
  subst hsz
  have hS : va_S (MA ar s.heap.size) s.heap s.heap [] := va_S.rf
  have hG : MG [2, 3, 4, 5, 6, 7, 8, 9, 10, 11, 12, 13, 14, 15, 16, 17, 19, 21, 22, 23] st st := MG.rf hI
  have hl := lv_entry ([.ref (ar 0), .int va]) (n := 3) (Nat.le_of_ble_eq_true rfl)
  rw [lg_entry_eq]
  generalize (lg_sl ([.ref (ar 0), .int va]) ++ List.replicate (3 - (lg_sl ([.ref (ar 0), .int va])).length) Slot.unset).toArray = ls at hl ⊢
  have hl : lv_has ls 3 [(0, .ref (ar 0)), (1, .int va)] := hl
  clear hI
  have hL : LQ [7, 9] sl sl := LQ.rf
  refine lv_bipush (v := 24) hx hb dX12_come_0 (by decide) ?_
  refine lv_istore_n (lv' := [(2, .int 24), (0, .ref (ar 0)), (1, .int va)]) hx hb dX12_come_2 rfl hl (by decide) rfl (fun ls hl => ?_)
  refine lv_iload_n hx hb dX12_come_3 rfl (lv_at hl 0 rfl) ?_
  refine lv_if_lt (tgt := 39) hx hb dX12_come_4 (by decide) (fun cc => absurd cc (by decide)) (fun _ => ?_)
  refine lv_aload_n hx hb dX12_come_7 rfl (lv_at hl 1 rfl) ?_
  refine va_get (D := (dC, dI)) (ci := 11) (v := .ref (ar 1)) (C := RX12) (T := TX12) (N := 47) hx hb hts ii_X12_come hown hK hP 0 rfl rfl 1 (by decide) (hts _ mm_X12_come_1) (fun _ hh => hh) rfl dX12_come_8 ?_
  refine lv_aload_n hx hb dX12_come_11 rfl (lv_at hl 1 rfl) ?_
  refine va_get (D := (dC, dI)) (ci := 11) (v := .int (st 0 2)) (C := RX12) (T := TX12) (N := 47) hx hb hts ii_X12_come hown hK hP 0 rfl rfl 2 (by decide) (hts _ mm_X12_come_2) (fun _ hh => hh) rfl dX12_come_12 ?_
  refine zz_top (v := (nI gt)) (by show st 0 2 = _; rw [hgt]) ?_
  refine lv_iload_n hx hb dX12_come_15 rfl (lv_at hl 2 rfl) ?_
  refine lv_iload_n hx hb dX12_come_16 rfl (lv_at hl 0 rfl) ?_
  refine lv_iushr hx hb dX12_come_17 rfl ?_
  refine lv_topi (fun z1 ez1 => ?_)
  refine lv_sipush (v := 255) hx hb dX12_come_18 (by decide) ?_
  refine lv_iand hx hb dX12_come_21 ?_
  refine lv_topi (fun z2 ez2 => ?_)
  refine va_iast hx hb hK hP (mD hN _ _ _ _) hS 1 0 rfl rfl (i := (nI gt)) (vp_in_nI (by omega) (by decide)) dX12_come_22 (fun H locs hP _ hS => ?_)
  rw [nI_clamp (by omega)] at hP
  have hP : va_P (dC, dI) vwCl (mw ar cy (up2 st 1 gt z2) sl) H := hP
  obtain ⟨st3, est3⟩ : ∃ y, y = up2 st 1 gt z2 := ⟨_, rfl⟩
  have hG : MG [2, 3, 4, 5, 6, 7, 8, 9, 10, 11, 12, 13, 14, 15, 16, 17, 19, 21, 22, 23] st st3 := by rw [est3]; exact hG.up (rz (mr_1_0_937 gt (by omega) (by omega))) (pn (pcl_1_0_937 gt (by omega) (by omega)) (by decide))
  rw [← est3] at hP
  refine lv_aload_n hx hb dX12_come_23 rfl (lv_at hl 1 rfl) ?_
  refine lv_dup hx hb dX12_come_24 rfl ?_
  refine va_get (D := (dC, dI)) (ci := 11) (v := .int (st3 0 2)) (C := RX12) (T := TX12) (N := 47) hx hb hts ii_X12_come hown hK hP 0 rfl rfl 2 (by decide) (hts _ mm_X12_come_2) (fun _ hh => hh) rfl dX12_come_25 ?_
  refine zz_top (v := (nI gt)) (by show st3 0 2 = _; rw [est3, up2_ne (r := 1) (k := gt) (a := 0) (j := 2) _ _ (by omega), hgt]) ?_
  refine lv_iconst (v := 1) hx hb dX12_come_28 (by decide) ?_
  refine lv_iadd hx hb dX12_come_29 ?_
  refine zz_top (v := nI (gt + 1)) (nI_add gt 1) ?_
  refine va_put (D := (dC, dI)) (ci := 11) (v := .int (nI (gt + 1))) (ty := .int) (C := RX12) (T := TX12) (N := 47) hx hb hts ii_X12_come tyX12 tyX12_ok nmX12 hown hK hP (mD hN _ _ _ _) hS 0 rfl rfl 2 (by decide) (hts _ mm_X12_come_2) (fun _ hh => hh) rfl (by decide +kernel) rfl rfl (Nat.le_of_ble_eq_true rfl) dX12_come_30 (fun H locs hP _ hS => ?_)
  have hP : va_P (dC, dI) vwCl (mw ar cy (up2 st3 0 2 (nI (gt + 1))) sl) H := hP
  obtain ⟨st4, est4⟩ : ∃ y, y = up2 st3 0 2 (nI (gt + 1)) := ⟨_, rfl⟩
  have hG : MG [2, 3, 4, 5, 6, 7, 8, 9, 10, 11, 12, 13, 14, 15, 16, 17, 19, 21, 22, 23] st st4 := by rw [est4]; exact hG.up (rn (n := (gt + 1)) (by decide : mr 0 2 = 941) (by omega)) (pn (by decide : pcl 0 2 = 1) (by decide))
  rw [← est4] at hP
  refine lv_iinc (v := 16) (lv' := [(2, .int 16), (0, .ref (ar 0)), (1, .int va)]) hx hb dX12_come_33 hl (k := 0) rfl (by decide) (by decide) rfl (fun ls hl => ?_)
  refine lv_goto (tgt := 3) hx hb dX12_come_36 (by decide) ?_
  refine lv_iload_n hx hb dX12_come_3 rfl (lv_at hl 0 rfl) ?_
  refine lv_if_lt (tgt := 39) hx hb dX12_come_4 (by decide) (fun cc => absurd cc (by decide)) (fun _ => ?_)
  refine lv_aload_n hx hb dX12_come_7 rfl (lv_at hl 1 rfl) ?_
  refine va_get (D := (dC, dI)) (ci := 11) (v := .ref (ar 1)) (C := RX12) (T := TX12) (N := 47) hx hb hts ii_X12_come hown hK hP 0 rfl rfl 1 (by decide) (hts _ mm_X12_come_1) (fun _ hh => hh) rfl dX12_come_8 ?_
  refine lv_aload_n hx hb dX12_come_11 rfl (lv_at hl 1 rfl) ?_
  refine va_get (D := (dC, dI)) (ci := 11) (v := .int (st4 0 2)) (C := RX12) (T := TX12) (N := 47) hx hb hts ii_X12_come hown hK hP 0 rfl rfl 2 (by decide) (hts _ mm_X12_come_2) (fun _ hh => hh) rfl dX12_come_12 ?_
  refine zz_top (v := (nI (gt + 1))) (by show st4 0 2 = _; rw [est4, up2_same]) ?_
  refine lv_iload_n hx hb dX12_come_15 rfl (lv_at hl 2 rfl) ?_
  refine lv_iload_n hx hb dX12_come_16 rfl (lv_at hl 0 rfl) ?_
  refine lv_iushr hx hb dX12_come_17 rfl ?_
  refine lv_topi (fun z5 ez5 => ?_)
  refine lv_sipush (v := 255) hx hb dX12_come_18 (by decide) ?_
  refine lv_iand hx hb dX12_come_21 ?_
  refine lv_topi (fun z6 ez6 => ?_)
  refine va_iast hx hb hK hP (mD hN _ _ _ _) hS 1 0 rfl rfl (i := (nI (gt + 1))) (vp_in_nI (by omega) (by decide)) dX12_come_22 (fun H locs hP _ hS => ?_)
  rw [nI_clamp (by omega)] at hP
  have hP : va_P (dC, dI) vwCl (mw ar cy (up2 st4 1 (gt + 1) z6) sl) H := hP
  obtain ⟨st7, est7⟩ : ∃ y, y = up2 st4 1 (gt + 1) z6 := ⟨_, rfl⟩
  have hG : MG [2, 3, 4, 5, 6, 7, 8, 9, 10, 11, 12, 13, 14, 15, 16, 17, 19, 21, 22, 23] st st7 := by rw [est7]; exact hG.up (rz (mr_1_1_938 (gt + 1) (by omega) (by omega))) (pn (pcl_1_1_938 (gt + 1) (by omega) (by omega)) (by decide))
  rw [← est7] at hP
  refine lv_aload_n hx hb dX12_come_23 rfl (lv_at hl 1 rfl) ?_
  refine lv_dup hx hb dX12_come_24 rfl ?_
  refine va_get (D := (dC, dI)) (ci := 11) (v := .int (st7 0 2)) (C := RX12) (T := TX12) (N := 47) hx hb hts ii_X12_come hown hK hP 0 rfl rfl 2 (by decide) (hts _ mm_X12_come_2) (fun _ hh => hh) rfl dX12_come_25 ?_
  refine zz_top (v := (nI (gt + 1))) (by show st7 0 2 = _; rw [est7, up2_ne (r := 1) (k := (gt + 1)) (a := 0) (j := 2) _ _ (by omega), est4, up2_same]) ?_
  refine lv_iconst (v := 1) hx hb dX12_come_28 (by decide) ?_
  refine lv_iadd hx hb dX12_come_29 ?_
  refine zz_top (v := nI ((gt + 1) + 1)) (nI_add (gt + 1) 1) ?_
  refine va_put (D := (dC, dI)) (ci := 11) (v := .int (nI ((gt + 1) + 1))) (ty := .int) (C := RX12) (T := TX12) (N := 47) hx hb hts ii_X12_come tyX12 tyX12_ok nmX12 hown hK hP (mD hN _ _ _ _) hS 0 rfl rfl 2 (by decide) (hts _ mm_X12_come_2) (fun _ hh => hh) rfl (by decide +kernel) rfl rfl (Nat.le_of_ble_eq_true rfl) dX12_come_30 (fun H locs hP _ hS => ?_)
  have hP : va_P (dC, dI) vwCl (mw ar cy (up2 st7 0 2 (nI ((gt + 1) + 1))) sl) H := hP
  obtain ⟨st8, est8⟩ : ∃ y, y = up2 st7 0 2 (nI ((gt + 1) + 1)) := ⟨_, rfl⟩
  have hG : MG [2, 3, 4, 5, 6, 7, 8, 9, 10, 11, 12, 13, 14, 15, 16, 17, 19, 21, 22, 23] st st8 := by rw [est8]; exact hG.up (rn (n := ((gt + 1) + 1)) (by decide : mr 0 2 = 941) (by omega)) (pn (by decide : pcl 0 2 = 1) (by decide))
  rw [← est8] at hP
  refine lv_iinc (v := 8) (lv' := [(2, .int 8), (0, .ref (ar 0)), (1, .int va)]) hx hb dX12_come_33 hl (k := 0) rfl (by decide) (by decide) rfl (fun ls hl => ?_)
  refine lv_goto (tgt := 3) hx hb dX12_come_36 (by decide) ?_
  refine lv_iload_n hx hb dX12_come_3 rfl (lv_at hl 0 rfl) ?_
  refine lv_if_lt (tgt := 39) hx hb dX12_come_4 (by decide) (fun cc => absurd cc (by decide)) (fun _ => ?_)
  refine lv_aload_n hx hb dX12_come_7 rfl (lv_at hl 1 rfl) ?_
  refine va_get (D := (dC, dI)) (ci := 11) (v := .ref (ar 1)) (C := RX12) (T := TX12) (N := 47) hx hb hts ii_X12_come hown hK hP 0 rfl rfl 1 (by decide) (hts _ mm_X12_come_1) (fun _ hh => hh) rfl dX12_come_8 ?_
  refine lv_aload_n hx hb dX12_come_11 rfl (lv_at hl 1 rfl) ?_
  refine va_get (D := (dC, dI)) (ci := 11) (v := .int (st8 0 2)) (C := RX12) (T := TX12) (N := 47) hx hb hts ii_X12_come hown hK hP 0 rfl rfl 2 (by decide) (hts _ mm_X12_come_2) (fun _ hh => hh) rfl dX12_come_12 ?_
  refine zz_top (v := (nI ((gt + 1) + 1))) (by show st8 0 2 = _; rw [est8, up2_same]) ?_
  refine lv_iload_n hx hb dX12_come_15 rfl (lv_at hl 2 rfl) ?_
  refine lv_iload_n hx hb dX12_come_16 rfl (lv_at hl 0 rfl) ?_
  refine lv_iushr hx hb dX12_come_17 rfl ?_
  refine lv_topi (fun z9 ez9 => ?_)
  refine lv_sipush (v := 255) hx hb dX12_come_18 (by decide) ?_
  refine lv_iand hx hb dX12_come_21 ?_
  refine lv_topi (fun z10 ez10 => ?_)
  refine va_iast hx hb hK hP (mD hN _ _ _ _) hS 1 0 rfl rfl (i := (nI ((gt + 1) + 1))) (vp_in_nI (by omega) (by decide)) dX12_come_22 (fun H locs hP _ hS => ?_)
  rw [nI_clamp (by omega)] at hP
  have hP : va_P (dC, dI) vwCl (mw ar cy (up2 st8 1 ((gt + 1) + 1) z10) sl) H := hP
  obtain ⟨st11, est11⟩ : ∃ y, y = up2 st8 1 ((gt + 1) + 1) z10 := ⟨_, rfl⟩
  have hG : MG [2, 3, 4, 5, 6, 7, 8, 9, 10, 11, 12, 13, 14, 15, 16, 17, 19, 21, 22, 23] st st11 := by rw [est11]; exact hG.up (rz (mr_1_2_939 ((gt + 1) + 1) (by omega) (by omega))) (pn (pcl_1_2_939 ((gt + 1) + 1) (by omega) (by omega)) (by decide))
  rw [← est11] at hP
  refine lv_aload_n hx hb dX12_come_23 rfl (lv_at hl 1 rfl) ?_
  refine lv_dup hx hb dX12_come_24 rfl ?_
  refine va_get (D := (dC, dI)) (ci := 11) (v := .int (st11 0 2)) (C := RX12) (T := TX12) (N := 47) hx hb hts ii_X12_come hown hK hP 0 rfl rfl 2 (by decide) (hts _ mm_X12_come_2) (fun _ hh => hh) rfl dX12_come_25 ?_
  refine zz_top (v := (nI ((gt + 1) + 1))) (by show st11 0 2 = _; rw [est11, up2_ne (r := 1) (k := ((gt + 1) + 1)) (a := 0) (j := 2) _ _ (by omega), est8, up2_same]) ?_
  refine lv_iconst (v := 1) hx hb dX12_come_28 (by decide) ?_
  refine lv_iadd hx hb dX12_come_29 ?_
  refine zz_top (v := nI (((gt + 1) + 1) + 1)) (nI_add ((gt + 1) + 1) 1) ?_
  refine va_put (D := (dC, dI)) (ci := 11) (v := .int (nI (((gt + 1) + 1) + 1))) (ty := .int) (C := RX12) (T := TX12) (N := 47) hx hb hts ii_X12_come tyX12 tyX12_ok nmX12 hown hK hP (mD hN _ _ _ _) hS 0 rfl rfl 2 (by decide) (hts _ mm_X12_come_2) (fun _ hh => hh) rfl (by decide +kernel) rfl rfl (Nat.le_of_ble_eq_true rfl) dX12_come_30 (fun H locs hP _ hS => ?_)
  have hP : va_P (dC, dI) vwCl (mw ar cy (up2 st11 0 2 (nI (((gt + 1) + 1) + 1))) sl) H := hP
  obtain ⟨st12, est12⟩ : ∃ y, y = up2 st11 0 2 (nI (((gt + 1) + 1) + 1)) := ⟨_, rfl⟩
  have hG : MG [2, 3, 4, 5, 6, 7, 8, 9, 10, 11, 12, 13, 14, 15, 16, 17, 19, 21, 22, 23] st st12 := by rw [est12]; exact hG.up (rn (n := (((gt + 1) + 1) + 1)) (by decide : mr 0 2 = 941) (by omega)) (pn (by decide : pcl 0 2 = 1) (by decide))
  rw [← est12] at hP
  refine lv_iinc (v := 0) (lv' := [(2, .int 0), (0, .ref (ar 0)), (1, .int va)]) hx hb dX12_come_33 hl (k := 0) rfl (by decide) (by decide) rfl (fun ls hl => ?_)
  refine lv_goto (tgt := 3) hx hb dX12_come_36 (by decide) ?_
  refine lv_iload_n hx hb dX12_come_3 rfl (lv_at hl 0 rfl) ?_
  refine lv_if_lt (tgt := 39) hx hb dX12_come_4 (by decide) (fun cc => absurd cc (by decide)) (fun _ => ?_)
  refine lv_aload_n hx hb dX12_come_7 rfl (lv_at hl 1 rfl) ?_
  refine va_get (D := (dC, dI)) (ci := 11) (v := .ref (ar 1)) (C := RX12) (T := TX12) (N := 47) hx hb hts ii_X12_come hown hK hP 0 rfl rfl 1 (by decide) (hts _ mm_X12_come_1) (fun _ hh => hh) rfl dX12_come_8 ?_
  refine lv_aload_n hx hb dX12_come_11 rfl (lv_at hl 1 rfl) ?_
  refine va_get (D := (dC, dI)) (ci := 11) (v := .int (st12 0 2)) (C := RX12) (T := TX12) (N := 47) hx hb hts ii_X12_come hown hK hP 0 rfl rfl 2 (by decide) (hts _ mm_X12_come_2) (fun _ hh => hh) rfl dX12_come_12 ?_
  refine zz_top (v := (nI (((gt + 1) + 1) + 1))) (by show st12 0 2 = _; rw [est12, up2_same]) ?_
  refine lv_iload_n hx hb dX12_come_15 rfl (lv_at hl 2 rfl) ?_
  refine lv_iload_n hx hb dX12_come_16 rfl (lv_at hl 0 rfl) ?_
  refine lv_iushr hx hb dX12_come_17 rfl ?_
  refine lv_topi (fun z13 ez13 => ?_)
  refine lv_sipush (v := 255) hx hb dX12_come_18 (by decide) ?_
  refine lv_iand hx hb dX12_come_21 ?_
  refine lv_topi (fun z14 ez14 => ?_)
  refine va_iast hx hb hK hP (mD hN _ _ _ _) hS 1 0 rfl rfl (i := (nI (((gt + 1) + 1) + 1))) (vp_in_nI (by omega) (by decide)) dX12_come_22 (fun H locs hP _ hS => ?_)
  rw [nI_clamp (by omega)] at hP
  have hP : va_P (dC, dI) vwCl (mw ar cy (up2 st12 1 (((gt + 1) + 1) + 1) z14) sl) H := hP
  obtain ⟨st15, est15⟩ : ∃ y, y = up2 st12 1 (((gt + 1) + 1) + 1) z14 := ⟨_, rfl⟩
  have hG : MG [2, 3, 4, 5, 6, 7, 8, 9, 10, 11, 12, 13, 14, 15, 16, 17, 19, 21, 22, 23] st st15 := by rw [est15]; exact hG.up (rz (mr_1_3_940 (((gt + 1) + 1) + 1) (by omega) (by omega))) (pn (pcl_1_3_940 (((gt + 1) + 1) + 1) (by omega) (by omega)) (by decide))
  rw [← est15] at hP
  refine lv_aload_n hx hb dX12_come_23 rfl (lv_at hl 1 rfl) ?_
  refine lv_dup hx hb dX12_come_24 rfl ?_
  refine va_get (D := (dC, dI)) (ci := 11) (v := .int (st15 0 2)) (C := RX12) (T := TX12) (N := 47) hx hb hts ii_X12_come hown hK hP 0 rfl rfl 2 (by decide) (hts _ mm_X12_come_2) (fun _ hh => hh) rfl dX12_come_25 ?_
  refine zz_top (v := (nI (((gt + 1) + 1) + 1))) (by show st15 0 2 = _; rw [est15, up2_ne (r := 1) (k := (((gt + 1) + 1) + 1)) (a := 0) (j := 2) _ _ (by omega), est12, up2_same]) ?_
  refine lv_iconst (v := 1) hx hb dX12_come_28 (by decide) ?_
  refine lv_iadd hx hb dX12_come_29 ?_
  refine zz_top (v := nI ((((gt + 1) + 1) + 1) + 1)) (nI_add (((gt + 1) + 1) + 1) 1) ?_
  refine va_put (D := (dC, dI)) (ci := 11) (v := .int (nI ((((gt + 1) + 1) + 1) + 1))) (ty := .int) (C := RX12) (T := TX12) (N := 47) hx hb hts ii_X12_come tyX12 tyX12_ok nmX12 hown hK hP (mD hN _ _ _ _) hS 0 rfl rfl 2 (by decide) (hts _ mm_X12_come_2) (fun _ hh => hh) rfl (by decide +kernel) rfl rfl (Nat.le_of_ble_eq_true rfl) dX12_come_30 (fun H locs hP _ hS => ?_)
  have hP : va_P (dC, dI) vwCl (mw ar cy (up2 st15 0 2 (nI ((((gt + 1) + 1) + 1) + 1))) sl) H := hP
  obtain ⟨st16, est16⟩ : ∃ y, y = up2 st15 0 2 (nI ((((gt + 1) + 1) + 1) + 1)) := ⟨_, rfl⟩
  have hG : MG [2, 3, 4, 5, 6, 7, 8, 9, 10, 11, 12, 13, 14, 15, 16, 17, 19, 21, 22, 23] st st16 := by rw [est16]; exact hG.up (rn (n := ((((gt + 1) + 1) + 1) + 1)) (by decide : mr 0 2 = 941) (by omega)) (pn (by decide : pcl 0 2 = 1) (by decide))
  rw [← est16] at hP
  refine lv_iinc (v := (-8)) (lv' := [(2, .int (-8)), (0, .ref (ar 0)), (1, .int va)]) hx hb dX12_come_33 hl (k := 0) rfl (by decide) (by decide) rfl (fun ls hl => ?_)
  refine lv_goto (tgt := 3) hx hb dX12_come_36 (by decide) ?_
  refine lv_iload_n hx hb dX12_come_3 rfl (lv_at hl 0 rfl) ?_
  refine lv_if_lt (tgt := 39) hx hb dX12_come_4 (by decide) (fun _ => ?_) (fun cc => absurd (by decide) cc)
  have hA9 : ∀ j, j < gt → st16 1 j = st 1 j := fun j hj => by
    rw [est16, up2_ne (r := 0) (k := 2) (a := 1) (j := j) _ _ (by omega), est15, up2_ne (r := 1) (k := (((gt + 1) + 1) + 1)) (a := 1) (j := j) _ _ (by omega), est12, up2_ne (r := 0) (k := 2) (a := 1) (j := j) _ _ (by omega), est11, up2_ne (r := 1) (k := ((gt + 1) + 1)) (a := 1) (j := j) _ _ (by omega), est8, up2_ne (r := 0) (k := 2) (a := 1) (j := j) _ _ (by omega), est7, up2_ne (r := 1) (k := (gt + 1)) (a := 1) (j := j) _ _ (by omega), est4, up2_ne (r := 0) (k := 2) (a := 1) (j := j) _ _ (by omega), est3, up2_ne (r := 1) (k := gt) (a := 1) (j := j) _ _ (by omega)]
  have hB9 : ∀ j, j < 4 → st16 1 (gt + j) = nI (wby va j) := fun j hj => by
    match j, hj with
    | 0, _ => show st16 1 gt = nI (wby va 0); rw [est16, up2_ne (r := 0) (k := 2) (a := 1) (j := gt) _ _ (by omega), est15, up2_ne (r := 1) (k := (((gt + 1) + 1) + 1)) (a := 1) (j := gt) _ _ (by omega), est12, up2_ne (r := 0) (k := 2) (a := 1) (j := gt) _ _ (by omega), est11, up2_ne (r := 1) (k := ((gt + 1) + 1)) (a := 1) (j := gt) _ _ (by omega), est8, up2_ne (r := 0) (k := 2) (a := 1) (j := gt) _ _ (by omega), est7, up2_ne (r := 1) (k := (gt + 1)) (a := 1) (j := gt) _ _ (by omega), est4, up2_ne (r := 0) (k := 2) (a := 1) (j := gt) _ _ (by omega), est3, up2_same, ez2, ez1]; exact (byn_s _).1
    | 1, _ => show st16 1 (gt + 1) = nI (wby va 1); rw [est16, up2_ne (r := 0) (k := 2) (a := 1) (j := (gt + 1)) _ _ (by omega), est15, up2_ne (r := 1) (k := (((gt + 1) + 1) + 1)) (a := 1) (j := (gt + 1)) _ _ (by omega), est12, up2_ne (r := 0) (k := 2) (a := 1) (j := (gt + 1)) _ _ (by omega), est11, up2_ne (r := 1) (k := ((gt + 1) + 1)) (a := 1) (j := (gt + 1)) _ _ (by omega), est8, up2_ne (r := 0) (k := 2) (a := 1) (j := (gt + 1)) _ _ (by omega), est7, up2_same, ez6, ez5]; exact (byn_s _).1
    | 2, _ => show st16 1 ((gt + 1) + 1) = nI (wby va 2); rw [est16, up2_ne (r := 0) (k := 2) (a := 1) (j := ((gt + 1) + 1)) _ _ (by omega), est15, up2_ne (r := 1) (k := (((gt + 1) + 1) + 1)) (a := 1) (j := ((gt + 1) + 1)) _ _ (by omega), est12, up2_ne (r := 0) (k := 2) (a := 1) (j := ((gt + 1) + 1)) _ _ (by omega), est11, up2_same, ez10, ez9]; exact (byn_s _).1
    | 3, _ => show st16 1 (((gt + 1) + 1) + 1) = nI (wby va 3); rw [est16, up2_ne (r := 0) (k := 2) (a := 1) (j := (((gt + 1) + 1) + 1)) _ _ (by omega), est15, up2_same, ez14, ez13]; exact (byn_s _).1
    | j + 4, h9 => exact absurd h9 (by omega)
  exact W.vret hx hb hr (fun t ht hW => ⟨⟨(st16, sl), rfl, ⟨hG, hL, ⟨by show st16 0 2 = _; rw [est16, up2_same], hA9, hB9⟩⟩, mB.of ht hP⟩, hS.F ht⟩) hS.2.2 dX12_come_39
set_option maxHeartbeats 4000000 in
set_option maxRecDepth 100000 in
theorem m_feed (l : Launch) (dC : Nat → ClassId) (dI : Nat → Nat → Nat) (ar : Nat → Nat) (cy : Nat → ClassId) (sz : Nat) (hN : MN ar) (st : Nat → Nat → Int32) (sl : Nat → Nat → Int64) (va : Int32) (vb : Int32) (vc : Int32) (vd : Int32) (ve : Int32) (gt : Nat) (hI : MI st) (hgt : st 0 2 = nI gt) (ht2 : gt < 941) : Met l yX12_feed wsX12_feed ({ frames := 1, cells := 0, slots := 0, locals := 22 }) (va_Pc [.ref (ar 0), .int va, .int vb, .int vc, .int vd, .int ve] (mPre dC dI ar cy sz st sl)) (va_Qi (fun (r : Int32) (x : MT) => MG [2, 3, 4, 5, 6, 7, 8, 9, 10, 11, 12, 13, 14, 15, 16, 17, 19, 21, 22, 23] st x.1 ∧ LQ [7, 9] sl x.2 ∧ ((r = (-1) ∧ 920 < gt ∧ x.1 0 2 = nI gt ∧ (∀ j, x.1 1 j = st 1 j)) ∨ (∃ n : Nat, r = nI n ∧ n = gt + 20 ∧ gt ≤ 920 ∧ x.1 0 2 = nI (gt + 20) ∧ (∀ k, k < gt → x.1 1 k = st 1 k) ∧ (∀ j, j < 20 → x.1 1 (gt + j) = nI (fby va vb vc vd ve j))))) (mB dC dI ar cy) (MA ar sz)) 0 0 (MA ar sz) := by
  refine Met.ofW (cc := cX12_feed) (maxL := 6) (ret := (some .int)) (by decide) rfl ?_
  intro p e s m args below meth c s₁ B hml hv
  obtain ⟨rfl, hsz, hP, hK⟩ := hv
  have hx := B.exec
  have hb := B.bytes
  have hr := B.returns
  have hts := atoms_spec (ws := wsX12_feed) B.pre
  have hown : s.vm.findClass RX12 = some m.cls := findClass_of_methodNamed B.named
  subst hsz
  have hS : va_S (MA ar s.heap.size) s.heap s.heap [] := va_S.rf
  have hG : MG [2, 3, 4, 5, 6, 7, 8, 9, 10, 11, 12, 13, 14, 15, 16, 17, 19, 21, 22, 23] st st := MG.rf hI
  have hl := lv_entry ([.ref (ar 0), .int va, .int vb, .int vc, .int vd, .int ve]) (n := 6) (Nat.le_of_ble_eq_true rfl)
  rw [lg_entry_eq]
  generalize (lg_sl ([.ref (ar 0), .int va, .int vb, .int vc, .int vd, .int ve]) ++ List.replicate (6 - (lg_sl ([.ref (ar 0), .int va, .int vb, .int vc, .int vd, .int ve])).length) Slot.unset).toArray = ls at hl ⊢
  have hl : lv_has ls 6 [(0, .ref (ar 0)), (1, .int va), (2, .int vb), (3, .int vc), (4, .int vd), (5, .int ve)] := hl
  clear hI
  have hL : LQ [7, 9] sl sl := LQ.rf
  refine lv_aload_n hx hb dX12_feed_0 rfl (lv_at hl 0 rfl) ?_
  refine lv_iconst (v := 0) hx hb dX12_feed_1 (by decide) ?_
  refine va_put (D := (dC, dI)) (ci := 11) (v := .int 0) (ty := .int) (C := RX12) (T := TX12) (N := 47) hx hb hts ii_X12_feed tyX12 tyX12_ok nmX12 hown hK hP (mD hN _ _ _ _) hS 0 rfl rfl 0 (by decide) (hts _ mm_X12_feed_1) (fun _ hh => hh) rfl (by decide +kernel) rfl rfl (Nat.le_of_ble_eq_true rfl) dX12_feed_2 (fun H locs hP _ hS => ?_)
  have hP : va_P (dC, dI) vwCl (mw ar cy (up2 st 0 0 0) sl) H := hP
  obtain ⟨st1, est1⟩ : ∃ y, y = up2 st 0 0 0 := ⟨_, rfl⟩
  have hG : MG [2, 3, 4, 5, 6, 7, 8, 9, 10, 11, 12, 13, 14, 15, 16, 17, 19, 21, 22, 23] st st1 := by rw [est1]; exact hG.up (rz (by decide : mr 0 0 = 0)) (pn (by decide : pcl 0 0 = 0) (by decide))
  rw [← est1] at hP
  refine lv_aload_n hx hb dX12_feed_5 rfl (lv_at hl 0 rfl) ?_
  refine va_get (D := (dC, dI)) (ci := 11) (v := .int (st1 0 2)) (C := RX12) (T := TX12) (N := 47) hx hb hts ii_X12_feed hown hK hP 0 rfl rfl 2 (by decide) (hts _ mm_X12_feed_2) (fun _ hh => hh) rfl dX12_feed_6 ?_
  refine zz_top (v := (nI gt)) (by show st1 0 2 = _; rw [est1, up2_ne (r := 0) (k := 0) (a := 0) (j := 2) _ _ (by omega), hgt]) ?_
  refine lv_bipush (v := 20) hx hb dX12_feed_9 (by decide) ?_
  refine lv_iadd hx hb dX12_feed_11 ?_
  refine zz_top (v := nI (gt + 20)) (nI_add gt 20) ?_
  refine lv_sipush (v := 940) hx hb dX12_feed_12 (by decide) ?_
  refine lv_icmp_le (tgt := 20) hx hb dX12_feed_15 (by decide) (fun c1 => ?_) (fun c1 => ?_)
  · have c1 : (gt + 20) ≤ 940 := (nI_leI (a := (gt + 20)) (b := 940) (by omega) (by omega)).mp c1
    refine lv_aload_n hx hb dX12_feed_20 rfl (lv_at hl 0 rfl) ?_
    refine lv_iload_n hx hb dX12_feed_21 rfl (lv_at hl 1 rfl) ?_
    refine va_callv (va_runV (As := [.int va]) (rest := []) ⟨hx, hb, hml, hown, hts⟩ (m_come l dC dI ar cy _ hN st1 sl va gt  hG.1 (by rw [est1, up2_ne (r := 0) (k := 0) (a := 0) (j := 2) _ _ (by omega), hgt]) (by omega)) (cwV 1 hts gX12_feed_X12_come rfl rfl rfl (by decide +kernel) ⟨Nat.le_of_ble_eq_true rfl, Nat.le_of_ble_eq_true rfl⟩) ⟨fun a U g mk q => ⟨q.1, mPre.blind q.2⟩, va_recv hK hP (ci := 11) (q0 := 0) rfl rfl, fun U hU hW => ⟨rfl, mPre.of hP hK hU hW⟩⟩ rfl rfl hl.1 rfl (lv_room (Nat.le_of_ble_eq_true rfl)) dX12_feed_22 ⟨Nat.le_of_ble_eq_true rfl, Nat.le_of_ble_eq_true rfl⟩) hS (fun q _ h => MA.le hS.1 q h) (MA.le hS.1) (fun x t H locs ht hvm hw hB _ _ hS => ?_)
    have hP := mB.at ht hB
    clear hB ht hvm
    obtain ⟨st3, sl4⟩ := x
    obtain ⟨hG2, hL2, hw⟩ := hw
    have hL : LQ [7, 9] sl sl4 := hL.tr hL2 (by decide)
    clear hL2
    dsimp only at hw
    have hP : va_P (dC, dI) vwCl (mw ar cy st3 sl4) _ := hP
    have hG : MG [2, 3, 4, 5, 6, 7, 8, 9, 10, 11, 12, 13, 14, 15, 16, 17, 19, 21, 22, 23] st st3 := hG.tr hG2 (by decide)
    have hGst3 : MG [2, 3, 4, 5, 6, 7, 8, 9, 10, 11, 12, 13, 14, 15, 16, 17, 19, 21, 22, 23] st1 st3 := hG2
    clear hG2
    obtain ⟨hf5, hf6, hf7⟩ := hw
    refine lv_aload_n hx hb dX12_feed_25 rfl (lv_at hl 0 rfl) ?_
    refine lv_iload_n hx hb dX12_feed_26 rfl (lv_at hl 2 rfl) ?_
    refine va_callv (va_runV (As := [.int vb]) (rest := []) ⟨hx, hb, hml, hown, hts⟩ (m_come l dC dI ar cy _ hN st3 sl4 vb (gt + 4)  hG.1 (by rw [hf5]) (by omega)) (cwV 1 hts gX12_feed_X12_come rfl rfl rfl (by decide +kernel) ⟨Nat.le_of_ble_eq_true rfl, Nat.le_of_ble_eq_true rfl⟩) ⟨fun a U g mk q => ⟨q.1, mPre.blind q.2⟩, va_recv hK hP (ci := 11) (q0 := 0) rfl rfl, fun U hU hW => ⟨rfl, mPre.of hP hK hU hW⟩⟩ rfl rfl hl.1 rfl (lv_room (Nat.le_of_ble_eq_true rfl)) dX12_feed_27 ⟨Nat.le_of_ble_eq_true rfl, Nat.le_of_ble_eq_true rfl⟩) hS (fun q _ h => MA.le hS.1 q h) (MA.le hS.1) (fun x t H locs ht hvm hw hB _ _ hS => ?_)
    have hP := mB.at ht hB
    clear hB ht hvm
    obtain ⟨st9, sl10⟩ := x
    obtain ⟨hG2, hL2, hw⟩ := hw
    have hL : LQ [7, 9] sl sl10 := hL.tr hL2 (by decide)
    clear hL2
    dsimp only at hw
    have hP : va_P (dC, dI) vwCl (mw ar cy st9 sl10) _ := hP
    have hG : MG [2, 3, 4, 5, 6, 7, 8, 9, 10, 11, 12, 13, 14, 15, 16, 17, 19, 21, 22, 23] st st9 := hG.tr hG2 (by decide)
    have hGst9 : MG [2, 3, 4, 5, 6, 7, 8, 9, 10, 11, 12, 13, 14, 15, 16, 17, 19, 21, 22, 23] st3 st9 := hG2
    clear hG2
    obtain ⟨hf11, hf12, hf13⟩ := hw
    refine lv_aload_n hx hb dX12_feed_30 rfl (lv_at hl 0 rfl) ?_
    refine lv_iload_n hx hb dX12_feed_31 rfl (lv_at hl 3 rfl) ?_
    refine va_callv (va_runV (As := [.int vc]) (rest := []) ⟨hx, hb, hml, hown, hts⟩ (m_come l dC dI ar cy _ hN st9 sl10 vc ((gt + 4) + 4)  hG.1 (by rw [hf11]) (by omega)) (cwV 1 hts gX12_feed_X12_come rfl rfl rfl (by decide +kernel) ⟨Nat.le_of_ble_eq_true rfl, Nat.le_of_ble_eq_true rfl⟩) ⟨fun a U g mk q => ⟨q.1, mPre.blind q.2⟩, va_recv hK hP (ci := 11) (q0 := 0) rfl rfl, fun U hU hW => ⟨rfl, mPre.of hP hK hU hW⟩⟩ rfl rfl hl.1 rfl (lv_room (Nat.le_of_ble_eq_true rfl)) dX12_feed_32 ⟨Nat.le_of_ble_eq_true rfl, Nat.le_of_ble_eq_true rfl⟩) hS (fun q _ h => MA.le hS.1 q h) (MA.le hS.1) (fun x t H locs ht hvm hw hB _ _ hS => ?_)
    have hP := mB.at ht hB
    clear hB ht hvm
    obtain ⟨st15, sl16⟩ := x
    obtain ⟨hG2, hL2, hw⟩ := hw
    have hL : LQ [7, 9] sl sl16 := hL.tr hL2 (by decide)
    clear hL2
    dsimp only at hw
    have hP : va_P (dC, dI) vwCl (mw ar cy st15 sl16) _ := hP
    have hG : MG [2, 3, 4, 5, 6, 7, 8, 9, 10, 11, 12, 13, 14, 15, 16, 17, 19, 21, 22, 23] st st15 := hG.tr hG2 (by decide)
    have hGst15 : MG [2, 3, 4, 5, 6, 7, 8, 9, 10, 11, 12, 13, 14, 15, 16, 17, 19, 21, 22, 23] st9 st15 := hG2
    clear hG2
    obtain ⟨hf17, hf18, hf19⟩ := hw
    refine lv_aload_n hx hb dX12_feed_35 rfl (lv_at hl 0 rfl) ?_
    refine lv_iload hx hb dX12_feed_36 (lv_at hl 4 rfl) ?_
    refine va_callv (va_runV (As := [.int vd]) (rest := []) ⟨hx, hb, hml, hown, hts⟩ (m_come l dC dI ar cy _ hN st15 sl16 vd (((gt + 4) + 4) + 4)  hG.1 (by rw [hf17]) (by omega)) (cwV 1 hts gX12_feed_X12_come rfl rfl rfl (by decide +kernel) ⟨Nat.le_of_ble_eq_true rfl, Nat.le_of_ble_eq_true rfl⟩) ⟨fun a U g mk q => ⟨q.1, mPre.blind q.2⟩, va_recv hK hP (ci := 11) (q0 := 0) rfl rfl, fun U hU hW => ⟨rfl, mPre.of hP hK hU hW⟩⟩ rfl rfl hl.1 rfl (lv_room (Nat.le_of_ble_eq_true rfl)) dX12_feed_38 ⟨Nat.le_of_ble_eq_true rfl, Nat.le_of_ble_eq_true rfl⟩) hS (fun q _ h => MA.le hS.1 q h) (MA.le hS.1) (fun x t H locs ht hvm hw hB _ _ hS => ?_)
    have hP := mB.at ht hB
    clear hB ht hvm
    obtain ⟨st21, sl22⟩ := x
    obtain ⟨hG2, hL2, hw⟩ := hw
    have hL : LQ [7, 9] sl sl22 := hL.tr hL2 (by decide)
    clear hL2
    dsimp only at hw
    have hP : va_P (dC, dI) vwCl (mw ar cy st21 sl22) _ := hP
    have hG : MG [2, 3, 4, 5, 6, 7, 8, 9, 10, 11, 12, 13, 14, 15, 16, 17, 19, 21, 22, 23] st st21 := hG.tr hG2 (by decide)
    have hGst21 : MG [2, 3, 4, 5, 6, 7, 8, 9, 10, 11, 12, 13, 14, 15, 16, 17, 19, 21, 22, 23] st15 st21 := hG2
    clear hG2
    obtain ⟨hf23, hf24, hf25⟩ := hw
    refine lv_aload_n hx hb dX12_feed_41 rfl (lv_at hl 0 rfl) ?_
    refine lv_iload hx hb dX12_feed_42 (lv_at hl 5 rfl) ?_
    refine va_callv (va_runV (As := [.int ve]) (rest := []) ⟨hx, hb, hml, hown, hts⟩ (m_come l dC dI ar cy _ hN st21 sl22 ve ((((gt + 4) + 4) + 4) + 4)  hG.1 (by rw [hf23]) (by omega)) (cwV 1 hts gX12_feed_X12_come rfl rfl rfl (by decide +kernel) ⟨Nat.le_of_ble_eq_true rfl, Nat.le_of_ble_eq_true rfl⟩) ⟨fun a U g mk q => ⟨q.1, mPre.blind q.2⟩, va_recv hK hP (ci := 11) (q0 := 0) rfl rfl, fun U hU hW => ⟨rfl, mPre.of hP hK hU hW⟩⟩ rfl rfl hl.1 rfl (lv_room (Nat.le_of_ble_eq_true rfl)) dX12_feed_44 ⟨Nat.le_of_ble_eq_true rfl, Nat.le_of_ble_eq_true rfl⟩) hS (fun q _ h => MA.le hS.1 q h) (MA.le hS.1) (fun x t H locs ht hvm hw hB _ _ hS => ?_)
    have hP := mB.at ht hB
    clear hB ht hvm
    obtain ⟨st27, sl28⟩ := x
    obtain ⟨hG2, hL2, hw⟩ := hw
    have hL : LQ [7, 9] sl sl28 := hL.tr hL2 (by decide)
    clear hL2
    dsimp only at hw
    have hP : va_P (dC, dI) vwCl (mw ar cy st27 sl28) _ := hP
    have hG : MG [2, 3, 4, 5, 6, 7, 8, 9, 10, 11, 12, 13, 14, 15, 16, 17, 19, 21, 22, 23] st st27 := hG.tr hG2 (by decide)
    have hGst27 : MG [2, 3, 4, 5, 6, 7, 8, 9, 10, 11, 12, 13, 14, 15, 16, 17, 19, 21, 22, 23] st21 st27 := hG2
    clear hG2
    obtain ⟨hf29, hf30, hf31⟩ := hw
    refine lv_aload_n hx hb dX12_feed_47 rfl (lv_at hl 0 rfl) ?_
    refine va_get (D := (dC, dI)) (ci := 11) (v := .int (st27 0 2)) (C := RX12) (T := TX12) (N := 47) hx hb hts ii_X12_feed hown hK hP 0 rfl rfl 2 (by decide) (hts _ mm_X12_feed_2) (fun _ hh => hh) rfl dX12_feed_48 ?_
    refine zz_top (v := (nI (((((gt + 4) + 4) + 4) + 4) + 4))) (by show st27 0 2 = _; rw [hf29]) ?_
    have hA8 : ∀ j, j < gt → st27 1 j = st1 1 j := fun j hj => by
      rw [hf30 j (by omega), hf24 j (by omega), hf18 j (by omega), hf12 j (by omega), hf6 j (by omega)]
    have hB8 : ∀ j, j < 20 → st27 1 (gt + j) = nI (fby va vb vc vd ve j) := fun j hj => by
      unfold fby
      by_cases c1 : j < 4
      · rw [if_pos c1, hf30 (gt + j) (by omega), hf24 (gt + j) (by omega), hf18 (gt + j) (by omega), hf12 (gt + j) (by omega), hf7 j (by omega)]
      · rw [if_neg c1]
        by_cases c2 : j < 8
        · rw [if_pos c2, hf30 (gt + j) (by omega), hf24 (gt + j) (by omega), hf18 (gt + j) (by omega), show gt + j = (gt + 4) + (j - 4) by omega, hf13 (j - 4) (by omega)]
        · rw [if_neg c2]
          by_cases c3 : j < 12
          · rw [if_pos c3, hf30 (gt + j) (by omega), hf24 (gt + j) (by omega), show gt + j = ((gt + 4) + 4) + (j - 8) by omega, hf19 (j - 8) (by omega)]
          · rw [if_neg c3]
            by_cases c4 : j < 16
            · rw [if_pos c4, hf30 (gt + j) (by omega), show gt + j = (((gt + 4) + 4) + 4) + (j - 12) by omega, hf25 (j - 12) (by omega)]
            · rw [if_neg c4]
              rw [show gt + j = ((((gt + 4) + 4) + 4) + 4) + (j - 16) by omega, hf31 (j - 16) (by omega)]
    exact W.iret (v := (nI (((((gt + 4) + 4) + 4) + 4) + 4))) hx hb hr (fun t ht hW => ⟨⟨(nI (((((gt + 4) + 4) + 4) + 4) + 4)), (st27, sl28), rfl, ⟨hG, hL, Or.inr ⟨(((((gt + 4) + 4) + 4) + 4) + 4), rfl, by omega, by omega, by show st27 0 2 = _; rw [hf29], fun j hj => (hA8 j hj).trans (by rw [est1, up2_ne (r := 0) (k := 0) (a := 1) (j := j) _ _ (by omega)]), hB8⟩⟩, mB.of ht hP⟩, hS.F ht⟩) hS.2.2 dX12_feed_51
  · have c1 : ¬ (gt + 20) ≤ 940 := fun hh => c1 ((nI_leI (a := (gt + 20)) (b := 940) (by omega) (by omega)).mpr hh)
    refine lv_iconst (v := (-1)) hx hb dX12_feed_18 (by decide) ?_
    exact W.iret (v := (-1)) hx hb hr (fun t ht hW => ⟨⟨(-1), (st1, sl), rfl, ⟨hG, hL, Or.inl ⟨rfl, by omega, by show st1 0 2 = _; rw [est1, up2_ne (r := 0) (k := 0) (a := 0) (j := 2) _ _ (by omega), hgt], fun j => by show st1 1 j = st 1 j; rw [est1, up2_ne (r := 0) (k := 0) (a := 1) (j := j) _ _ (by omega)]⟩⟩, mB.of ht hP⟩, hS.F ht⟩) hS.2.2 dX12_feed_19
set_option maxHeartbeats 4000000 in
set_option maxRecDepth 100000 in
theorem m_end (l : Launch) (dC : Nat → ClassId) (dI : Nat → Nat → Nat) (ar : Nat → Nat) (cy : Nat → ClassId) (sz : Nat) (hN : MN ar) (st : Nat → Nat → Int32) (sl : Nat → Nat → Int64) (va : Int32) (gt : Nat) (hI : MI st) (hgt : st 0 2 = nI gt) (ht2 : gt < 941) : Met l yX12_end wsX12_end ({ frames := 0, cells := 0, slots := 0, locals := 0 }) (va_Pc [.ref (ar 0), .int va] (mPre dC dI ar cy sz st sl)) (va_Qi (fun (r : Int32) (x : MT) => MG [2, 3, 4, 5, 6, 7, 8, 9, 10, 11, 12, 13, 14, 15, 16, 17, 19, 20, 21, 22, 23] st x.1 ∧ LQ [7, 9] sl x.2 ∧ ((∃ n : Nat, r = 1 ∧ va = nI n ∧ n ≤ gt ∧ x.1 0 2 = nI n) ∨ (r = 0 ∧ (¬ ∃ n, n ≤ gt ∧ va = nI n) ∧ x.1 0 2 = nI gt))) (mB dC dI ar cy) (MA ar sz)) 0 0 (MA ar sz) := by
  refine Met.ofW (cc := cX12_end) (maxL := 2) (ret := (some .boolean)) (by decide) rfl ?_
  intro p e s m args below meth c s₁ B hml hv
  obtain ⟨rfl, hsz, hP, hK⟩ := hv
  have hx := B.exec
  have hb := B.bytes
  have hr := B.returns
  have hts := atoms_spec (ws := wsX12_end) B.pre
  have hown : s.vm.findClass RX12 = some m.cls := findClass_of_methodNamed B.named
  subst hsz
  have hS : va_S (MA ar s.heap.size) s.heap s.heap [] := va_S.rf
  have hG : MG [2, 3, 4, 5, 6, 7, 8, 9, 10, 11, 12, 13, 14, 15, 16, 17, 19, 20, 21, 22, 23] st st := MG.rf hI
  have hl := lv_entry ([.ref (ar 0), .int va]) (n := 2) (Nat.le_of_ble_eq_true rfl)
  rw [lg_entry_eq]
  generalize (lg_sl ([.ref (ar 0), .int va]) ++ List.replicate (2 - (lg_sl ([.ref (ar 0), .int va])).length) Slot.unset).toArray = ls at hl ⊢
  have hl : lv_has ls 2 [(0, .ref (ar 0)), (1, .int va)] := hl
  clear hI
  have hL : LQ [7, 9] sl sl := LQ.rf
  refine lv_aload_n hx hb dX12_end_0 rfl (lv_at hl 0 rfl) ?_
  refine lv_iconst (v := 0) hx hb dX12_end_1 (by decide) ?_
  refine va_put (D := (dC, dI)) (ci := 11) (v := .int 0) (ty := .int) (C := RX12) (T := TX12) (N := 47) hx hb hts ii_X12_end tyX12 tyX12_ok nmX12 hown hK hP (mD hN _ _ _ _) hS 0 rfl rfl 0 (by decide) (hts _ mm_X12_end_1) (fun _ hh => hh) rfl (by decide +kernel) rfl rfl (Nat.le_of_ble_eq_true rfl) dX12_end_2 (fun H locs hP _ hS => ?_)
  have hP : va_P (dC, dI) vwCl (mw ar cy (up2 st 0 0 0) sl) H := hP
  obtain ⟨st1, est1⟩ : ∃ y, y = up2 st 0 0 0 := ⟨_, rfl⟩
  have hG : MG [2, 3, 4, 5, 6, 7, 8, 9, 10, 11, 12, 13, 14, 15, 16, 17, 19, 20, 21, 22, 23] st st1 := by rw [est1]; exact hG.up (rz (by decide : mr 0 0 = 0)) (pn (by decide : pcl 0 0 = 0) (by decide))
  rw [← est1] at hP
  refine lv_iload_n hx hb dX12_end_5 rfl (lv_at hl 1 rfl) ?_
  refine lv_if_lt (tgt := 17) hx hb dX12_end_6 (by decide) (fun c1 => ?_) (fun c1 => ?_)
  · refine lv_iconst (v := 0) hx hb dX12_end_17 (by decide) ?_
    exact W.zret (v := 0) hx hb hr rfl (fun t ht hW => ⟨⟨0, (st1, sl), rfl, ⟨hG, hL, Or.inr ⟨rfl, fun hh => by obtain ⟨jj, hk, rfl⟩ := hh; exact absurd c1 (nI_pos (by omega)), by show st1 0 2 = _; rw [est1, up2_ne (r := 0) (k := 0) (a := 0) (j := 2) _ _ (by omega), hgt]⟩⟩, mB.of ht hP⟩, hS.F ht⟩) hS.2.2 dX12_end_18
  · obtain ⟨jn, hjn, rfl⟩ := nI_of c1
    refine lv_iload_n hx hb dX12_end_9 rfl (lv_at hl 1 rfl) ?_
    refine lv_aload_n hx hb dX12_end_10 rfl (lv_at hl 0 rfl) ?_
    refine va_get (D := (dC, dI)) (ci := 11) (v := .int (st1 0 2)) (C := RX12) (T := TX12) (N := 47) hx hb hts ii_X12_end hown hK hP 0 rfl rfl 2 (by decide) (hts _ mm_X12_end_2) (fun _ hh => hh) rfl dX12_end_11 ?_
    refine zz_top (v := (nI gt)) (by show st1 0 2 = _; rw [est1, up2_ne (r := 0) (k := 0) (a := 0) (j := 2) _ _ (by omega), hgt]) ?_
    refine lv_icmp_le (tgt := 19) hx hb dX12_end_14 (by decide) (fun c2 => ?_) (fun c2 => ?_)
    · have c2 : jn ≤ gt := (nI_leI (a := jn) (b := gt) (by omega) (by omega)).mp c2
      refine lv_aload_n hx hb dX12_end_19 rfl (lv_at hl 0 rfl) ?_
      refine lv_iload_n hx hb dX12_end_20 rfl (lv_at hl 1 rfl) ?_
      refine va_put (D := (dC, dI)) (ci := 11) (v := .int (nI jn)) (ty := .int) (C := RX12) (T := TX12) (N := 47) hx hb hts ii_X12_end tyX12 tyX12_ok nmX12 hown hK hP (mD hN _ _ _ _) hS 0 rfl rfl 2 (by decide) (hts _ mm_X12_end_2) (fun _ hh => hh) rfl (by decide +kernel) rfl rfl (Nat.le_of_ble_eq_true rfl) dX12_end_21 (fun H locs hP _ hS => ?_)
      have hP : va_P (dC, dI) vwCl (mw ar cy (up2 st1 0 2 (nI jn)) sl) H := hP
      obtain ⟨st2, est2⟩ : ∃ y, y = up2 st1 0 2 (nI jn) := ⟨_, rfl⟩
      have hG : MG [2, 3, 4, 5, 6, 7, 8, 9, 10, 11, 12, 13, 14, 15, 16, 17, 19, 20, 21, 22, 23] st st2 := by rw [est2]; exact hG.up (rn (n := jn) (by decide : mr 0 2 = 941) (by omega)) (pn (by decide : pcl 0 2 = 1) (by decide))
      rw [← est2] at hP
      refine lv_iconst (v := 1) hx hb dX12_end_24 (by decide) ?_
      exact W.zret (v := 1) hx hb hr rfl (fun t ht hW => ⟨⟨1, (st2, sl), rfl, ⟨hG, hL, Or.inl ⟨jn, rfl, rfl, by omega, by show st2 0 2 = _; rw [est2, up2_same]⟩⟩, mB.of ht hP⟩, hS.F ht⟩) hS.2.2 dX12_end_25
    · have c2 : ¬ jn ≤ gt := fun hh => c2 ((nI_leI (a := jn) (b := gt) (by omega) (by omega)).mpr hh)
      refine lv_iconst (v := 0) hx hb dX12_end_17 (by decide) ?_
      exact W.zret (v := 0) hx hb hr rfl (fun t ht hW => ⟨⟨0, (st1, sl), rfl, ⟨hG, hL, Or.inr ⟨rfl, fun hh => by obtain ⟨jj, hk, ee⟩ := hh; have := (nI_eq (a := jn) (b := jj) (by omega) (by omega)).mp ee; omega, by show st1 0 2 = _; rw [est1, up2_ne (r := 0) (k := 0) (a := 0) (j := 2) _ _ (by omega), hgt]⟩⟩, mB.of ht hP⟩, hS.F ht⟩) hS.2.2 dX12_end_18
