set_option maxHeartbeats 4000000 in
set_option maxRecDepth 100000 in
theorem m_dogHours (l : Launch) (dC : Nat → ClassId) (dI : Nat → Nat → Nat) (ar : Nat → Nat) (cy : Nat → ClassId) (sz : Nat) (hN : MN ar) (st : Nat → Nat → Int32) (sl : Nat → Nat → Int64) (va : Int32) (hI : MI st) : Met l yX12_dogHours wsX12_dogHours ({ frames := 2, cells := 0, slots := 0, locals := 42 }) (va_Pc [.ref (ar 0), .int va] (mPre dC dI ar cy sz st sl)) (va_Qi (fun (r : Int32) (x : MT) => x = (st, sl) ∧ (True)) (mB dC dI ar cy) (MA ar sz)) 0 0 (MA ar sz) := by
  refine Met.ofW (cc := cX12_dogHours) (maxL := 4) (ret := (some .int)) (by decide) rfl ?_
  intro p e s m args below meth c s₁ B hml hv
  obtain ⟨rfl, hsz, hP, hK⟩ := hv
  have hx := B.exec
  have hb := B.bytes
  have hr := B.returns
  have hts := atoms_spec (ws := wsX12_dogHours) B.pre
  have hown : s.vm.findClass RX12 = some m.cls := findClass_of_methodNamed B.named
  subst hsz
  have hS : va_S (MA ar s.heap.size) s.heap s.heap [] := va_S.rf
  have hG : MG [1, 2, 3, 4, 5, 6, 7, 8, 9, 10, 11, 12, 13, 14, 15, 16, 17, 19, 20, 21, 22, 23] st st := MG.rf hI
  have hl := lv_entry ([.ref (ar 0), .int va]) (n := 4) (Nat.le_of_ble_eq_true rfl)
  rw [lg_entry_eq]
  generalize (lg_sl ([.ref (ar 0), .int va]) ++ List.replicate (4 - (lg_sl ([.ref (ar 0), .int va])).length) Slot.unset).toArray = ls at hl ⊢
  have hl : lv_has ls 4 [(0, .ref (ar 0)), (1, .int va)] := hl
  clear hI
  refine lv_iconst (v := 0) hx hb dX12_dogHours_0 (by decide) ?_
  refine lv_istore_n (lv' := [(2, .int 0), (0, .ref (ar 0)), (1, .int va)]) hx hb dX12_dogHours_1 rfl hl (by decide) rfl (fun ls hl => ?_)
  refine lv_iconst (v := 0) hx hb dX12_dogHours_2 (by decide) ?_
  refine lv_istore_n (lv' := [(3, .int 0), (2, .int 0), (0, .ref (ar 0)), (1, .int va)]) hx hb dX12_dogHours_3 rfl hl (by decide) rfl (fun ls hl => ?_)
  refine zz_wf (fun n stk H locs ls => ∃ k1 : Nat, ∃ z2 : Int32, n = 7 - k1 ∧ 0 ≤ k1 ∧ k1 < 7 ∧ va_P (dC, dI) vwCl (mw ar cy st sl) H ∧ va_S (MA ar s.heap.size) s.heap H locs ∧ lv_has ls 4 [(3, .int (nI k1)), (2, .int z2), (0, .ref (ar 0)), (1, .int va)] ∧ stk = []) ?_ (7 - 0) _ _ _ _ ⟨0, 0, rfl, by omega, by omega, hP, hS, lv_sub hl [0, 1, 2, 3] rfl, rfl⟩
  rintro nn stk H locs ls ⟨k1, z2, hm4, hv3_0, hv4_1, hP, hS, hl, rfl⟩ ih5
  refine lv_iload_n hx hb dX12_dogHours_4 rfl (lv_at hl 0 rfl) ?_
  refine lv_aload_n hx hb dX12_dogHours_5 rfl (lv_at hl 2 rfl) ?_
  refine va_get (D := (dC, dI)) (ci := 11) (v := .ref (ar 2)) (C := RX12) (T := TX12) (N := 47) hx hb hts ii_X12_dogHours hown hK hP 0 rfl rfl 14 (by decide) (hts _ mm_X12_dogHours_1) (fun _ hh => hh) rfl dX12_dogHours_6 ?_
  refine lv_iconst (v := 2) hx hb dX12_dogHours_9 (by decide) ?_
  refine va_iald hx hb hK hP 2 1 rfl rfl (i := 2) (zz_in (by decide)) dX12_dogHours_10 ?_
  obtain ⟨n6, hn6, en6⟩ := hG.1.at (r := 2) (k := 2) (by decide : mr 2 2 = 7) (by decide)
  refine zz_top (v := nI n6) (by exact en6) ?_
  clear en6
  refine lv_icmp_ge (tgt := 71) hx hb dX12_dogHours_11 (by decide) (fun c1 => ?_) (fun c1 => ?_)
  · have c1 : n6 ≤ k1 := (nI_leI (a := n6) (b := k1) (by omega) (by omega)).mp c1
    refine lv_iload_n hx hb dX12_dogHours_71 rfl (lv_at hl 1 rfl) ?_
    exact W.iret (v := z2) hx hb hr (fun t ht hW => ⟨⟨z2, (st, sl), rfl, ⟨rfl, trivial⟩, mB.of ht hP⟩, hS.F ht⟩) hS.2.2 dX12_dogHours_72
  · have c1 : ¬ n6 ≤ k1 := fun hh => c1 ((nI_leI (a := n6) (b := k1) (by omega) (by omega)).mpr hh)
    refine lv_aload_n hx hb dX12_dogHours_14 rfl (lv_at hl 2 rfl) ?_
    refine va_get (D := (dC, dI)) (ci := 11) (v := .ref (ar 2)) (C := RX12) (T := TX12) (N := 47) hx hb hts ii_X12_dogHours hown hK hP 0 rfl rfl 14 (by decide) (hts _ mm_X12_dogHours_1) (fun _ hh => hh) rfl dX12_dogHours_15 ?_
    refine lv_bipush (v := 64) hx hb dX12_dogHours_18 (by decide) ?_
    refine va_iald hx hb hK hP 2 1 rfl rfl (i := 64) (zz_in (by decide)) dX12_dogHours_20 ?_
    refine lv_topi (fun z7 ez7 => ?_)
    clear ez7
    refine lv_iload_n hx hb dX12_dogHours_21 rfl (lv_at hl 0 rfl) ?_
    refine va_calli (va_runS (As := [.int z7, .int (nI k1)]) (rest := []) ⟨hx, hb, hml, hown, hts⟩ (m_has l dC dI ar cy _ hN st sl z7 (nI k1)  hG.1) (va_cwS 2 hts gX12_dogHours_X12_has rfl rfl rfl (by decide +kernel) ⟨Nat.le_of_ble_eq_true rfl, Nat.le_of_ble_eq_true rfl⟩) ⟨fun a U g mk q => ⟨q.1, mPre.blind q.2⟩, fun U hU hW => ⟨rfl, mPre.of hP hK hU hW⟩⟩ rfl rfl hl.1 rfl (lv_room (Nat.le_of_ble_eq_true rfl)) dX12_dogHours_22 ⟨Nat.le_of_ble_eq_true rfl, Nat.le_of_ble_eq_true rfl⟩) hS (fun q _ h => MA.le hS.1 q h) (MA.le hS.1) (fun r8 x t H locs ht hvm hw hB _ _ hS => ?_)
    have hP := mB.at ht hB
    clear hB ht hvm
    obtain ⟨rfl, hw⟩ := hw
    have hP : va_P (dC, dI) vwCl (mw ar cy st sl) _ := hP
    rcases hw with rfl | rfl
    · refine lv_if_ne (tgt := 65) hx hb dX12_dogHours_25 (by decide) (fun _ => ?_) (fun cc => absurd cc (by decide))
      refine lv_iinc (v := (nI (k1 + 1))) (lv' := [(3, .int (nI (k1 + 1))), (2, .int z2), (0, .ref (ar 0)), (1, .int va)]) hx hb dX12_dogHours_65 hl (k := 0) rfl (nI_add k1 1) (by decide) rfl (fun ls hl => ?_)
      refine lv_goto (tgt := 4) hx hb dX12_dogHours_68 (by decide) ?_
      exact ih5 (7 - (k1 + 1)) _ _ _ _ (by omega) ⟨(k1 + 1), z2, rfl, by omega, by omega, hP, hS, lv_sub hl [0, 1, 2, 3] rfl, rfl⟩
    · refine lv_if_ne (tgt := 65) hx hb dX12_dogHours_25 (by decide) (fun cc => absurd (by decide) cc) (fun _ => ?_)
      refine lv_aload_n hx hb dX12_dogHours_28 rfl (lv_at hl 2 rfl) ?_
      refine va_get (D := (dC, dI)) (ci := 11) (v := .ref (ar 2)) (C := RX12) (T := TX12) (N := 47) hx hb hts ii_X12_dogHours hown hK hP 0 rfl rfl 14 (by decide) (hts _ mm_X12_dogHours_1) (fun _ hh => hh) rfl dX12_dogHours_29 ?_
      refine lv_bipush (v := 71) hx hb dX12_dogHours_32 (by decide) ?_
      refine lv_aload_n hx hb dX12_dogHours_34 rfl (lv_at hl 2 rfl) ?_
      refine va_get (D := (dC, dI)) (ci := 11) (v := .ref (ar 2)) (C := RX12) (T := TX12) (N := 47) hx hb hts ii_X12_dogHours hown hK hP 0 rfl rfl 14 (by decide) (hts _ mm_X12_dogHours_1) (fun _ hh => hh) rfl dX12_dogHours_35 ?_
      refine lv_bipush (v := 42) hx hb dX12_dogHours_38 (by decide) ?_
      refine lv_iload_n hx hb dX12_dogHours_40 rfl (lv_at hl 0 rfl) ?_
      refine lv_iadd hx hb dX12_dogHours_41 ?_
      refine zz_top (v := nI (42 + k1)) (nI_add 42 k1) ?_
      refine va_iald hx hb hK hP 2 1 rfl rfl (i := (nI (42 + k1))) (vp_in_nI (by omega) (by decide)) dX12_dogHours_42 ?_
      obtain ⟨n9, hn9, en9⟩ := hG.1.at (r := 2) (k := (42 + k1)) (mr_2_42_48 (42 + k1) (by omega) (by omega)) (by decide)
      refine zz_top (v := nI n9) (by rw [nI_clamp (by omega)]; exact en9) ?_
      clear en9
      refine lv_iadd hx hb dX12_dogHours_43 ?_
      refine zz_top (v := nI (71 + n9)) (nI_add 71 n9) ?_
      refine va_iald hx hb hK hP 2 1 rfl rfl (i := (nI (71 + n9))) (vp_in_nI (by omega) (by decide)) dX12_dogHours_44 ?_
      obtain ⟨n10, hn10, en10⟩ := hG.1.at (r := 2) (k := (71 + n9)) (mr_2_71_79 (71 + n9) (by omega) (by omega)) (by decide)
      refine zz_top (v := nI n10) (by rw [nI_clamp (by omega)]; exact en10) ?_
      clear en10
      refine lv_iload_n hx hb dX12_dogHours_45 rfl (lv_at hl 3 rfl) ?_
      refine lv_icmp_ne (tgt := 65) hx hb dX12_dogHours_46 (by decide) (fun c4 => ?_) (fun c4 => ?_)
      · refine lv_iinc (v := (nI (k1 + 1))) (lv' := [(3, .int (nI (k1 + 1))), (2, .int z2), (0, .ref (ar 0)), (1, .int va)]) hx hb dX12_dogHours_65 hl (k := 0) rfl (nI_add k1 1) (by decide) rfl (fun ls hl => ?_)
        refine lv_goto (tgt := 4) hx hb dX12_dogHours_68 (by decide) ?_
        exact ih5 (7 - (k1 + 1)) _ _ _ _ (by omega) ⟨(k1 + 1), z2, rfl, by omega, by omega, hP, hS, lv_sub hl [0, 1, 2, 3] rfl, rfl⟩
      · refine lv_iload_n hx hb dX12_dogHours_49 rfl (lv_at hl 1 rfl) ?_
        refine lv_aload_n hx hb dX12_dogHours_50 rfl (lv_at hl 2 rfl) ?_
        refine lv_aload_n hx hb dX12_dogHours_51 rfl (lv_at hl 2 rfl) ?_
        refine va_get (D := (dC, dI)) (ci := 11) (v := .ref (ar 2)) (C := RX12) (T := TX12) (N := 47) hx hb hts ii_X12_dogHours hown hK hP 0 rfl rfl 14 (by decide) (hts _ mm_X12_dogHours_1) (fun _ hh => hh) rfl dX12_dogHours_52 ?_
        refine lv_bipush (v := 42) hx hb dX12_dogHours_55 (by decide) ?_
        refine lv_iload_n hx hb dX12_dogHours_57 rfl (lv_at hl 0 rfl) ?_
        refine lv_iadd hx hb dX12_dogHours_58 ?_
        refine zz_top (v := nI (42 + k1)) (nI_add 42 k1) ?_
        refine va_iald hx hb hK hP 2 1 rfl rfl (i := (nI (42 + k1))) (vp_in_nI (by omega) (by decide)) dX12_dogHours_59 ?_
        obtain ⟨n11, hn11, en11⟩ := hG.1.at (r := 2) (k := (42 + k1)) (mr_2_42_48 (42 + k1) (by omega) (by omega)) (by decide)
        refine zz_top (v := nI n11) (by rw [nI_clamp (by omega)]; exact en11) ?_
        clear en11
        refine va_calli (va_runV (As := [.int (nI n11)]) (rest := [.int z2]) ⟨hx, hb, hml, hown, hts⟩ (m_hoursOf l dC dI ar cy _ hN st sl n11 (by omega) hG.1) (cwV 1 hts gX12_dogHours_X12_hoursOf rfl rfl rfl (by decide +kernel) ⟨Nat.le_of_ble_eq_true rfl, Nat.le_of_ble_eq_true rfl⟩) ⟨fun a U g mk q => ⟨q.1, mPre.blind q.2⟩, va_recv hK hP (ci := 11) (q0 := 0) rfl rfl, fun U hU hW => ⟨rfl, mPre.of hP hK hU hW⟩⟩ rfl rfl hl.1 rfl (lv_room (Nat.le_of_ble_eq_true rfl)) dX12_dogHours_60 ⟨Nat.le_of_ble_eq_true rfl, Nat.le_of_ble_eq_true rfl⟩) hS (fun q _ h => MA.le hS.1 q h) (MA.le hS.1) (fun r12 x t H locs ht hvm hw hB _ _ hS => ?_)
        have hP := mB.at ht hB
        clear hB ht hvm
        obtain ⟨rfl, hw⟩ := hw
        have hP : va_P (dC, dI) vwCl (mw ar cy st sl) _ := hP
        clear hw
        refine lv_ior hx hb dX12_dogHours_63 ?_
        refine lv_topi (fun z13 ez13 => ?_)
        clear ez13
        refine lv_istore_n (lv' := [(2, .int z13), (3, .int (nI k1)), (0, .ref (ar 0)), (1, .int va)]) hx hb dX12_dogHours_64 rfl hl (by decide) rfl (fun ls hl => ?_)
        refine lv_iinc (v := (nI (k1 + 1))) (lv' := [(3, .int (nI (k1 + 1))), (2, .int z13), (0, .ref (ar 0)), (1, .int va)]) hx hb dX12_dogHours_65 hl (k := 1) rfl (nI_add k1 1) (by decide) rfl (fun ls hl => ?_)
        refine lv_goto (tgt := 4) hx hb dX12_dogHours_68 (by decide) ?_
        exact ih5 (7 - (k1 + 1)) _ _ _ _ (by omega) ⟨(k1 + 1), z13, rfl, by omega, by omega, hP, hS, lv_sub hl [0, 1, 2, 3] rfl, rfl⟩
set_option maxHeartbeats 4000000 in
set_option maxRecDepth 100000 in
theorem m_goodOf (l : Launch) (dC : Nat → ClassId) (dI : Nat → Nat → Nat) (ar : Nat → Nat) (cy : Nat → ClassId) (sz : Nat) (hN : MN ar) (st : Nat → Nat → Int32) (sl : Nat → Nat → Int64) (vp : Nat) (hvp : vp < 8) (hI : MI st) : Met l yX12_goodOf wsX12_goodOf ({ frames := 3, cells := 0, slots := 0, locals := 65 }) (va_Pc [.ref (ar 0), .int (nI vp)] (mPre dC dI ar cy sz st sl)) (va_Qi (fun (r : Int32) (x : MT) => x = (st, sl) ∧ (True)) (mB dC dI ar cy) (MA ar sz)) 0 0 (MA ar sz) := by
  refine Met.ofW (cc := cX12_goodOf) (maxL := 4) (ret := (some .int)) (by decide) rfl ?_
  intro p e s m args below meth c s₁ B hml hv
  obtain ⟨rfl, hsz, hP, hK⟩ := hv
  have hx := B.exec
  have hb := B.bytes
  have hr := B.returns
  have hts := atoms_spec (ws := wsX12_goodOf) B.pre
  have hown : s.vm.findClass RX12 = some m.cls := findClass_of_methodNamed B.named
  subst hsz
  have hS : va_S (MA ar s.heap.size) s.heap s.heap [] := va_S.rf
  have hG : MG [1, 2, 3, 4, 5, 6, 7, 8, 9, 10, 11, 12, 13, 14, 15, 16, 17, 19, 20, 21, 22, 23] st st := MG.rf hI
  have hl := lv_entry ([.ref (ar 0), .int (nI vp)]) (n := 4) (Nat.le_of_ble_eq_true rfl)
  rw [lg_entry_eq]
  generalize (lg_sl ([.ref (ar 0), .int (nI vp)]) ++ List.replicate (4 - (lg_sl ([.ref (ar 0), .int (nI vp)])).length) Slot.unset).toArray = ls at hl ⊢
  have hl : lv_has ls 4 [(0, .ref (ar 0)), (1, .int (nI vp))] := hl
  clear hI
  refine lv_aload_n hx hb dX12_goodOf_0 rfl (lv_at hl 0 rfl) ?_
  refine va_get (D := (dC, dI)) (ci := 11) (v := .ref (ar 2)) (C := RX12) (T := TX12) (N := 47) hx hb hts ii_X12_goodOf hown hK hP 0 rfl rfl 14 (by decide) (hts _ mm_X12_goodOf_1) (fun _ hh => hh) rfl dX12_goodOf_1 ?_
  refine lv_bipush (v := 71) hx hb dX12_goodOf_4 (by decide) ?_
  refine lv_iload_n hx hb dX12_goodOf_6 rfl (lv_at hl 1 rfl) ?_
  refine lv_iadd hx hb dX12_goodOf_7 ?_
  refine zz_top (v := nI (71 + vp)) (nI_add 71 vp) ?_
  refine va_iald hx hb hK hP 2 1 rfl rfl (i := (nI (71 + vp))) (vp_in_nI (by omega) (by decide)) dX12_goodOf_8 ?_
  obtain ⟨n1, hn1, en1⟩ := hG.1.at (r := 2) (k := (71 + vp)) (mr_2_71_79 (71 + vp) (by omega) (by omega)) (by decide)
  refine zz_top (v := nI n1) (by rw [nI_clamp (by omega)]; exact en1) ?_
  clear en1
  refine lv_istore_n (lv' := [(2, .int (nI n1)), (0, .ref (ar 0)), (1, .int (nI vp))]) hx hb dX12_goodOf_9 rfl hl (by decide) rfl (fun ls hl => ?_)
  refine lv_aload_n hx hb dX12_goodOf_10 rfl (lv_at hl 1 rfl) ?_
  refine lv_iload_n hx hb dX12_goodOf_11 rfl (lv_at hl 2 rfl) ?_
  refine va_calli (va_runV (As := [.int (nI vp)]) (rest := []) ⟨hx, hb, hml, hown, hts⟩ (m_dogsOf l dC dI ar cy _ hN st sl (nI vp)  hG.1) (cwV 1 hts gX12_goodOf_X12_dogsOf rfl rfl rfl (by decide +kernel) ⟨Nat.le_of_ble_eq_true rfl, Nat.le_of_ble_eq_true rfl⟩) ⟨fun a U g mk q => ⟨q.1, mPre.blind q.2⟩, va_recv hK hP (ci := 11) (q0 := 0) rfl rfl, fun U hU hW => ⟨rfl, mPre.of hP hK hU hW⟩⟩ rfl rfl hl.1 rfl (lv_room (Nat.le_of_ble_eq_true rfl)) dX12_goodOf_12 ⟨Nat.le_of_ble_eq_true rfl, Nat.le_of_ble_eq_true rfl⟩) hS (fun q _ h => MA.le hS.1 q h) (MA.le hS.1) (fun r2 x t H locs ht hvm hw hB _ _ hS => ?_)
  have hP := mB.at ht hB
  clear hB ht hvm
  obtain ⟨rfl, hw⟩ := hw
  have hP : va_P (dC, dI) vwCl (mw ar cy st sl) _ := hP
  clear hw
  refine lv_if_eq (tgt := 37) hx hb dX12_goodOf_15 (by decide) (fun c1 => ?_) (fun c1 => ?_)
  · refine lv_aload_n hx hb dX12_goodOf_37 rfl (lv_at hl 1 rfl) ?_
    refine lv_iload_n hx hb dX12_goodOf_38 rfl (lv_at hl 0 rfl) ?_
    refine va_calli (va_runV (As := [.int (nI n1)]) (rest := []) ⟨hx, hb, hml, hown, hts⟩ (m_isFenced l dC dI ar cy _ hN st sl (nI n1)  hG.1) (cwV 1 hts gX12_goodOf_X12_isFenced rfl rfl rfl (by decide +kernel) ⟨Nat.le_of_ble_eq_true rfl, Nat.le_of_ble_eq_true rfl⟩) ⟨fun a U g mk q => ⟨q.1, mPre.blind q.2⟩, va_recv hK hP (ci := 11) (q0 := 0) rfl rfl, fun U hU hW => ⟨rfl, mPre.of hP hK hU hW⟩⟩ rfl rfl hl.1 rfl (lv_room (Nat.le_of_ble_eq_true rfl)) dX12_goodOf_39 ⟨Nat.le_of_ble_eq_true rfl, Nat.le_of_ble_eq_true rfl⟩) hS (fun q _ h => MA.le hS.1 q h) (MA.le hS.1) (fun r3 x t H locs ht hvm hw hB _ _ hS => ?_)
    have hP := mB.at ht hB
    clear hB ht hvm
    obtain ⟨rfl, hw⟩ := hw
    have hP : va_P (dC, dI) vwCl (mw ar cy st sl) _ := hP
    rcases hw with rfl | rfl
    · refine lv_if_eq (tgt := 49) hx hb dX12_goodOf_42 (by decide) (fun cc => absurd cc (by decide)) (fun _ => ?_)
      refine lv_iconst (v := 0) hx hb dX12_goodOf_45 (by decide) ?_
      refine lv_goto (tgt := 64) hx hb dX12_goodOf_46 (by decide) ?_
      refine lv_istore_n (lv' := [(3, .int 0), (2, .int (nI n1)), (0, .ref (ar 0)), (1, .int (nI vp))]) hx hb dX12_goodOf_64 rfl hl (by decide) rfl (fun ls hl => ?_)
      refine lv_aload_n hx hb dX12_goodOf_65 rfl (lv_at hl 2 rfl) ?_
      refine lv_iload_n hx hb dX12_goodOf_66 rfl (lv_at hl 3 rfl) ?_
      refine va_calli (va_runV (As := [.int (nI vp)]) (rest := []) ⟨hx, hb, hml, hown, hts⟩ (m_hoursOf l dC dI ar cy _ hN st sl vp (by omega) hG.1) (cwV 1 hts gX12_goodOf_X12_hoursOf rfl rfl rfl (by decide +kernel) ⟨Nat.le_of_ble_eq_true rfl, Nat.le_of_ble_eq_true rfl⟩) ⟨fun a U g mk q => ⟨q.1, mPre.blind q.2⟩, va_recv hK hP (ci := 11) (q0 := 0) rfl rfl, fun U hU hW => ⟨rfl, mPre.of hP hK hU hW⟩⟩ rfl rfl hl.1 rfl (lv_room (Nat.le_of_ble_eq_true rfl)) dX12_goodOf_67 ⟨Nat.le_of_ble_eq_true rfl, Nat.le_of_ble_eq_true rfl⟩) hS (fun q _ h => MA.le hS.1 q h) (MA.le hS.1) (fun r4 x t H locs ht hvm hw hB _ _ hS => ?_)
      have hP := mB.at ht hB
      clear hB ht hvm
      obtain ⟨rfl, hw⟩ := hw
      have hP : va_P (dC, dI) vwCl (mw ar cy st sl) _ := hP
      clear hw
      refine lv_iload_n hx hb dX12_goodOf_70 rfl (lv_at hl 0 rfl) ?_
      refine lv_iconst (v := (-1)) hx hb dX12_goodOf_71 (by decide) ?_
      refine lv_ixor hx hb dX12_goodOf_72 ?_
      refine zz_top (v := (-1)) (by decide) ?_
      refine lv_iand hx hb dX12_goodOf_73 ?_
      refine lv_topi (fun z5 ez5 => ?_)
      clear ez5
      refine va_calli (va_runS (As := [.int z5]) (rest := []) ⟨hx, hb, hml, hown, hts⟩ (m_bits l dC dI ar cy _ hN st sl z5  hG.1) (va_cwS 1 hts gX12_goodOf_X12_bits rfl rfl rfl (by decide +kernel) ⟨Nat.le_of_ble_eq_true rfl, Nat.le_of_ble_eq_true rfl⟩) ⟨fun a U g mk q => ⟨q.1, mPre.blind q.2⟩, fun U hU hW => ⟨rfl, mPre.of hP hK hU hW⟩⟩ rfl rfl hl.1 rfl (lv_room (Nat.le_of_ble_eq_true rfl)) dX12_goodOf_74 ⟨Nat.le_of_ble_eq_true rfl, Nat.le_of_ble_eq_true rfl⟩) hS (fun q _ h => MA.le hS.1 q h) (MA.le hS.1) (fun r6 x t H locs ht hvm hw hB _ _ hS => ?_)
      have hP := mB.at ht hB
      clear hB ht hvm
      obtain ⟨rfl, hw⟩ := hw
      have hP : va_P (dC, dI) vwCl (mw ar cy st sl) _ := hP
      clear hw
      exact W.iret (v := r6) hx hb hr (fun t ht hW => ⟨⟨r6, (st, sl), rfl, ⟨rfl, trivial⟩, mB.of ht hP⟩, hS.F ht⟩) hS.2.2 dX12_goodOf_77
    · refine lv_if_eq (tgt := 49) hx hb dX12_goodOf_42 (by decide) (fun _ => ?_) (fun cc => absurd (by decide) cc)
      refine lv_aload_n hx hb dX12_goodOf_49 rfl (lv_at hl 1 rfl) ?_
      refine va_get (D := (dC, dI)) (ci := 11) (v := .ref (ar 2)) (C := RX12) (T := TX12) (N := 47) hx hb hts ii_X12_goodOf hown hK hP 0 rfl rfl 14 (by decide) (hts _ mm_X12_goodOf_1) (fun _ hh => hh) rfl dX12_goodOf_50 ?_
      refine lv_bipush (v := 66) hx hb dX12_goodOf_53 (by decide) ?_
      refine lv_iload_n hx hb dX12_goodOf_55 rfl (lv_at hl 0 rfl) ?_
      refine lv_iadd hx hb dX12_goodOf_56 ?_
      refine zz_top (v := nI (66 + n1)) (nI_add 66 n1) ?_
      refine va_iald hx hb hK hP 2 1 rfl rfl (i := (nI (66 + n1))) (vp_in_nI (by omega) (by decide)) dX12_goodOf_57 ?_
      obtain ⟨n7, hn7, en7⟩ := hG.1.at (r := 2) (k := (66 + n1)) (mr_2_66_71 (66 + n1) (by omega) (by omega)) (by decide)
      refine zz_top (v := nI n7) (by rw [nI_clamp (by omega)]; exact en7) ?_
      clear en7
      refine lv_aload_n hx hb dX12_goodOf_58 rfl (lv_at hl 1 rfl) ?_
      refine lv_iload_n hx hb dX12_goodOf_59 rfl (lv_at hl 0 rfl) ?_
      refine va_calli (va_runV (As := [.int (nI n1)]) (rest := [.int (nI n7)]) ⟨hx, hb, hml, hown, hts⟩ (m_dogHours l dC dI ar cy _ hN st sl (nI n1)  hG.1) (cwV 1 hts gX12_goodOf_X12_dogHours rfl rfl rfl (by decide +kernel) ⟨Nat.le_of_ble_eq_true rfl, Nat.le_of_ble_eq_true rfl⟩) ⟨fun a U g mk q => ⟨q.1, mPre.blind q.2⟩, va_recv hK hP (ci := 11) (q0 := 0) rfl rfl, fun U hU hW => ⟨rfl, mPre.of hP hK hU hW⟩⟩ rfl rfl hl.1 rfl (lv_room (Nat.le_of_ble_eq_true rfl)) dX12_goodOf_60 ⟨Nat.le_of_ble_eq_true rfl, Nat.le_of_ble_eq_true rfl⟩) hS (fun q _ h => MA.le hS.1 q h) (MA.le hS.1) (fun r8 x t H locs ht hvm hw hB _ _ hS => ?_)
      have hP := mB.at ht hB
      clear hB ht hvm
      obtain ⟨rfl, hw⟩ := hw
      have hP : va_P (dC, dI) vwCl (mw ar cy st sl) _ := hP
      clear hw
      refine lv_iand hx hb dX12_goodOf_63 ?_
      refine lv_topi (fun z9 ez9 => ?_)
      clear ez9
      refine lv_istore_n (lv' := [(3, .int z9), (2, .int (nI n1)), (0, .ref (ar 0)), (1, .int (nI vp))]) hx hb dX12_goodOf_64 rfl hl (by decide) rfl (fun ls hl => ?_)
      refine lv_aload_n hx hb dX12_goodOf_65 rfl (lv_at hl 2 rfl) ?_
      refine lv_iload_n hx hb dX12_goodOf_66 rfl (lv_at hl 3 rfl) ?_
      refine va_calli (va_runV (As := [.int (nI vp)]) (rest := []) ⟨hx, hb, hml, hown, hts⟩ (m_hoursOf l dC dI ar cy _ hN st sl vp (by omega) hG.1) (cwV 1 hts gX12_goodOf_X12_hoursOf rfl rfl rfl (by decide +kernel) ⟨Nat.le_of_ble_eq_true rfl, Nat.le_of_ble_eq_true rfl⟩) ⟨fun a U g mk q => ⟨q.1, mPre.blind q.2⟩, va_recv hK hP (ci := 11) (q0 := 0) rfl rfl, fun U hU hW => ⟨rfl, mPre.of hP hK hU hW⟩⟩ rfl rfl hl.1 rfl (lv_room (Nat.le_of_ble_eq_true rfl)) dX12_goodOf_67 ⟨Nat.le_of_ble_eq_true rfl, Nat.le_of_ble_eq_true rfl⟩) hS (fun q _ h => MA.le hS.1 q h) (MA.le hS.1) (fun r10 x t H locs ht hvm hw hB _ _ hS => ?_)
      have hP := mB.at ht hB
      clear hB ht hvm
      obtain ⟨rfl, hw⟩ := hw
      have hP : va_P (dC, dI) vwCl (mw ar cy st sl) _ := hP
      clear hw
      refine lv_iload_n hx hb dX12_goodOf_70 rfl (lv_at hl 0 rfl) ?_
      refine lv_iconst (v := (-1)) hx hb dX12_goodOf_71 (by decide) ?_
      refine lv_ixor hx hb dX12_goodOf_72 ?_
      refine lv_topi (fun z11 ez11 => ?_)
      clear ez11
      refine lv_iand hx hb dX12_goodOf_73 ?_
      refine lv_topi (fun z12 ez12 => ?_)
      clear ez12
      refine va_calli (va_runS (As := [.int z12]) (rest := []) ⟨hx, hb, hml, hown, hts⟩ (m_bits l dC dI ar cy _ hN st sl z12  hG.1) (va_cwS 1 hts gX12_goodOf_X12_bits rfl rfl rfl (by decide +kernel) ⟨Nat.le_of_ble_eq_true rfl, Nat.le_of_ble_eq_true rfl⟩) ⟨fun a U g mk q => ⟨q.1, mPre.blind q.2⟩, fun U hU hW => ⟨rfl, mPre.of hP hK hU hW⟩⟩ rfl rfl hl.1 rfl (lv_room (Nat.le_of_ble_eq_true rfl)) dX12_goodOf_74 ⟨Nat.le_of_ble_eq_true rfl, Nat.le_of_ble_eq_true rfl⟩) hS (fun q _ h => MA.le hS.1 q h) (MA.le hS.1) (fun r13 x t H locs ht hvm hw hB _ _ hS => ?_)
      have hP := mB.at ht hB
      clear hB ht hvm
      obtain ⟨rfl, hw⟩ := hw
      have hP : va_P (dC, dI) vwCl (mw ar cy st sl) _ := hP
      clear hw
      exact W.iret (v := r13) hx hb hr (fun t ht hW => ⟨⟨r13, (st, sl), rfl, ⟨rfl, trivial⟩, mB.of ht hP⟩, hS.F ht⟩) hS.2.2 dX12_goodOf_77
  · refine lv_aload_n hx hb dX12_goodOf_18 rfl (lv_at hl 1 rfl) ?_
    refine lv_iload_n hx hb dX12_goodOf_19 rfl (lv_at hl 2 rfl) ?_
    refine va_calli (va_runV (As := [.int (nI vp)]) (rest := []) ⟨hx, hb, hml, hown, hts⟩ (m_hoursOf l dC dI ar cy _ hN st sl vp (by omega) hG.1) (cwV 1 hts gX12_goodOf_X12_hoursOf rfl rfl rfl (by decide +kernel) ⟨Nat.le_of_ble_eq_true rfl, Nat.le_of_ble_eq_true rfl⟩) ⟨fun a U g mk q => ⟨q.1, mPre.blind q.2⟩, va_recv hK hP (ci := 11) (q0 := 0) rfl rfl, fun U hU hW => ⟨rfl, mPre.of hP hK hU hW⟩⟩ rfl rfl hl.1 rfl (lv_room (Nat.le_of_ble_eq_true rfl)) dX12_goodOf_20 ⟨Nat.le_of_ble_eq_true rfl, Nat.le_of_ble_eq_true rfl⟩) hS (fun q _ h => MA.le hS.1 q h) (MA.le hS.1) (fun r14 x t H locs ht hvm hw hB _ _ hS => ?_)
    have hP := mB.at ht hB
    clear hB ht hvm
    obtain ⟨rfl, hw⟩ := hw
    have hP : va_P (dC, dI) vwCl (mw ar cy st sl) _ := hP
    clear hw
    refine lv_aload_n hx hb dX12_goodOf_23 rfl (lv_at hl 1 rfl) ?_
    refine va_get (D := (dC, dI)) (ci := 11) (v := .ref (ar 2)) (C := RX12) (T := TX12) (N := 47) hx hb hts ii_X12_goodOf hown hK hP 0 rfl rfl 14 (by decide) (hts _ mm_X12_goodOf_1) (fun _ hh => hh) rfl dX12_goodOf_24 ?_
    refine lv_bipush (v := 66) hx hb dX12_goodOf_27 (by decide) ?_
    refine lv_iload_n hx hb dX12_goodOf_29 rfl (lv_at hl 0 rfl) ?_
    refine lv_iadd hx hb dX12_goodOf_30 ?_
    refine zz_top (v := nI (66 + n1)) (nI_add 66 n1) ?_
    refine va_iald hx hb hK hP 2 1 rfl rfl (i := (nI (66 + n1))) (vp_in_nI (by omega) (by decide)) dX12_goodOf_31 ?_
    obtain ⟨n15, hn15, en15⟩ := hG.1.at (r := 2) (k := (66 + n1)) (mr_2_66_71 (66 + n1) (by omega) (by omega)) (by decide)
    refine zz_top (v := nI n15) (by rw [nI_clamp (by omega)]; exact en15) ?_
    clear en15
    refine lv_iand hx hb dX12_goodOf_32 ?_
    refine lv_topi (fun z16 ez16 => ?_)
    clear ez16
    refine va_calli (va_runS (As := [.int z16]) (rest := []) ⟨hx, hb, hml, hown, hts⟩ (m_bits l dC dI ar cy _ hN st sl z16  hG.1) (va_cwS 1 hts gX12_goodOf_X12_bits rfl rfl rfl (by decide +kernel) ⟨Nat.le_of_ble_eq_true rfl, Nat.le_of_ble_eq_true rfl⟩) ⟨fun a U g mk q => ⟨q.1, mPre.blind q.2⟩, fun U hU hW => ⟨rfl, mPre.of hP hK hU hW⟩⟩ rfl rfl hl.1 rfl (lv_room (Nat.le_of_ble_eq_true rfl)) dX12_goodOf_33 ⟨Nat.le_of_ble_eq_true rfl, Nat.le_of_ble_eq_true rfl⟩) hS (fun q _ h => MA.le hS.1 q h) (MA.le hS.1) (fun r17 x t H locs ht hvm hw hB _ _ hS => ?_)
    have hP := mB.at ht hB
    clear hB ht hvm
    obtain ⟨rfl, hw⟩ := hw
    have hP : va_P (dC, dI) vwCl (mw ar cy st sl) _ := hP
    clear hw
    exact W.iret (v := r17) hx hb hr (fun t ht hW => ⟨⟨r17, (st, sl), rfl, ⟨rfl, trivial⟩, mB.of ht hP⟩, hS.F ht⟩) hS.2.2 dX12_goodOf_36
set_option maxHeartbeats 4000000 in
set_option maxRecDepth 100000 in
theorem m_goodAll (l : Launch) (dC : Nat → ClassId) (dI : Nat → Nat → Nat) (ar : Nat → Nat) (cy : Nat → ClassId) (sz : Nat) (hN : MN ar) (st : Nat → Nat → Int32) (sl : Nat → Nat → Int64) (va : Int32) (hI : MI st) : Met l yX12_goodAll wsX12_goodAll ({ frames := 4, cells := 0, slots := 0, locals := 88 }) (va_Pc [.ref (ar 0), .int va] (mPre dC dI ar cy sz st sl)) (va_Qi (fun (r : Int32) (x : MT) => x = (st, sl) ∧ (True)) (mB dC dI ar cy) (MA ar sz)) 0 0 (MA ar sz) := by
  refine Met.ofW (cc := cX12_goodAll) (maxL := 4) (ret := (some .int)) (by decide) rfl ?_
  intro p e s m args below meth c s₁ B hml hv
  obtain ⟨rfl, hsz, hP, hK⟩ := hv
  have hx := B.exec
  have hb := B.bytes
  have hr := B.returns
  have hts := atoms_spec (ws := wsX12_goodAll) B.pre
  have hown : s.vm.findClass RX12 = some m.cls := findClass_of_methodNamed B.named
  subst hsz
  have hS : va_S (MA ar s.heap.size) s.heap s.heap [] := va_S.rf
  have hG : MG [1, 2, 3, 4, 5, 6, 7, 8, 9, 10, 11, 12, 13, 14, 15, 16, 17, 19, 20, 21, 22, 23] st st := MG.rf hI
  have hl := lv_entry ([.ref (ar 0), .int va]) (n := 4) (Nat.le_of_ble_eq_true rfl)
  rw [lg_entry_eq]
  generalize (lg_sl ([.ref (ar 0), .int va]) ++ List.replicate (4 - (lg_sl ([.ref (ar 0), .int va])).length) Slot.unset).toArray = ls at hl ⊢
  have hl : lv_has ls 4 [(0, .ref (ar 0)), (1, .int va)] := hl
  clear hI
  refine lv_iconst (v := 0) hx hb dX12_goodAll_0 (by decide) ?_
  refine lv_istore_n (lv' := [(2, .int 0), (0, .ref (ar 0)), (1, .int va)]) hx hb dX12_goodAll_1 rfl hl (by decide) rfl (fun ls hl => ?_)
  refine lv_iconst (v := 0) hx hb dX12_goodAll_2 (by decide) ?_
  refine lv_istore_n (lv' := [(3, .int 0), (2, .int 0), (0, .ref (ar 0)), (1, .int va)]) hx hb dX12_goodAll_3 rfl hl (by decide) rfl (fun ls hl => ?_)
  refine zz_wf (fun n stk H locs ls => ∃ k1 : Nat, ∃ z2 : Int32, n = 9 - k1 ∧ 0 ≤ k1 ∧ k1 < 9 ∧ va_P (dC, dI) vwCl (mw ar cy st sl) H ∧ va_S (MA ar s.heap.size) s.heap H locs ∧ lv_has ls 4 [(3, .int (nI k1)), (2, .int z2), (0, .ref (ar 0)), (1, .int va)] ∧ stk = []) ?_ (9 - 0) _ _ _ _ ⟨0, 0, rfl, by omega, by omega, hP, hS, lv_sub hl [0, 1, 2, 3] rfl, rfl⟩
  rintro nn stk H locs ls ⟨k1, z2, hm4, hv3_0, hv4_1, hP, hS, hl, rfl⟩ ih5
  refine lv_iload_n hx hb dX12_goodAll_4 rfl (lv_at hl 0 rfl) ?_
  refine lv_aload_n hx hb dX12_goodAll_5 rfl (lv_at hl 2 rfl) ?_
  refine va_get (D := (dC, dI)) (ci := 11) (v := .ref (ar 2)) (C := RX12) (T := TX12) (N := 47) hx hb hts ii_X12_goodAll hown hK hP 0 rfl rfl 14 (by decide) (hts _ mm_X12_goodAll_1) (fun _ hh => hh) rfl dX12_goodAll_6 ?_
  refine lv_iconst (v := 1) hx hb dX12_goodAll_9 (by decide) ?_
  refine va_iald hx hb hK hP 2 1 rfl rfl (i := 1) (zz_in (by decide)) dX12_goodAll_10 ?_
  obtain ⟨n6, hn6, en6⟩ := hG.1.at (r := 2) (k := 1) (by decide : mr 2 1 = 9) (by decide)
  refine zz_top (v := nI n6) (by exact en6) ?_
  clear en6
  refine lv_icmp_ge (tgt := 40) hx hb dX12_goodAll_11 (by decide) (fun c1 => ?_) (fun c1 => ?_)
  · have c1 : n6 ≤ k1 := (nI_leI (a := n6) (b := k1) (by omega) (by omega)).mp c1
    refine lv_iload_n hx hb dX12_goodAll_40 rfl (lv_at hl 1 rfl) ?_
    exact W.iret (v := z2) hx hb hr (fun t ht hW => ⟨⟨z2, (st, sl), rfl, ⟨rfl, trivial⟩, mB.of ht hP⟩, hS.F ht⟩) hS.2.2 dX12_goodAll_41
  · have c1 : ¬ n6 ≤ k1 := fun hh => c1 ((nI_leI (a := n6) (b := k1) (by omega) (by omega)).mpr hh)
    refine lv_iload_n hx hb dX12_goodAll_14 rfl (lv_at hl 3 rfl) ?_
    refine lv_if_ne (tgt := 26) hx hb dX12_goodAll_15 (by decide) (fun c2 => ?_) (fun c2 => ?_)
    · refine lv_iload_n hx hb dX12_goodAll_26 rfl (lv_at hl 1 rfl) ?_
      refine lv_aload_n hx hb dX12_goodAll_27 rfl (lv_at hl 2 rfl) ?_
      refine lv_iload_n hx hb dX12_goodAll_28 rfl (lv_at hl 0 rfl) ?_
      refine va_calli (va_runV (As := [.int (nI k1)]) (rest := [.int z2]) ⟨hx, hb, hml, hown, hts⟩ (m_goodOf l dC dI ar cy _ hN st sl k1 (by omega) hG.1) (cwV 1 hts gX12_goodAll_X12_goodOf rfl rfl rfl (by decide +kernel) ⟨Nat.le_of_ble_eq_true rfl, Nat.le_of_ble_eq_true rfl⟩) ⟨fun a U g mk q => ⟨q.1, mPre.blind q.2⟩, va_recv hK hP (ci := 11) (q0 := 0) rfl rfl, fun U hU hW => ⟨rfl, mPre.of hP hK hU hW⟩⟩ rfl rfl hl.1 rfl (lv_room (Nat.le_of_ble_eq_true rfl)) dX12_goodAll_29 ⟨Nat.le_of_ble_eq_true rfl, Nat.le_of_ble_eq_true rfl⟩) hS (fun q _ h => MA.le hS.1 q h) (MA.le hS.1) (fun r7 x t H locs ht hvm hw hB _ _ hS => ?_)
      have hP := mB.at ht hB
      clear hB ht hvm
      obtain ⟨rfl, hw⟩ := hw
      have hP : va_P (dC, dI) vwCl (mw ar cy st sl) _ := hP
      clear hw
      refine lv_iadd hx hb dX12_goodAll_32 ?_
      refine lv_topi (fun z8 ez8 => ?_)
      clear ez8
      refine lv_istore_n (lv' := [(2, .int z8), (3, .int (nI k1)), (0, .ref (ar 0)), (1, .int va)]) hx hb dX12_goodAll_33 rfl hl (by decide) rfl (fun ls hl => ?_)
      refine lv_iinc (v := (nI (k1 + 1))) (lv' := [(3, .int (nI (k1 + 1))), (2, .int z8), (0, .ref (ar 0)), (1, .int va)]) hx hb dX12_goodAll_34 hl (k := 1) rfl (nI_add k1 1) (by decide) rfl (fun ls hl => ?_)
      refine lv_goto (tgt := 4) hx hb dX12_goodAll_37 (by decide) ?_
      exact ih5 (9 - (k1 + 1)) _ _ _ _ (by omega) ⟨(k1 + 1), z8, rfl, by omega, by omega, hP, hS, lv_sub hl [0, 1, 2, 3] rfl, rfl⟩
    · refine lv_aload_n hx hb dX12_goodAll_18 rfl (lv_at hl 2 rfl) ?_
      refine lv_iload_n hx hb dX12_goodAll_19 rfl (lv_at hl 0 rfl) ?_
      refine va_calli (va_runV (As := [.int (nI k1)]) (rest := []) ⟨hx, hb, hml, hown, hts⟩ (m_isAway l dC dI ar cy _ hN st sl k1 (by omega) hG.1) (cwV 1 hts gX12_goodAll_X12_isAway rfl rfl rfl (by decide +kernel) ⟨Nat.le_of_ble_eq_true rfl, Nat.le_of_ble_eq_true rfl⟩) ⟨fun a U g mk q => ⟨q.1, mPre.blind q.2⟩, va_recv hK hP (ci := 11) (q0 := 0) rfl rfl, fun U hU hW => ⟨rfl, mPre.of hP hK hU hW⟩⟩ rfl rfl hl.1 rfl (lv_room (Nat.le_of_ble_eq_true rfl)) dX12_goodAll_20 ⟨Nat.le_of_ble_eq_true rfl, Nat.le_of_ble_eq_true rfl⟩) hS (fun q _ h => MA.le hS.1 q h) (MA.le hS.1) (fun r9 x t H locs ht hvm hw hB _ _ hS => ?_)
      have hP := mB.at ht hB
      clear hB ht hvm
      obtain ⟨rfl, hw⟩ := hw
      have hP : va_P (dC, dI) vwCl (mw ar cy st sl) _ := hP
      rcases hw with rfl | rfl
      · refine lv_if_ne (tgt := 34) hx hb dX12_goodAll_23 (by decide) (fun _ => ?_) (fun cc => absurd cc (by decide))
        refine lv_iinc (v := (nI (k1 + 1))) (lv' := [(3, .int (nI (k1 + 1))), (2, .int z2), (0, .ref (ar 0)), (1, .int va)]) hx hb dX12_goodAll_34 hl (k := 0) rfl (nI_add k1 1) (by decide) rfl (fun ls hl => ?_)
        refine lv_goto (tgt := 4) hx hb dX12_goodAll_37 (by decide) ?_
        exact ih5 (9 - (k1 + 1)) _ _ _ _ (by omega) ⟨(k1 + 1), z2, rfl, by omega, by omega, hP, hS, lv_sub hl [0, 1, 2, 3] rfl, rfl⟩
      · refine lv_if_ne (tgt := 34) hx hb dX12_goodAll_23 (by decide) (fun cc => absurd (by decide) cc) (fun _ => ?_)
        refine lv_iload_n hx hb dX12_goodAll_26 rfl (lv_at hl 1 rfl) ?_
        refine lv_aload_n hx hb dX12_goodAll_27 rfl (lv_at hl 2 rfl) ?_
        refine lv_iload_n hx hb dX12_goodAll_28 rfl (lv_at hl 0 rfl) ?_
        refine va_calli (va_runV (As := [.int (nI k1)]) (rest := [.int z2]) ⟨hx, hb, hml, hown, hts⟩ (m_goodOf l dC dI ar cy _ hN st sl k1 (by omega) hG.1) (cwV 1 hts gX12_goodAll_X12_goodOf rfl rfl rfl (by decide +kernel) ⟨Nat.le_of_ble_eq_true rfl, Nat.le_of_ble_eq_true rfl⟩) ⟨fun a U g mk q => ⟨q.1, mPre.blind q.2⟩, va_recv hK hP (ci := 11) (q0 := 0) rfl rfl, fun U hU hW => ⟨rfl, mPre.of hP hK hU hW⟩⟩ rfl rfl hl.1 rfl (lv_room (Nat.le_of_ble_eq_true rfl)) dX12_goodAll_29 ⟨Nat.le_of_ble_eq_true rfl, Nat.le_of_ble_eq_true rfl⟩) hS (fun q _ h => MA.le hS.1 q h) (MA.le hS.1) (fun r10 x t H locs ht hvm hw hB _ _ hS => ?_)
        have hP := mB.at ht hB
        clear hB ht hvm
        obtain ⟨rfl, hw⟩ := hw
        have hP : va_P (dC, dI) vwCl (mw ar cy st sl) _ := hP
        clear hw
        refine lv_iadd hx hb dX12_goodAll_32 ?_
        refine lv_topi (fun z11 ez11 => ?_)
        clear ez11
        refine lv_istore_n (lv' := [(2, .int z11), (3, .int (nI k1)), (0, .ref (ar 0)), (1, .int va)]) hx hb dX12_goodAll_33 rfl hl (by decide) rfl (fun ls hl => ?_)
        refine lv_iinc (v := (nI (k1 + 1))) (lv' := [(3, .int (nI (k1 + 1))), (2, .int z11), (0, .ref (ar 0)), (1, .int va)]) hx hb dX12_goodAll_34 hl (k := 1) rfl (nI_add k1 1) (by decide) rfl (fun ls hl => ?_)
        refine lv_goto (tgt := 4) hx hb dX12_goodAll_37 (by decide) ?_
        exact ih5 (9 - (k1 + 1)) _ _ _ _ (by omega) ⟨(k1 + 1), z11, rfl, by omega, by omega, hP, hS, lv_sub hl [0, 1, 2, 3] rfl, rfl⟩
set_option maxHeartbeats 4000000 in
set_option maxRecDepth 100000 in
theorem m_awaySet (l : Launch) (dC : Nat → ClassId) (dI : Nat → Nat → Nat) (ar : Nat → Nat) (cy : Nat → ClassId) (sz : Nat) (hN : MN ar) (st : Nat → Nat → Int32) (sl : Nat → Nat → Int64) (hI : MI st) : Met l yX12_awaySet wsX12_awaySet ({ frames := 1, cells := 0, slots := 0, locals := 21 }) (va_Pc [.ref (ar 0)] (mPre dC dI ar cy sz st sl)) (va_Qi (fun (r : Int32) (x : MT) => x = (st, sl) ∧ (True)) (mB dC dI ar cy) (MA ar sz)) 0 0 (MA ar sz) := by
  refine Met.ofW (cc := cX12_awaySet) (maxL := 3) (ret := (some .int)) (by decide) rfl ?_
  intro p e s m args below meth c s₁ B hml hv
  obtain ⟨rfl, hsz, hP, hK⟩ := hv
  have hx := B.exec
  have hb := B.bytes
  have hr := B.returns
  have hts := atoms_spec (ws := wsX12_awaySet) B.pre
  have hown : s.vm.findClass RX12 = some m.cls := findClass_of_methodNamed B.named
  subst hsz
  have hS : va_S (MA ar s.heap.size) s.heap s.heap [] := va_S.rf
  have hG : MG [1, 2, 3, 4, 5, 6, 7, 8, 9, 10, 11, 12, 13, 14, 15, 16, 17, 19, 20, 21, 22, 23] st st := MG.rf hI
  have hl := lv_entry ([.ref (ar 0)]) (n := 3) (Nat.le_of_ble_eq_true rfl)
  rw [lg_entry_eq]
  generalize (lg_sl ([.ref (ar 0)]) ++ List.replicate (3 - (lg_sl ([.ref (ar 0)])).length) Slot.unset).toArray = ls at hl ⊢
  have hl : lv_has ls 3 [(0, .ref (ar 0))] := hl
  clear hI
  refine lv_iconst (v := 0) hx hb dX12_awaySet_0 (by decide) ?_
  refine lv_istore_n (lv' := [(1, .int 0), (0, .ref (ar 0))]) hx hb dX12_awaySet_1 rfl hl (by decide) rfl (fun ls hl => ?_)
  refine lv_iconst (v := 0) hx hb dX12_awaySet_2 (by decide) ?_
  refine lv_istore_n (lv' := [(2, .int 0), (1, .int 0), (0, .ref (ar 0))]) hx hb dX12_awaySet_3 rfl hl (by decide) rfl (fun ls hl => ?_)
  refine zz_wf (fun n stk H locs ls => ∃ k1 : Nat, ∃ z2 : Int32, n = 9 - k1 ∧ 0 ≤ k1 ∧ k1 < 9 ∧ va_P (dC, dI) vwCl (mw ar cy st sl) H ∧ va_S (MA ar s.heap.size) s.heap H locs ∧ lv_has ls 3 [(2, .int (nI k1)), (1, .int z2), (0, .ref (ar 0))] ∧ stk = []) ?_ (9 - 0) _ _ _ _ ⟨0, 0, rfl, by omega, by omega, hP, hS, lv_sub hl [0, 1, 2] rfl, rfl⟩
  rintro nn stk H locs ls ⟨k1, z2, hm4, hv3_0, hv4_1, hP, hS, hl, rfl⟩ ih5
  refine lv_iload_n hx hb dX12_awaySet_4 rfl (lv_at hl 0 rfl) ?_
  refine lv_aload_n hx hb dX12_awaySet_5 rfl (lv_at hl 2 rfl) ?_
  refine va_get (D := (dC, dI)) (ci := 11) (v := .ref (ar 2)) (C := RX12) (T := TX12) (N := 47) hx hb hts ii_X12_awaySet hown hK hP 0 rfl rfl 14 (by decide) (hts _ mm_X12_awaySet_1) (fun _ hh => hh) rfl dX12_awaySet_6 ?_
  refine lv_iconst (v := 1) hx hb dX12_awaySet_9 (by decide) ?_
  refine va_iald hx hb hK hP 2 1 rfl rfl (i := 1) (zz_in (by decide)) dX12_awaySet_10 ?_
  obtain ⟨n6, hn6, en6⟩ := hG.1.at (r := 2) (k := 1) (by decide : mr 2 1 = 9) (by decide)
  refine zz_top (v := nI n6) (by exact en6) ?_
  clear en6
  refine lv_icmp_ge (tgt := 34) hx hb dX12_awaySet_11 (by decide) (fun c1 => ?_) (fun c1 => ?_)
  · have c1 : n6 ≤ k1 := (nI_leI (a := n6) (b := k1) (by omega) (by omega)).mp c1
    refine lv_iload_n hx hb dX12_awaySet_34 rfl (lv_at hl 1 rfl) ?_
    exact W.iret (v := z2) hx hb hr (fun t ht hW => ⟨⟨z2, (st, sl), rfl, ⟨rfl, trivial⟩, mB.of ht hP⟩, hS.F ht⟩) hS.2.2 dX12_awaySet_35
  · have c1 : ¬ n6 ≤ k1 := fun hh => c1 ((nI_leI (a := n6) (b := k1) (by omega) (by omega)).mpr hh)
    refine lv_aload_n hx hb dX12_awaySet_14 rfl (lv_at hl 2 rfl) ?_
    refine lv_iload_n hx hb dX12_awaySet_15 rfl (lv_at hl 0 rfl) ?_
    refine va_calli (va_runV (As := [.int (nI k1)]) (rest := []) ⟨hx, hb, hml, hown, hts⟩ (m_isAway l dC dI ar cy _ hN st sl k1 (by omega) hG.1) (cwV 1 hts gX12_awaySet_X12_isAway rfl rfl rfl (by decide +kernel) ⟨Nat.le_of_ble_eq_true rfl, Nat.le_of_ble_eq_true rfl⟩) ⟨fun a U g mk q => ⟨q.1, mPre.blind q.2⟩, va_recv hK hP (ci := 11) (q0 := 0) rfl rfl, fun U hU hW => ⟨rfl, mPre.of hP hK hU hW⟩⟩ rfl rfl hl.1 rfl (lv_room (Nat.le_of_ble_eq_true rfl)) dX12_awaySet_16 ⟨Nat.le_of_ble_eq_true rfl, Nat.le_of_ble_eq_true rfl⟩) hS (fun q _ h => MA.le hS.1 q h) (MA.le hS.1) (fun r7 x t H locs ht hvm hw hB _ _ hS => ?_)
    have hP := mB.at ht hB
    clear hB ht hvm
    obtain ⟨rfl, hw⟩ := hw
    have hP : va_P (dC, dI) vwCl (mw ar cy st sl) _ := hP
    rcases hw with rfl | rfl
    · refine lv_if_eq (tgt := 28) hx hb dX12_awaySet_19 (by decide) (fun cc => absurd cc (by decide)) (fun _ => ?_)
      refine lv_iload_n hx hb dX12_awaySet_22 rfl (lv_at hl 1 rfl) ?_
      refine lv_iconst (v := 1) hx hb dX12_awaySet_23 (by decide) ?_
      refine lv_iload_n hx hb dX12_awaySet_24 rfl (lv_at hl 0 rfl) ?_
      refine lv_ishl hx hb dX12_awaySet_25 ?_
      refine lv_topi (fun z8 ez8 => ?_)
      clear ez8
      refine lv_ior hx hb dX12_awaySet_26 ?_
      refine lv_topi (fun z9 ez9 => ?_)
      clear ez9
      refine lv_istore_n (lv' := [(1, .int z9), (2, .int (nI k1)), (0, .ref (ar 0))]) hx hb dX12_awaySet_27 rfl hl (by decide) rfl (fun ls hl => ?_)
      refine lv_iinc (v := (nI (k1 + 1))) (lv' := [(2, .int (nI (k1 + 1))), (1, .int z9), (0, .ref (ar 0))]) hx hb dX12_awaySet_28 hl (k := 1) rfl (nI_add k1 1) (by decide) rfl (fun ls hl => ?_)
      refine lv_goto (tgt := 4) hx hb dX12_awaySet_31 (by decide) ?_
      exact ih5 (9 - (k1 + 1)) _ _ _ _ (by omega) ⟨(k1 + 1), z9, rfl, by omega, by omega, hP, hS, lv_sub hl [0, 1, 2] rfl, rfl⟩
    · refine lv_if_eq (tgt := 28) hx hb dX12_awaySet_19 (by decide) (fun _ => ?_) (fun cc => absurd (by decide) cc)
      refine lv_iinc (v := (nI (k1 + 1))) (lv' := [(2, .int (nI (k1 + 1))), (1, .int z2), (0, .ref (ar 0))]) hx hb dX12_awaySet_28 hl (k := 0) rfl (nI_add k1 1) (by decide) rfl (fun ls hl => ?_)
      refine lv_goto (tgt := 4) hx hb dX12_awaySet_31 (by decide) ?_
      exact ih5 (9 - (k1 + 1)) _ _ _ _ (by omega) ⟨(k1 + 1), z2, rfl, by omega, by omega, hP, hS, lv_sub hl [0, 1, 2] rfl, rfl⟩
set_option maxHeartbeats 4000000 in
set_option maxRecDepth 100000 in
theorem m_person (l : Launch) (dC : Nat → ClassId) (dI : Nat → Nat → Nat) (ar : Nat → Nat) (cy : Nat → ClassId) (sz : Nat) (hN : MN ar) (st : Nat → Nat → Int32) (sl : Nat → Nat → Int64) (va : Int32) (vb : Int32) (hI : MI st) : Met l yX12_person wsX12_person ({ frames := 4, cells := 0, slots := 0, locals := 88 }) (va_Pc [.ref (ar 0), .int va, .int vb] (mPre dC dI ar cy sz st sl)) (va_Qi (fun (r : Int32) (x : MT) => MG [1, 2, 3, 4, 5, 6, 7, 8, 9, 10, 11, 12, 13, 14, 15, 16, 17, 19, 20, 21, 22, 23] st x.1 ∧ LQ [7, 9] sl x.2 ∧ (True)) (mB dC dI ar cy) (MA ar sz)) 0 0 (MA ar sz) := by
  refine Met.ofW (cc := cX12_person) (maxL := 3) (ret := (some .int)) (by decide) rfl ?_
  intro p e s m args below meth c s₁ B hml hv
  obtain ⟨rfl, hsz, hP, hK⟩ := hv
  have hx := B.exec
  have hb := B.bytes
  have hr := B.returns
  have hts := atoms_spec (ws := wsX12_person) B.pre
  have hown : s.vm.findClass RX12 = some m.cls := findClass_of_methodNamed B.named
  subst hsz
  have hS : va_S (MA ar s.heap.size) s.heap s.heap [] := va_S.rf
  have hG : MG [1, 2, 3, 4, 5, 6, 7, 8, 9, 10, 11, 12, 13, 14, 15, 16, 17, 19, 20, 21, 22, 23] st st := MG.rf hI
  have hl := lv_entry ([.ref (ar 0), .int va, .int vb]) (n := 3) (Nat.le_of_ble_eq_true rfl)
  rw [lg_entry_eq]
  generalize (lg_sl ([.ref (ar 0), .int va, .int vb]) ++ List.replicate (3 - (lg_sl ([.ref (ar 0), .int va, .int vb])).length) Slot.unset).toArray = ls at hl ⊢
  have hl : lv_has ls 3 [(0, .ref (ar 0)), (1, .int va), (2, .int vb)] := hl
  clear hI
  have hL : LQ [7, 9] sl sl := LQ.rf
  refine lv_aload_n hx hb dX12_person_0 rfl (lv_at hl 0 rfl) ?_
  refine lv_iconst (v := 0) hx hb dX12_person_1 (by decide) ?_
  refine va_put (D := (dC, dI)) (ci := 11) (v := .int 0) (ty := .int) (C := RX12) (T := TX12) (N := 47) hx hb hts ii_X12_person tyX12 tyX12_ok nmX12 hown hK hP (mD hN _ _ _ _) hS 0 rfl rfl 0 (by decide) (hts _ mm_X12_person_1) (fun _ hh => hh) rfl (by decide +kernel) rfl rfl (Nat.le_of_ble_eq_true rfl) dX12_person_2 (fun H locs hP _ hS => ?_)
  have hP : va_P (dC, dI) vwCl (mw ar cy (up2 st 0 0 0) sl) H := hP
  obtain ⟨st1, hP, hG⟩ : ∃ y, va_P (dC, dI) vwCl (mw ar cy y sl) H ∧ MG [1, 2, 3, 4, 5, 6, 7, 8, 9, 10, 11, 12, 13, 14, 15, 16, 17, 19, 20, 21, 22, 23] st y := ⟨up2 st 0 0 0, hP, hG.up (rz (by decide : mr 0 0 = 0)) (pn (by decide : pcl 0 0 = 0) (by decide))⟩
  refine lv_aload_n hx hb dX12_person_5 rfl (lv_at hl 0 rfl) ?_
  refine lv_iload_n hx hb dX12_person_6 rfl (lv_at hl 1 rfl) ?_
  refine va_calli (va_runV (As := [.int va]) (rest := []) ⟨hx, hb, hml, hown, hts⟩ (m_isPerson l dC dI ar cy _ hN st1 sl va  hG.1) (cwV 1 hts gX12_person_X12_isPerson rfl rfl rfl (by decide +kernel) ⟨Nat.le_of_ble_eq_true rfl, Nat.le_of_ble_eq_true rfl⟩) ⟨fun a U g mk q => ⟨q.1, mPre.blind q.2⟩, va_recv hK hP (ci := 11) (q0 := 0) rfl rfl, fun U hU hW => ⟨rfl, mPre.of hP hK hU hW⟩⟩ rfl rfl hl.1 rfl (lv_room (Nat.le_of_ble_eq_true rfl)) dX12_person_7 ⟨Nat.le_of_ble_eq_true rfl, Nat.le_of_ble_eq_true rfl⟩) hS (fun q _ h => MA.le hS.1 q h) (MA.le hS.1) (fun r2 x t H locs ht hvm hw hB _ _ hS => ?_)
  have hP := mB.at ht hB
  clear hB ht hvm
  obtain ⟨rfl, hw⟩ := hw
  have hP : va_P (dC, dI) vwCl (mw ar cy st1 sl) _ := hP
  rcases hw with ⟨n3, rfl, hf4, rfl⟩ | rfl
  · refine lv_if_ne (tgt := 18) hx hb dX12_person_10 (by decide) (fun _ => ?_) (fun cc => absurd cc (by decide))
    refine lv_iload_n hx hb dX12_person_18 rfl (lv_at hl 2 rfl) ?_
    by_cases cw5 : vb = 0
    · subst cw5
      refine lv_tableIn (tgt := 68) hx hb dX12_person_19 (by decide) (by decide) rfl (by decide) ?_
      refine lv_aload_n hx hb dX12_person_68 rfl (lv_at hl 0 rfl) ?_
      refine va_get (D := (dC, dI)) (ci := 11) (v := .ref (ar 2)) (C := RX12) (T := TX12) (N := 47) hx hb hts ii_X12_person hown hK hP 0 rfl rfl 14 (by decide) (hts _ mm_X12_person_2) (fun _ hh => hh) rfl dX12_person_69 ?_
      refine lv_bipush (v := 71) hx hb dX12_person_72 (by decide) ?_
      refine lv_iload_n hx hb dX12_person_74 rfl (lv_at hl 1 rfl) ?_
      refine lv_iadd hx hb dX12_person_75 ?_
      refine zz_top (v := nI (71 + n3)) (nI_add 71 n3) ?_
      refine va_iald hx hb hK hP 2 1 rfl rfl (i := (nI (71 + n3))) (vp_in_nI (by omega) (by decide)) dX12_person_76 ?_
      obtain ⟨n6, hn6, en6⟩ := hG.1.at (r := 2) (k := (71 + n3)) (mr_2_71_79 (71 + n3) (by omega) (by omega)) (by decide)
      refine zz_top (v := nI n6) (by rw [nI_clamp (by omega)]; exact en6) ?_
      clear en6
      exact W.iret (v := (nI n6)) hx hb hr (fun t ht hW => ⟨⟨(nI n6), (st1, sl), rfl, ⟨hG, hL, trivial⟩, mB.of ht hP⟩, hS.F ht⟩) hS.2.2 dX12_person_77
    by_cases cw7 : vb = 1
    · subst cw7
      refine lv_tableIn (tgt := 78) hx hb dX12_person_19 (by decide) (by decide) rfl (by decide) ?_
      refine lv_aload_n hx hb dX12_person_78 rfl (lv_at hl 0 rfl) ?_
      refine va_get (D := (dC, dI)) (ci := 11) (v := .ref (ar 2)) (C := RX12) (T := TX12) (N := 47) hx hb hts ii_X12_person hown hK hP 0 rfl rfl 14 (by decide) (hts _ mm_X12_person_2) (fun _ hh => hh) rfl dX12_person_79 ?_
      refine lv_bipush (v := 79) hx hb dX12_person_82 (by decide) ?_
      refine lv_iload_n hx hb dX12_person_84 rfl (lv_at hl 1 rfl) ?_
      refine lv_iadd hx hb dX12_person_85 ?_
      refine zz_top (v := nI (79 + n3)) (nI_add 79 n3) ?_
      refine va_iald hx hb hK hP 2 1 rfl rfl (i := (nI (79 + n3))) (vp_in_nI (by omega) (by decide)) dX12_person_86 ?_
      refine lv_topi (fun z8 ez8 => ?_)
      clear ez8
      exact W.iret (v := z8) hx hb hr (fun t ht hW => ⟨⟨z8, (st1, sl), rfl, ⟨hG, hL, trivial⟩, mB.of ht hP⟩, hS.F ht⟩) hS.2.2 dX12_person_87
    by_cases cw9 : vb = 2
    · subst cw9
      refine lv_tableIn (tgt := 88) hx hb dX12_person_19 (by decide) (by decide) rfl (by decide) ?_
      refine lv_aload_n hx hb dX12_person_88 rfl (lv_at hl 0 rfl) ?_
      refine va_get (D := (dC, dI)) (ci := 11) (v := .ref (ar 2)) (C := RX12) (T := TX12) (N := 47) hx hb hts ii_X12_person hown hK hP 0 rfl rfl 14 (by decide) (hts _ mm_X12_person_2) (fun _ hh => hh) rfl dX12_person_89 ?_
      refine lv_bipush (v := 87) hx hb dX12_person_92 (by decide) ?_
      refine lv_iload_n hx hb dX12_person_94 rfl (lv_at hl 1 rfl) ?_
      refine lv_iadd hx hb dX12_person_95 ?_
      refine zz_top (v := nI (87 + n3)) (nI_add 87 n3) ?_
      refine va_iald hx hb hK hP 2 1 rfl rfl (i := (nI (87 + n3))) (vp_in_nI (by omega) (by decide)) dX12_person_96 ?_
      refine lv_topi (fun z10 ez10 => ?_)
      clear ez10
      exact W.iret (v := z10) hx hb hr (fun t ht hW => ⟨⟨z10, (st1, sl), rfl, ⟨hG, hL, trivial⟩, mB.of ht hP⟩, hS.F ht⟩) hS.2.2 dX12_person_97
    by_cases cw11 : vb = 3
    · subst cw11
      refine lv_tableIn (tgt := 98) hx hb dX12_person_19 (by decide) (by decide) rfl (by decide) ?_
      refine lv_aload_n hx hb dX12_person_98 rfl (lv_at hl 0 rfl) ?_
      refine va_get (D := (dC, dI)) (ci := 11) (v := .ref (ar 2)) (C := RX12) (T := TX12) (N := 47) hx hb hts ii_X12_person hown hK hP 0 rfl rfl 14 (by decide) (hts _ mm_X12_person_2) (fun _ hh => hh) rfl dX12_person_99 ?_
      refine lv_bipush (v := 34) hx hb dX12_person_102 (by decide) ?_
      refine lv_iload_n hx hb dX12_person_104 rfl (lv_at hl 1 rfl) ?_
      refine lv_iadd hx hb dX12_person_105 ?_
      refine zz_top (v := nI (34 + n3)) (nI_add 34 n3) ?_
      refine va_iald hx hb hK hP 2 1 rfl rfl (i := (nI (34 + n3))) (vp_in_nI (by omega) (by decide)) dX12_person_106 ?_
      refine lv_topi (fun z12 ez12 => ?_)
      clear ez12
      exact W.iret (v := z12) hx hb hr (fun t ht hW => ⟨⟨z12, (st1, sl), rfl, ⟨hG, hL, trivial⟩, mB.of ht hP⟩, hS.F ht⟩) hS.2.2 dX12_person_107
    by_cases cw13 : vb = 4
    · subst cw13
      refine lv_tableIn (tgt := 108) hx hb dX12_person_19 (by decide) (by decide) rfl (by decide) ?_
      refine lv_aload_n hx hb dX12_person_108 rfl (lv_at hl 0 rfl) ?_
      refine va_get (D := (dC, dI)) (ci := 11) (v := .ref (ar 2)) (C := RX12) (T := TX12) (N := 47) hx hb hts ii_X12_person hown hK hP 0 rfl rfl 14 (by decide) (hts _ mm_X12_person_2) (fun _ hh => hh) rfl dX12_person_109 ?_
      refine lv_bipush (v := 95) hx hb dX12_person_112 (by decide) ?_
      refine lv_iload_n hx hb dX12_person_114 rfl (lv_at hl 1 rfl) ?_
      refine lv_iadd hx hb dX12_person_115 ?_
      refine zz_top (v := nI (95 + n3)) (nI_add 95 n3) ?_
      refine va_iald hx hb hK hP 2 1 rfl rfl (i := (nI (95 + n3))) (vp_in_nI (by omega) (by decide)) dX12_person_116 ?_
      refine lv_topi (fun z14 ez14 => ?_)
      clear ez14
      exact W.iret (v := z14) hx hb hr (fun t ht hW => ⟨⟨z14, (st1, sl), rfl, ⟨hG, hL, trivial⟩, mB.of ht hP⟩, hS.F ht⟩) hS.2.2 dX12_person_117
    by_cases cw15 : vb = 5
    · subst cw15
      refine lv_tableIn (tgt := 118) hx hb dX12_person_19 (by decide) (by decide) rfl (by decide) ?_
      refine lv_aload_n hx hb dX12_person_118 rfl (lv_at hl 0 rfl) ?_
      refine va_get (D := (dC, dI)) (ci := 11) (v := .ref (ar 2)) (C := RX12) (T := TX12) (N := 47) hx hb hts ii_X12_person hown hK hP 0 rfl rfl 14 (by decide) (hts _ mm_X12_person_2) (fun _ hh => hh) rfl dX12_person_119 ?_
      refine lv_bipush (v := 103) hx hb dX12_person_122 (by decide) ?_
      refine lv_iload_n hx hb dX12_person_124 rfl (lv_at hl 1 rfl) ?_
      refine lv_iadd hx hb dX12_person_125 ?_
      refine zz_top (v := nI (103 + n3)) (nI_add 103 n3) ?_
      refine va_iald hx hb hK hP 2 1 rfl rfl (i := (nI (103 + n3))) (vp_in_nI (by omega) (by decide)) dX12_person_126 ?_
      refine lv_topi (fun z16 ez16 => ?_)
      clear ez16
      exact W.iret (v := z16) hx hb hr (fun t ht hW => ⟨⟨z16, (st1, sl), rfl, ⟨hG, hL, trivial⟩, mB.of ht hP⟩, hS.F ht⟩) hS.2.2 dX12_person_127
    by_cases cw17 : vb = 6
    · subst cw17
      refine lv_tableIn (tgt := 128) hx hb dX12_person_19 (by decide) (by decide) rfl (by decide) ?_
      refine lv_aload_n hx hb dX12_person_128 rfl (lv_at hl 0 rfl) ?_
      refine va_get (D := (dC, dI)) (ci := 11) (v := .ref (ar 2)) (C := RX12) (T := TX12) (N := 47) hx hb hts ii_X12_person hown hK hP 0 rfl rfl 14 (by decide) (hts _ mm_X12_person_2) (fun _ hh => hh) rfl dX12_person_129 ?_
      refine lv_bipush (v := 111) hx hb dX12_person_132 (by decide) ?_
      refine lv_iload_n hx hb dX12_person_134 rfl (lv_at hl 1 rfl) ?_
      refine lv_iadd hx hb dX12_person_135 ?_
      refine zz_top (v := nI (111 + n3)) (nI_add 111 n3) ?_
      refine va_iald hx hb hK hP 2 1 rfl rfl (i := (nI (111 + n3))) (vp_in_nI (by omega) (by decide)) dX12_person_136 ?_
      refine lv_topi (fun z18 ez18 => ?_)
      clear ez18
      exact W.iret (v := z18) hx hb hr (fun t ht hW => ⟨⟨z18, (st1, sl), rfl, ⟨hG, hL, trivial⟩, mB.of ht hP⟩, hS.F ht⟩) hS.2.2 dX12_person_137
    by_cases cw19 : vb = 7
    · subst cw19
      refine lv_tableIn (tgt := 138) hx hb dX12_person_19 (by decide) (by decide) rfl (by decide) ?_
      refine lv_aload_n hx hb dX12_person_138 rfl (lv_at hl 0 rfl) ?_
      refine lv_iload_n hx hb dX12_person_139 rfl (lv_at hl 1 rfl) ?_
      refine va_calli (va_runV (As := [.int (nI n3)]) (rest := []) ⟨hx, hb, hml, hown, hts⟩ (m_dogsOf l dC dI ar cy _ hN st1 sl (nI n3)  hG.1) (cwV 1 hts gX12_person_X12_dogsOf rfl rfl rfl (by decide +kernel) ⟨Nat.le_of_ble_eq_true rfl, Nat.le_of_ble_eq_true rfl⟩) ⟨fun a U g mk q => ⟨q.1, mPre.blind q.2⟩, va_recv hK hP (ci := 11) (q0 := 0) rfl rfl, fun U hU hW => ⟨rfl, mPre.of hP hK hU hW⟩⟩ rfl rfl hl.1 rfl (lv_room (Nat.le_of_ble_eq_true rfl)) dX12_person_140 ⟨Nat.le_of_ble_eq_true rfl, Nat.le_of_ble_eq_true rfl⟩) hS (fun q _ h => MA.le hS.1 q h) (MA.le hS.1) (fun r20 x t H locs ht hvm hw hB _ _ hS => ?_)
      have hP := mB.at ht hB
      clear hB ht hvm
      obtain ⟨rfl, hw⟩ := hw
      have hP : va_P (dC, dI) vwCl (mw ar cy st1 sl) _ := hP
      clear hw
      exact W.iret (v := r20) hx hb hr (fun t ht hW => ⟨⟨r20, (st1, sl), rfl, ⟨hG, hL, trivial⟩, mB.of ht hP⟩, hS.F ht⟩) hS.2.2 dX12_person_143
    by_cases cw21 : vb = 8
    · subst cw21
      refine lv_tableIn (tgt := 144) hx hb dX12_person_19 (by decide) (by decide) rfl (by decide) ?_
      refine lv_aload_n hx hb dX12_person_144 rfl (lv_at hl 0 rfl) ?_
      refine lv_iload_n hx hb dX12_person_145 rfl (lv_at hl 1 rfl) ?_
      refine va_calli (va_runV (As := [.int (nI n3)]) (rest := []) ⟨hx, hb, hml, hown, hts⟩ (m_goodOf l dC dI ar cy _ hN st1 sl n3 (by omega) hG.1) (cwV 1 hts gX12_person_X12_goodOf rfl rfl rfl (by decide +kernel) ⟨Nat.le_of_ble_eq_true rfl, Nat.le_of_ble_eq_true rfl⟩) ⟨fun a U g mk q => ⟨q.1, mPre.blind q.2⟩, va_recv hK hP (ci := 11) (q0 := 0) rfl rfl, fun U hU hW => ⟨rfl, mPre.of hP hK hU hW⟩⟩ rfl rfl hl.1 rfl (lv_room (Nat.le_of_ble_eq_true rfl)) dX12_person_146 ⟨Nat.le_of_ble_eq_true rfl, Nat.le_of_ble_eq_true rfl⟩) hS (fun q _ h => MA.le hS.1 q h) (MA.le hS.1) (fun r22 x t H locs ht hvm hw hB _ _ hS => ?_)
      have hP := mB.at ht hB
      clear hB ht hvm
      obtain ⟨rfl, hw⟩ := hw
      have hP : va_P (dC, dI) vwCl (mw ar cy st1 sl) _ := hP
      clear hw
      exact W.iret (v := r22) hx hb hr (fun t ht hW => ⟨⟨r22, (st1, sl), rfl, ⟨hG, hL, trivial⟩, mB.of ht hP⟩, hS.F ht⟩) hS.2.2 dX12_person_149
    refine lv_tableOut (tgt := 150) hx hb dX12_person_19 (by clear hP hK hS hG hx hb hr hts hown; simp only [Int32.lt_iff_toInt_lt, ← Int32.toInt_inj, Int32.reduceToInt] at cw5 cw7 cw9 cw11 cw13 cw15 cw17 cw19 cw21 ⊢; omega) (by decide) ?_
    refine lv_aload_n hx hb dX12_person_150 rfl (lv_at hl 0 rfl) ?_
    refine va_calli (va_runV (As := []) (rest := []) ⟨hx, hb, hml, hown, hts⟩ (m_refuse l dC dI ar cy _ hN st1 sl  hG.1) (cwV 0 hts gX12_person_X12_refuse rfl rfl rfl (by decide +kernel) ⟨Nat.le_of_ble_eq_true rfl, Nat.le_of_ble_eq_true rfl⟩) ⟨fun a U g mk q => ⟨q.1, mPre.blind q.2⟩, va_recv hK hP (ci := 11) (q0 := 0) rfl rfl, fun U hU hW => ⟨rfl, mPre.of hP hK hU hW⟩⟩ rfl rfl hl.1 rfl (lv_room (Nat.le_of_ble_eq_true rfl)) dX12_person_151 ⟨Nat.le_of_ble_eq_true rfl, Nat.le_of_ble_eq_true rfl⟩) hS (fun q _ h => MA.le hS.1 q h) (MA.le hS.1) (fun r23 x t H locs ht hvm hw hB _ _ hS => ?_)
    have hP := mB.at ht hB
    clear hB ht hvm
    obtain ⟨st24, sl25⟩ := x
    obtain ⟨hG2, hL2, hw⟩ := hw
    have hL : LQ [7, 9] sl sl25 := hL.tr hL2 (by decide)
    clear hL2
    have hP : va_P (dC, dI) vwCl (mw ar cy st24 sl25) _ := hP
    have hG : MG [1, 2, 3, 4, 5, 6, 7, 8, 9, 10, 11, 12, 13, 14, 15, 16, 17, 19, 20, 21, 22, 23] st st24 := hG.tr hG2 (by decide)
    clear hG2
    obtain rfl := hw
    exact W.iret (v := 0) hx hb hr (fun t ht hW => ⟨⟨0, (st24, sl25), rfl, ⟨hG, hL, trivial⟩, mB.of ht hP⟩, hS.F ht⟩) hS.2.2 dX12_person_154
  · refine lv_if_ne (tgt := 18) hx hb dX12_person_10 (by decide) (fun cc => absurd (by decide) cc) (fun _ => ?_)
    refine lv_aload_n hx hb dX12_person_13 rfl (lv_at hl 0 rfl) ?_
    refine va_calli (va_runV (As := []) (rest := []) ⟨hx, hb, hml, hown, hts⟩ (m_refuse l dC dI ar cy _ hN st1 sl  hG.1) (cwV 0 hts gX12_person_X12_refuse rfl rfl rfl (by decide +kernel) ⟨Nat.le_of_ble_eq_true rfl, Nat.le_of_ble_eq_true rfl⟩) ⟨fun a U g mk q => ⟨q.1, mPre.blind q.2⟩, va_recv hK hP (ci := 11) (q0 := 0) rfl rfl, fun U hU hW => ⟨rfl, mPre.of hP hK hU hW⟩⟩ rfl rfl hl.1 rfl (lv_room (Nat.le_of_ble_eq_true rfl)) dX12_person_14 ⟨Nat.le_of_ble_eq_true rfl, Nat.le_of_ble_eq_true rfl⟩) hS (fun q _ h => MA.le hS.1 q h) (MA.le hS.1) (fun r26 x t H locs ht hvm hw hB _ _ hS => ?_)
    have hP := mB.at ht hB
    clear hB ht hvm
    obtain ⟨st27, sl28⟩ := x
    obtain ⟨hG2, hL2, hw⟩ := hw
    have hL : LQ [7, 9] sl sl28 := hL.tr hL2 (by decide)
    clear hL2
    have hP : va_P (dC, dI) vwCl (mw ar cy st27 sl28) _ := hP
    have hG : MG [1, 2, 3, 4, 5, 6, 7, 8, 9, 10, 11, 12, 13, 14, 15, 16, 17, 19, 20, 21, 22, 23] st st27 := hG.tr hG2 (by decide)
    clear hG2
    obtain rfl := hw
    exact W.iret (v := 0) hx hb hr (fun t ht hW => ⟨⟨0, (st27, sl28), rfl, ⟨hG, hL, trivial⟩, mB.of ht hP⟩, hS.F ht⟩) hS.2.2 dX12_person_17
set_option maxHeartbeats 4000000 in
set_option maxRecDepth 100000 in
theorem m_dog (l : Launch) (dC : Nat → ClassId) (dI : Nat → Nat → Nat) (ar : Nat → Nat) (cy : Nat → ClassId) (sz : Nat) (hN : MN ar) (st : Nat → Nat → Int32) (sl : Nat → Nat → Int64) (va : Int32) (vb : Int32) (hI : MI st) : Met l yX12_dog wsX12_dog ({ frames := 2, cells := 0, slots := 0, locals := 43 }) (va_Pc [.ref (ar 0), .int va, .int vb] (mPre dC dI ar cy sz st sl)) (va_Qi (fun (r : Int32) (x : MT) => MG [1, 2, 3, 4, 5, 6, 7, 8, 9, 10, 11, 12, 13, 14, 15, 16, 17, 19, 20, 21, 22, 23] st x.1 ∧ LQ [7, 9] sl x.2 ∧ (True)) (mB dC dI ar cy) (MA ar sz)) 0 0 (MA ar sz) := by
  refine Met.ofW (cc := cX12_dog) (maxL := 3) (ret := (some .int)) (by decide) rfl ?_
  intro p e s m args below meth c s₁ B hml hv
  obtain ⟨rfl, hsz, hP, hK⟩ := hv
  have hx := B.exec
  have hb := B.bytes
  have hr := B.returns
  have hts := atoms_spec (ws := wsX12_dog) B.pre
  have hown : s.vm.findClass RX12 = some m.cls := findClass_of_methodNamed B.named
  subst hsz
  have hS : va_S (MA ar s.heap.size) s.heap s.heap [] := va_S.rf
  have hG : MG [1, 2, 3, 4, 5, 6, 7, 8, 9, 10, 11, 12, 13, 14, 15, 16, 17, 19, 20, 21, 22, 23] st st := MG.rf hI
  have hl := lv_entry ([.ref (ar 0), .int va, .int vb]) (n := 3) (Nat.le_of_ble_eq_true rfl)
  rw [lg_entry_eq]
  generalize (lg_sl ([.ref (ar 0), .int va, .int vb]) ++ List.replicate (3 - (lg_sl ([.ref (ar 0), .int va, .int vb])).length) Slot.unset).toArray = ls at hl ⊢
  have hl : lv_has ls 3 [(0, .ref (ar 0)), (1, .int va), (2, .int vb)] := hl
  clear hI
  have hL : LQ [7, 9] sl sl := LQ.rf
  refine lv_aload_n hx hb dX12_dog_0 rfl (lv_at hl 0 rfl) ?_
  refine lv_iconst (v := 0) hx hb dX12_dog_1 (by decide) ?_
  refine va_put (D := (dC, dI)) (ci := 11) (v := .int 0) (ty := .int) (C := RX12) (T := TX12) (N := 47) hx hb hts ii_X12_dog tyX12 tyX12_ok nmX12 hown hK hP (mD hN _ _ _ _) hS 0 rfl rfl 0 (by decide) (hts _ mm_X12_dog_1) (fun _ hh => hh) rfl (by decide +kernel) rfl rfl (Nat.le_of_ble_eq_true rfl) dX12_dog_2 (fun H locs hP _ hS => ?_)
  have hP : va_P (dC, dI) vwCl (mw ar cy (up2 st 0 0 0) sl) H := hP
  obtain ⟨st1, hP, hG⟩ : ∃ y, va_P (dC, dI) vwCl (mw ar cy y sl) H ∧ MG [1, 2, 3, 4, 5, 6, 7, 8, 9, 10, 11, 12, 13, 14, 15, 16, 17, 19, 20, 21, 22, 23] st y := ⟨up2 st 0 0 0, hP, hG.up (rz (by decide : mr 0 0 = 0)) (pn (by decide : pcl 0 0 = 0) (by decide))⟩
  refine lv_aload_n hx hb dX12_dog_5 rfl (lv_at hl 0 rfl) ?_
  refine lv_iload_n hx hb dX12_dog_6 rfl (lv_at hl 1 rfl) ?_
  refine va_calli (va_runV (As := [.int va]) (rest := []) ⟨hx, hb, hml, hown, hts⟩ (m_isDog l dC dI ar cy _ hN st1 sl va  hG.1) (cwV 1 hts gX12_dog_X12_isDog rfl rfl rfl (by decide +kernel) ⟨Nat.le_of_ble_eq_true rfl, Nat.le_of_ble_eq_true rfl⟩) ⟨fun a U g mk q => ⟨q.1, mPre.blind q.2⟩, va_recv hK hP (ci := 11) (q0 := 0) rfl rfl, fun U hU hW => ⟨rfl, mPre.of hP hK hU hW⟩⟩ rfl rfl hl.1 rfl (lv_room (Nat.le_of_ble_eq_true rfl)) dX12_dog_7 ⟨Nat.le_of_ble_eq_true rfl, Nat.le_of_ble_eq_true rfl⟩) hS (fun q _ h => MA.le hS.1 q h) (MA.le hS.1) (fun r2 x t H locs ht hvm hw hB _ _ hS => ?_)
  have hP := mB.at ht hB
  clear hB ht hvm
  obtain ⟨rfl, hw⟩ := hw
  have hP : va_P (dC, dI) vwCl (mw ar cy st1 sl) _ := hP
  rcases hw with ⟨n3, rfl, hf4, rfl⟩ | rfl
  · refine lv_if_ne (tgt := 18) hx hb dX12_dog_10 (by decide) (fun _ => ?_) (fun cc => absurd cc (by decide))
    refine lv_iload_n hx hb dX12_dog_18 rfl (lv_at hl 2 rfl) ?_
    by_cases cw5 : vb = 0
    · subst cw5
      refine lv_tableIn (tgt := 56) hx hb dX12_dog_19 (by decide) (by decide) rfl (by decide) ?_
      refine lv_aload_n hx hb dX12_dog_56 rfl (lv_at hl 0 rfl) ?_
      refine va_get (D := (dC, dI)) (ci := 11) (v := .ref (ar 2)) (C := RX12) (T := TX12) (N := 47) hx hb hts ii_X12_dog hown hK hP 0 rfl rfl 14 (by decide) (hts _ mm_X12_dog_2) (fun _ hh => hh) rfl dX12_dog_57 ?_
      refine lv_bipush (v := 42) hx hb dX12_dog_60 (by decide) ?_
      refine lv_iload_n hx hb dX12_dog_62 rfl (lv_at hl 1 rfl) ?_
      refine lv_iadd hx hb dX12_dog_63 ?_
      refine zz_top (v := nI (42 + n3)) (nI_add 42 n3) ?_
      refine va_iald hx hb hK hP 2 1 rfl rfl (i := (nI (42 + n3))) (vp_in_nI (by omega) (by decide)) dX12_dog_64 ?_
      obtain ⟨n6, hn6, en6⟩ := hG.1.at (r := 2) (k := (42 + n3)) (mr_2_42_48 (42 + n3) (by omega) (by omega)) (by decide)
      refine zz_top (v := nI n6) (by rw [nI_clamp (by omega)]; exact en6) ?_
      clear en6
      exact W.iret (v := (nI n6)) hx hb hr (fun t ht hW => ⟨⟨(nI n6), (st1, sl), rfl, ⟨hG, hL, trivial⟩, mB.of ht hP⟩, hS.F ht⟩) hS.2.2 dX12_dog_65
    by_cases cw7 : vb = 1
    · subst cw7
      refine lv_tableIn (tgt := 66) hx hb dX12_dog_19 (by decide) (by decide) rfl (by decide) ?_
      refine lv_aload_n hx hb dX12_dog_66 rfl (lv_at hl 0 rfl) ?_
      refine va_get (D := (dC, dI)) (ci := 11) (v := .ref (ar 2)) (C := RX12) (T := TX12) (N := 47) hx hb hts ii_X12_dog hown hK hP 0 rfl rfl 14 (by decide) (hts _ mm_X12_dog_2) (fun _ hh => hh) rfl dX12_dog_67 ?_
      refine lv_bipush (v := 48) hx hb dX12_dog_70 (by decide) ?_
      refine lv_iload_n hx hb dX12_dog_72 rfl (lv_at hl 1 rfl) ?_
      refine lv_iadd hx hb dX12_dog_73 ?_
      refine zz_top (v := nI (48 + n3)) (nI_add 48 n3) ?_
      refine va_iald hx hb hK hP 2 1 rfl rfl (i := (nI (48 + n3))) (vp_in_nI (by omega) (by decide)) dX12_dog_74 ?_
      obtain ⟨n8, hn8, en8⟩ := hG.1.at (r := 2) (k := (48 + n3)) (mr_2_48_54 (48 + n3) (by omega) (by omega)) (by decide)
      refine zz_top (v := nI n8) (by rw [nI_clamp (by omega)]; exact en8) ?_
      clear en8
      exact W.iret (v := (nI n8)) hx hb hr (fun t ht hW => ⟨⟨(nI n8), (st1, sl), rfl, ⟨hG, hL, trivial⟩, mB.of ht hP⟩, hS.F ht⟩) hS.2.2 dX12_dog_75
    by_cases cw9 : vb = 2
    · subst cw9
      refine lv_tableIn (tgt := 76) hx hb dX12_dog_19 (by decide) (by decide) rfl (by decide) ?_
      refine lv_aload_n hx hb dX12_dog_76 rfl (lv_at hl 0 rfl) ?_
      refine va_get (D := (dC, dI)) (ci := 11) (v := .ref (ar 2)) (C := RX12) (T := TX12) (N := 47) hx hb hts ii_X12_dog hown hK hP 0 rfl rfl 14 (by decide) (hts _ mm_X12_dog_2) (fun _ hh => hh) rfl dX12_dog_77 ?_
      refine lv_bipush (v := 54) hx hb dX12_dog_80 (by decide) ?_
      refine lv_iload_n hx hb dX12_dog_82 rfl (lv_at hl 1 rfl) ?_
      refine lv_iadd hx hb dX12_dog_83 ?_
      refine zz_top (v := nI (54 + n3)) (nI_add 54 n3) ?_
      refine va_iald hx hb hK hP 2 1 rfl rfl (i := (nI (54 + n3))) (vp_in_nI (by omega) (by decide)) dX12_dog_84 ?_
      refine lv_topi (fun z10 ez10 => ?_)
      clear ez10
      exact W.iret (v := z10) hx hb hr (fun t ht hW => ⟨⟨z10, (st1, sl), rfl, ⟨hG, hL, trivial⟩, mB.of ht hP⟩, hS.F ht⟩) hS.2.2 dX12_dog_85
    by_cases cw11 : vb = 3
    · subst cw11
      refine lv_tableIn (tgt := 86) hx hb dX12_dog_19 (by decide) (by decide) rfl (by decide) ?_
      refine lv_aload_n hx hb dX12_dog_86 rfl (lv_at hl 0 rfl) ?_
      refine va_get (D := (dC, dI)) (ci := 11) (v := .ref (ar 2)) (C := RX12) (T := TX12) (N := 47) hx hb hts ii_X12_dog hown hK hP 0 rfl rfl 14 (by decide) (hts _ mm_X12_dog_2) (fun _ hh => hh) rfl dX12_dog_87 ?_
      refine lv_bipush (v := 64) hx hb dX12_dog_90 (by decide) ?_
      refine va_iald hx hb hK hP 2 1 rfl rfl (i := 64) (zz_in (by decide)) dX12_dog_92 ?_
      refine lv_topi (fun z12 ez12 => ?_)
      clear ez12
      refine lv_iload_n hx hb dX12_dog_93 rfl (lv_at hl 1 rfl) ?_
      refine va_calli (va_runS (As := [.int z12, .int (nI n3)]) (rest := []) ⟨hx, hb, hml, hown, hts⟩ (m_has l dC dI ar cy _ hN st1 sl z12 (nI n3)  hG.1) (va_cwS 2 hts gX12_dog_X12_has rfl rfl rfl (by decide +kernel) ⟨Nat.le_of_ble_eq_true rfl, Nat.le_of_ble_eq_true rfl⟩) ⟨fun a U g mk q => ⟨q.1, mPre.blind q.2⟩, fun U hU hW => ⟨rfl, mPre.of hP hK hU hW⟩⟩ rfl rfl hl.1 rfl (lv_room (Nat.le_of_ble_eq_true rfl)) dX12_dog_94 ⟨Nat.le_of_ble_eq_true rfl, Nat.le_of_ble_eq_true rfl⟩) hS (fun q _ h => MA.le hS.1 q h) (MA.le hS.1) (fun r13 x t H locs ht hvm hw hB _ _ hS => ?_)
      have hP := mB.at ht hB
      clear hB ht hvm
      obtain ⟨rfl, hw⟩ := hw
      have hP : va_P (dC, dI) vwCl (mw ar cy st1 sl) _ := hP
      rcases hw with rfl | rfl
      · refine lv_if_eq (tgt := 104) hx hb dX12_dog_97 (by decide) (fun cc => absurd cc (by decide)) (fun _ => ?_)
        refine lv_iconst (v := 1) hx hb dX12_dog_100 (by decide) ?_
        refine lv_goto (tgt := 105) hx hb dX12_dog_101 (by decide) ?_
        exact W.iret (v := 1) hx hb hr (fun t ht hW => ⟨⟨1, (st1, sl), rfl, ⟨hG, hL, trivial⟩, mB.of ht hP⟩, hS.F ht⟩) hS.2.2 dX12_dog_105
      · refine lv_if_eq (tgt := 104) hx hb dX12_dog_97 (by decide) (fun _ => ?_) (fun cc => absurd (by decide) cc)
        refine lv_iconst (v := 0) hx hb dX12_dog_104 (by decide) ?_
        exact W.iret (v := 0) hx hb hr (fun t ht hW => ⟨⟨0, (st1, sl), rfl, ⟨hG, hL, trivial⟩, mB.of ht hP⟩, hS.F ht⟩) hS.2.2 dX12_dog_105
    by_cases cw14 : vb = 4
    · subst cw14
      refine lv_tableIn (tgt := 106) hx hb dX12_dog_19 (by decide) (by decide) rfl (by decide) ?_
      refine lv_aload_n hx hb dX12_dog_106 rfl (lv_at hl 0 rfl) ?_
      refine va_get (D := (dC, dI)) (ci := 11) (v := .ref (ar 2)) (C := RX12) (T := TX12) (N := 47) hx hb hts ii_X12_dog hown hK hP 0 rfl rfl 14 (by decide) (hts _ mm_X12_dog_2) (fun _ hh => hh) rfl dX12_dog_107 ?_
      refine lv_bipush (v := 119) hx hb dX12_dog_110 (by decide) ?_
      refine lv_iload_n hx hb dX12_dog_112 rfl (lv_at hl 1 rfl) ?_
      refine lv_iadd hx hb dX12_dog_113 ?_
      refine zz_top (v := nI (119 + n3)) (nI_add 119 n3) ?_
      refine va_iald hx hb hK hP 2 1 rfl rfl (i := (nI (119 + n3))) (vp_in_nI (by omega) (by decide)) dX12_dog_114 ?_
      refine lv_topi (fun z15 ez15 => ?_)
      clear ez15
      exact W.iret (v := z15) hx hb hr (fun t ht hW => ⟨⟨z15, (st1, sl), rfl, ⟨hG, hL, trivial⟩, mB.of ht hP⟩, hS.F ht⟩) hS.2.2 dX12_dog_115
    by_cases cw16 : vb = 5
    · subst cw16
      refine lv_tableIn (tgt := 116) hx hb dX12_dog_19 (by decide) (by decide) rfl (by decide) ?_
      refine lv_aload_n hx hb dX12_dog_116 rfl (lv_at hl 0 rfl) ?_
      refine va_get (D := (dC, dI)) (ci := 11) (v := .ref (ar 2)) (C := RX12) (T := TX12) (N := 47) hx hb hts ii_X12_dog hown hK hP 0 rfl rfl 14 (by decide) (hts _ mm_X12_dog_2) (fun _ hh => hh) rfl dX12_dog_117 ?_
      refine lv_bipush (v := 125) hx hb dX12_dog_120 (by decide) ?_
      refine lv_iload_n hx hb dX12_dog_122 rfl (lv_at hl 1 rfl) ?_
      refine lv_iadd hx hb dX12_dog_123 ?_
      refine zz_top (v := nI (125 + n3)) (nI_add 125 n3) ?_
      refine va_iald hx hb hK hP 2 1 rfl rfl (i := (nI (125 + n3))) (vp_in_nI (by omega) (by decide)) dX12_dog_124 ?_
      refine lv_topi (fun z17 ez17 => ?_)
      clear ez17
      exact W.iret (v := z17) hx hb hr (fun t ht hW => ⟨⟨z17, (st1, sl), rfl, ⟨hG, hL, trivial⟩, mB.of ht hP⟩, hS.F ht⟩) hS.2.2 dX12_dog_125
    refine lv_tableOut (tgt := 126) hx hb dX12_dog_19 (by clear hP hK hS hG hx hb hr hts hown; simp only [Int32.lt_iff_toInt_lt, ← Int32.toInt_inj, Int32.reduceToInt] at cw5 cw7 cw9 cw11 cw14 cw16 ⊢; omega) (by decide) ?_
    refine lv_aload_n hx hb dX12_dog_126 rfl (lv_at hl 0 rfl) ?_
    refine va_calli (va_runV (As := []) (rest := []) ⟨hx, hb, hml, hown, hts⟩ (m_refuse l dC dI ar cy _ hN st1 sl  hG.1) (cwV 0 hts gX12_dog_X12_refuse rfl rfl rfl (by decide +kernel) ⟨Nat.le_of_ble_eq_true rfl, Nat.le_of_ble_eq_true rfl⟩) ⟨fun a U g mk q => ⟨q.1, mPre.blind q.2⟩, va_recv hK hP (ci := 11) (q0 := 0) rfl rfl, fun U hU hW => ⟨rfl, mPre.of hP hK hU hW⟩⟩ rfl rfl hl.1 rfl (lv_room (Nat.le_of_ble_eq_true rfl)) dX12_dog_127 ⟨Nat.le_of_ble_eq_true rfl, Nat.le_of_ble_eq_true rfl⟩) hS (fun q _ h => MA.le hS.1 q h) (MA.le hS.1) (fun r18 x t H locs ht hvm hw hB _ _ hS => ?_)
    have hP := mB.at ht hB
    clear hB ht hvm
    obtain ⟨st19, sl20⟩ := x
    obtain ⟨hG2, hL2, hw⟩ := hw
    have hL : LQ [7, 9] sl sl20 := hL.tr hL2 (by decide)
    clear hL2
    have hP : va_P (dC, dI) vwCl (mw ar cy st19 sl20) _ := hP
    have hG : MG [1, 2, 3, 4, 5, 6, 7, 8, 9, 10, 11, 12, 13, 14, 15, 16, 17, 19, 20, 21, 22, 23] st st19 := hG.tr hG2 (by decide)
    clear hG2
    obtain rfl := hw
    exact W.iret (v := 0) hx hb hr (fun t ht hW => ⟨⟨0, (st19, sl20), rfl, ⟨hG, hL, trivial⟩, mB.of ht hP⟩, hS.F ht⟩) hS.2.2 dX12_dog_130
  · refine lv_if_ne (tgt := 18) hx hb dX12_dog_10 (by decide) (fun cc => absurd (by decide) cc) (fun _ => ?_)
    refine lv_aload_n hx hb dX12_dog_13 rfl (lv_at hl 0 rfl) ?_
    refine va_calli (va_runV (As := []) (rest := []) ⟨hx, hb, hml, hown, hts⟩ (m_refuse l dC dI ar cy _ hN st1 sl  hG.1) (cwV 0 hts gX12_dog_X12_refuse rfl rfl rfl (by decide +kernel) ⟨Nat.le_of_ble_eq_true rfl, Nat.le_of_ble_eq_true rfl⟩) ⟨fun a U g mk q => ⟨q.1, mPre.blind q.2⟩, va_recv hK hP (ci := 11) (q0 := 0) rfl rfl, fun U hU hW => ⟨rfl, mPre.of hP hK hU hW⟩⟩ rfl rfl hl.1 rfl (lv_room (Nat.le_of_ble_eq_true rfl)) dX12_dog_14 ⟨Nat.le_of_ble_eq_true rfl, Nat.le_of_ble_eq_true rfl⟩) hS (fun q _ h => MA.le hS.1 q h) (MA.le hS.1) (fun r21 x t H locs ht hvm hw hB _ _ hS => ?_)
    have hP := mB.at ht hB
    clear hB ht hvm
    obtain ⟨st22, sl23⟩ := x
    obtain ⟨hG2, hL2, hw⟩ := hw
    have hL : LQ [7, 9] sl sl23 := hL.tr hL2 (by decide)
    clear hL2
    have hP : va_P (dC, dI) vwCl (mw ar cy st22 sl23) _ := hP
    have hG : MG [1, 2, 3, 4, 5, 6, 7, 8, 9, 10, 11, 12, 13, 14, 15, 16, 17, 19, 20, 21, 22, 23] st st22 := hG.tr hG2 (by decide)
    clear hG2
    obtain rfl := hw
    exact W.iret (v := 0) hx hb hr (fun t ht hW => ⟨⟨0, (st22, sl23), rfl, ⟨hG, hL, trivial⟩, mB.of ht hP⟩, hS.F ht⟩) hS.2.2 dX12_dog_17
set_option maxHeartbeats 4000000 in
set_option maxRecDepth 100000 in
theorem m_place (l : Launch) (dC : Nat → ClassId) (dI : Nat → Nat → Nat) (ar : Nat → Nat) (cy : Nat → ClassId) (sz : Nat) (hN : MN ar) (st : Nat → Nat → Int32) (sl : Nat → Nat → Int64) (va : Int32) (vb : Int32) (hI : MI st) : Met l yX12_place wsX12_place ({ frames := 2, cells := 0, slots := 0, locals := 43 }) (va_Pc [.ref (ar 0), .int va, .int vb] (mPre dC dI ar cy sz st sl)) (va_Qi (fun (r : Int32) (x : MT) => MG [1, 2, 3, 4, 5, 6, 7, 8, 9, 10, 11, 12, 13, 14, 15, 16, 17, 19, 20, 21, 22, 23] st x.1 ∧ LQ [7, 9] sl x.2 ∧ (True)) (mB dC dI ar cy) (MA ar sz)) 0 0 (MA ar sz) := by
  refine Met.ofW (cc := cX12_place) (maxL := 5) (ret := (some .int)) (by decide) rfl ?_
  intro p e s m args below meth c s₁ B hml hv
  obtain ⟨rfl, hsz, hP, hK⟩ := hv
  have hx := B.exec
  have hb := B.bytes
  have hr := B.returns
  have hts := atoms_spec (ws := wsX12_place) B.pre
  have hown : s.vm.findClass RX12 = some m.cls := findClass_of_methodNamed B.named
  subst hsz
  have hS : va_S (MA ar s.heap.size) s.heap s.heap [] := va_S.rf
  have hG : MG [1, 2, 3, 4, 5, 6, 7, 8, 9, 10, 11, 12, 13, 14, 15, 16, 17, 19, 20, 21, 22, 23] st st := MG.rf hI
  have hl := lv_entry ([.ref (ar 0), .int va, .int vb]) (n := 5) (Nat.le_of_ble_eq_true rfl)
  rw [lg_entry_eq]
  generalize (lg_sl ([.ref (ar 0), .int va, .int vb]) ++ List.replicate (5 - (lg_sl ([.ref (ar 0), .int va, .int vb])).length) Slot.unset).toArray = ls at hl ⊢
  have hl : lv_has ls 5 [(0, .ref (ar 0)), (1, .int va), (2, .int vb)] := hl
  clear hI
  have hL : LQ [7, 9] sl sl := LQ.rf
  refine lv_aload_n hx hb dX12_place_0 rfl (lv_at hl 0 rfl) ?_
  refine lv_iconst (v := 0) hx hb dX12_place_1 (by decide) ?_
  refine va_put (D := (dC, dI)) (ci := 11) (v := .int 0) (ty := .int) (C := RX12) (T := TX12) (N := 47) hx hb hts ii_X12_place tyX12 tyX12_ok nmX12 hown hK hP (mD hN _ _ _ _) hS 0 rfl rfl 0 (by decide) (hts _ mm_X12_place_1) (fun _ hh => hh) rfl (by decide +kernel) rfl rfl (Nat.le_of_ble_eq_true rfl) dX12_place_2 (fun H locs hP _ hS => ?_)
  have hP : va_P (dC, dI) vwCl (mw ar cy (up2 st 0 0 0) sl) H := hP
  obtain ⟨st1, hP, hG⟩ : ∃ y, va_P (dC, dI) vwCl (mw ar cy y sl) H ∧ MG [1, 2, 3, 4, 5, 6, 7, 8, 9, 10, 11, 12, 13, 14, 15, 16, 17, 19, 20, 21, 22, 23] st y := ⟨up2 st 0 0 0, hP, hG.up (rz (by decide : mr 0 0 = 0)) (pn (by decide : pcl 0 0 = 0) (by decide))⟩
  refine lv_aload_n hx hb dX12_place_5 rfl (lv_at hl 0 rfl) ?_
  refine lv_iload_n hx hb dX12_place_6 rfl (lv_at hl 1 rfl) ?_
  refine va_calli (va_runV (As := [.int va]) (rest := []) ⟨hx, hb, hml, hown, hts⟩ (m_isPlace l dC dI ar cy _ hN st1 sl va  hG.1) (cwV 1 hts gX12_place_X12_isPlace rfl rfl rfl (by decide +kernel) ⟨Nat.le_of_ble_eq_true rfl, Nat.le_of_ble_eq_true rfl⟩) ⟨fun a U g mk q => ⟨q.1, mPre.blind q.2⟩, va_recv hK hP (ci := 11) (q0 := 0) rfl rfl, fun U hU hW => ⟨rfl, mPre.of hP hK hU hW⟩⟩ rfl rfl hl.1 rfl (lv_room (Nat.le_of_ble_eq_true rfl)) dX12_place_7 ⟨Nat.le_of_ble_eq_true rfl, Nat.le_of_ble_eq_true rfl⟩) hS (fun q _ h => MA.le hS.1 q h) (MA.le hS.1) (fun r2 x t H locs ht hvm hw hB _ _ hS => ?_)
  have hP := mB.at ht hB
  clear hB ht hvm
  obtain ⟨rfl, hw⟩ := hw
  have hP : va_P (dC, dI) vwCl (mw ar cy st1 sl) _ := hP
  rcases hw with ⟨n3, rfl, hf4, rfl⟩ | rfl
  · refine lv_if_ne (tgt := 15) hx hb dX12_place_10 (by decide) (fun _ => ?_) (fun cc => absurd cc (by decide))
    refine lv_iconst (v := 0) hx hb dX12_place_15 (by decide) ?_
    refine lv_istore_n (lv' := [(3, .int 0), (0, .ref (ar 0)), (1, .int (nI n3)), (2, .int vb)]) hx hb dX12_place_16 rfl hl (by decide) rfl (fun ls hl => ?_)
    refine lv_iload_n hx hb dX12_place_17 rfl (lv_at hl 3 rfl) ?_
    by_cases cw5 : vb = 0
    · subst cw5
      refine lv_tableIn (tgt := 44) hx hb dX12_place_18 (by decide) (by decide) rfl (by decide) ?_
      refine lv_aload_n hx hb dX12_place_44 rfl (lv_at hl 1 rfl) ?_
      refine va_get (D := (dC, dI)) (ci := 11) (v := .ref (ar 2)) (C := RX12) (T := TX12) (N := 47) hx hb hts ii_X12_place hown hK hP 0 rfl rfl 14 (by decide) (hts _ mm_X12_place_2) (fun _ hh => hh) rfl dX12_place_45 ?_
      refine lv_bipush (v := 66) hx hb dX12_place_48 (by decide) ?_
      refine lv_iload_n hx hb dX12_place_50 rfl (lv_at hl 2 rfl) ?_
      refine lv_iadd hx hb dX12_place_51 ?_
      refine zz_top (v := nI (66 + n3)) (nI_add 66 n3) ?_
      refine va_iald hx hb hK hP 2 1 rfl rfl (i := (nI (66 + n3))) (vp_in_nI (by omega) (by decide)) dX12_place_52 ?_
      obtain ⟨n6, hn6, en6⟩ := hG.1.at (r := 2) (k := (66 + n3)) (mr_2_66_71 (66 + n3) (by omega) (by omega)) (by decide)
      refine zz_top (v := nI n6) (by rw [nI_clamp (by omega)]; exact en6) ?_
      clear en6
      exact W.iret (v := (nI n6)) hx hb hr (fun t ht hW => ⟨⟨(nI n6), (st1, sl), rfl, ⟨hG, hL, trivial⟩, mB.of ht hP⟩, hS.F ht⟩) hS.2.2 dX12_place_53
    by_cases cw7 : vb = 1
    · subst cw7
      refine lv_tableIn (tgt := 54) hx hb dX12_place_18 (by decide) (by decide) rfl (by decide) ?_
      refine lv_aload_n hx hb dX12_place_54 rfl (lv_at hl 1 rfl) ?_
      refine lv_iload_n hx hb dX12_place_55 rfl (lv_at hl 2 rfl) ?_
      refine va_calli (va_runV (As := [.int (nI n3)]) (rest := []) ⟨hx, hb, hml, hown, hts⟩ (m_isFenced l dC dI ar cy _ hN st1 sl (nI n3)  hG.1) (cwV 1 hts gX12_place_X12_isFenced rfl rfl rfl (by decide +kernel) ⟨Nat.le_of_ble_eq_true rfl, Nat.le_of_ble_eq_true rfl⟩) ⟨fun a U g mk q => ⟨q.1, mPre.blind q.2⟩, va_recv hK hP (ci := 11) (q0 := 0) rfl rfl, fun U hU hW => ⟨rfl, mPre.of hP hK hU hW⟩⟩ rfl rfl hl.1 rfl (lv_room (Nat.le_of_ble_eq_true rfl)) dX12_place_56 ⟨Nat.le_of_ble_eq_true rfl, Nat.le_of_ble_eq_true rfl⟩) hS (fun q _ h => MA.le hS.1 q h) (MA.le hS.1) (fun r8 x t H locs ht hvm hw hB _ _ hS => ?_)
      have hP := mB.at ht hB
      clear hB ht hvm
      obtain ⟨rfl, hw⟩ := hw
      have hP : va_P (dC, dI) vwCl (mw ar cy st1 sl) _ := hP
      rcases hw with rfl | rfl
      · refine lv_if_eq (tgt := 66) hx hb dX12_place_59 (by decide) (fun cc => absurd cc (by decide)) (fun _ => ?_)
        refine lv_iconst (v := 1) hx hb dX12_place_62 (by decide) ?_
        refine lv_goto (tgt := 67) hx hb dX12_place_63 (by decide) ?_
        exact W.iret (v := 1) hx hb hr (fun t ht hW => ⟨⟨1, (st1, sl), rfl, ⟨hG, hL, trivial⟩, mB.of ht hP⟩, hS.F ht⟩) hS.2.2 dX12_place_67
      · refine lv_if_eq (tgt := 66) hx hb dX12_place_59 (by decide) (fun _ => ?_) (fun cc => absurd (by decide) cc)
        refine lv_iconst (v := 0) hx hb dX12_place_66 (by decide) ?_
        exact W.iret (v := 0) hx hb hr (fun t ht hW => ⟨⟨0, (st1, sl), rfl, ⟨hG, hL, trivial⟩, mB.of ht hP⟩, hS.F ht⟩) hS.2.2 dX12_place_67
    by_cases cw9 : vb = 2
    · subst cw9
      refine lv_tableIn (tgt := 68) hx hb dX12_place_18 (by decide) (by decide) rfl (by decide) ?_
      refine lv_iconst (v := 0) hx hb dX12_place_68 (by decide) ?_
      refine lv_istore (lv' := [(4, .int 0), (3, .int 0), (0, .ref (ar 0)), (1, .int (nI n3)), (2, .int 2)]) hx hb dX12_place_69 hl (by decide) rfl (fun ls hl => ?_)
      refine zz_wf (fun n stk H locs ls => ∃ k10 : Nat, ∃ z11 : Int32, n = 9 - k10 ∧ 0 ≤ k10 ∧ k10 < 9 ∧ va_P (dC, dI) vwCl (mw ar cy st1 sl) H ∧ va_S (MA ar s.heap.size) s.heap H locs ∧ lv_has ls 5 [(4, .int (nI k10)), (3, .int z11), (0, .ref (ar 0)), (1, .int (nI n3)), (2, .int 2)] ∧ stk = []) ?_ (9 - 0) _ _ _ _ ⟨0, 0, rfl, by omega, by omega, hP, hS, lv_sub hl [0, 1, 2, 3, 4] rfl, rfl⟩
      rintro nn stk H locs ls ⟨k10, z11, hm13, hv12_0, hv13_1, hP, hS, hl, rfl⟩ ih14
      refine lv_iload hx hb dX12_place_71 (lv_at hl 0 rfl) ?_
      refine lv_aload_n hx hb dX12_place_73 rfl (lv_at hl 2 rfl) ?_
      refine va_get (D := (dC, dI)) (ci := 11) (v := .ref (ar 2)) (C := RX12) (T := TX12) (N := 47) hx hb hts ii_X12_place hown hK hP 0 rfl rfl 14 (by decide) (hts _ mm_X12_place_2) (fun _ hh => hh) rfl dX12_place_74 ?_
      refine lv_iconst (v := 1) hx hb dX12_place_77 (by decide) ?_
      refine va_iald hx hb hK hP 2 1 rfl rfl (i := 1) (zz_in (by decide)) dX12_place_78 ?_
      obtain ⟨n15, hn15, en15⟩ := hG.1.at (r := 2) (k := 1) (by decide : mr 2 1 = 9) (by decide)
      refine zz_top (v := nI n15) (by exact en15) ?_
      clear en15
      refine lv_icmp_ge (tgt := 109) hx hb dX12_place_79 (by decide) (fun c4 => ?_) (fun c4 => ?_)
      · have c4 : n15 ≤ k10 := (nI_leI (a := n15) (b := k10) (by omega) (by omega)).mp c4
        refine lv_iload_n hx hb dX12_place_109 rfl (lv_at hl 1 rfl) ?_
        exact W.iret (v := z11) hx hb hr (fun t ht hW => ⟨⟨z11, (st1, sl), rfl, ⟨hG, hL, trivial⟩, mB.of ht hP⟩, hS.F ht⟩) hS.2.2 dX12_place_110
      · have c4 : ¬ n15 ≤ k10 := fun hh => c4 ((nI_leI (a := n15) (b := k10) (by omega) (by omega)).mpr hh)
        refine lv_aload_n hx hb dX12_place_82 rfl (lv_at hl 2 rfl) ?_
        refine va_get (D := (dC, dI)) (ci := 11) (v := .ref (ar 2)) (C := RX12) (T := TX12) (N := 47) hx hb hts ii_X12_place hown hK hP 0 rfl rfl 14 (by decide) (hts _ mm_X12_place_2) (fun _ hh => hh) rfl dX12_place_83 ?_
        refine lv_bipush (v := 71) hx hb dX12_place_86 (by decide) ?_
        refine lv_iload hx hb dX12_place_88 (lv_at hl 0 rfl) ?_
        refine lv_iadd hx hb dX12_place_90 ?_
        refine zz_top (v := nI (71 + k10)) (nI_add 71 k10) ?_
        refine va_iald hx hb hK hP 2 1 rfl rfl (i := (nI (71 + k10))) (vp_in_nI (by omega) (by decide)) dX12_place_91 ?_
        obtain ⟨n16, hn16, en16⟩ := hG.1.at (r := 2) (k := (71 + k10)) (mr_2_71_79 (71 + k10) (by omega) (by omega)) (by decide)
        refine zz_top (v := nI n16) (by rw [nI_clamp (by omega)]; exact en16) ?_
        clear en16
        refine lv_iload_n hx hb dX12_place_92 rfl (lv_at hl 3 rfl) ?_
        refine lv_icmp_ne (tgt := 103) hx hb dX12_place_93 (by decide) (fun c5 => ?_) (fun c5 => ?_)
        · have c5 : ¬ n16 = n3 := fun hh => c5 ((nI_eq (a := n16) (b := n3) (by omega) (by omega)).mpr hh)
          refine lv_iinc (v := (nI (k10 + 1))) (lv' := [(4, .int (nI (k10 + 1))), (3, .int z11), (0, .ref (ar 0)), (1, .int (nI n3)), (2, .int 2)]) hx hb dX12_place_103 hl (k := 0) rfl (nI_add k10 1) (by decide) rfl (fun ls hl => ?_)
          refine lv_goto (tgt := 71) hx hb dX12_place_106 (by decide) ?_
          exact ih14 (9 - (k10 + 1)) _ _ _ _ (by omega) ⟨(k10 + 1), z11, rfl, by omega, by omega, hP, hS, lv_sub hl [0, 1, 2, 3, 4] rfl, rfl⟩
        · have c5 : n16 = n3 := (nI_eq (a := n16) (b := n3) (by omega) (by omega)).mp c5
          refine lv_iload_n hx hb dX12_place_96 rfl (lv_at hl 1 rfl) ?_
          refine lv_iconst (v := 1) hx hb dX12_place_97 (by decide) ?_
          refine lv_iload hx hb dX12_place_98 (lv_at hl 0 rfl) ?_
          refine lv_ishl hx hb dX12_place_100 ?_
          refine lv_topi (fun z17 ez17 => ?_)
          clear ez17
          refine lv_ior hx hb dX12_place_101 ?_
          refine lv_topi (fun z18 ez18 => ?_)
          clear ez18
          refine lv_istore_n (lv' := [(3, .int z18), (4, .int (nI k10)), (0, .ref (ar 0)), (1, .int (nI n3)), (2, .int 2)]) hx hb dX12_place_102 rfl hl (by decide) rfl (fun ls hl => ?_)
          refine lv_iinc (v := (nI (k10 + 1))) (lv' := [(4, .int (nI (k10 + 1))), (3, .int z18), (0, .ref (ar 0)), (1, .int (nI n3)), (2, .int 2)]) hx hb dX12_place_103 hl (k := 1) rfl (nI_add k10 1) (by decide) rfl (fun ls hl => ?_)
          refine lv_goto (tgt := 71) hx hb dX12_place_106 (by decide) ?_
          exact ih14 (9 - (k10 + 1)) _ _ _ _ (by omega) ⟨(k10 + 1), z18, rfl, by omega, by omega, hP, hS, lv_sub hl [0, 1, 2, 3, 4] rfl, rfl⟩
    refine lv_tableOut (tgt := 111) hx hb dX12_place_18 (by clear hP hK hS hG hx hb hr hts hown; simp only [Int32.lt_iff_toInt_lt, ← Int32.toInt_inj, Int32.reduceToInt] at cw5 cw7 cw9 ⊢; omega) (by decide) ?_
    refine lv_iconst (v := (-1)) hx hb dX12_place_111 (by decide) ?_
    exact W.iret (v := (-1)) hx hb hr (fun t ht hW => ⟨⟨(-1), (st1, sl), rfl, ⟨hG, hL, trivial⟩, mB.of ht hP⟩, hS.F ht⟩) hS.2.2 dX12_place_112
  · refine lv_if_ne (tgt := 15) hx hb dX12_place_10 (by decide) (fun cc => absurd (by decide) cc) (fun _ => ?_)
    refine lv_iconst (v := (-1)) hx hb dX12_place_13 (by decide) ?_
    exact W.iret (v := (-1)) hx hb hr (fun t ht hW => ⟨⟨(-1), (st1, sl), rfl, ⟨hG, hL, trivial⟩, mB.of ht hP⟩, hS.F ht⟩) hS.2.2 dX12_place_14
set_option maxHeartbeats 4000000 in
set_option maxRecDepth 100000 in
theorem m_now (l : Launch) (dC : Nat → ClassId) (dI : Nat → Nat → Nat) (ar : Nat → Nat) (cy : Nat → ClassId) (sz : Nat) (hN : MN ar) (st : Nat → Nat → Int32) (sl : Nat → Nat → Int64) (va : Int32) (hI : MI st) : Met l yX12_now wsX12_now ({ frames := 5, cells := 0, slots := 0, locals := 111 }) (va_Pc [.ref (ar 0), .int va] (mPre dC dI ar cy sz st sl)) (va_Qi (fun (r : Int32) (x : MT) => MG [1, 2, 3, 4, 5, 6, 7, 8, 9, 10, 11, 12, 13, 14, 15, 16, 17, 19, 20, 21, 22, 23] st x.1 ∧ LQ [7, 9] sl x.2 ∧ (True)) (mB dC dI ar cy) (MA ar sz)) 0 0 (MA ar sz) := by
  refine Met.ofW (cc := cX12_now) (maxL := 4) (ret := (some .int)) (by decide) rfl ?_
  intro p e s m args below meth c s₁ B hml hv
  obtain ⟨rfl, hsz, hP, hK⟩ := hv
  have hx := B.exec
  have hb := B.bytes
  have hr := B.returns
  have hts := atoms_spec (ws := wsX12_now) B.pre
  have hown : s.vm.findClass RX12 = some m.cls := findClass_of_methodNamed B.named
  subst hsz
  have hS : va_S (MA ar s.heap.size) s.heap s.heap [] := va_S.rf
  have hG : MG [1, 2, 3, 4, 5, 6, 7, 8, 9, 10, 11, 12, 13, 14, 15, 16, 17, 19, 20, 21, 22, 23] st st := MG.rf hI
  have hl := lv_entry ([.ref (ar 0), .int va]) (n := 4) (Nat.le_of_ble_eq_true rfl)
  rw [lg_entry_eq]
  generalize (lg_sl ([.ref (ar 0), .int va]) ++ List.replicate (4 - (lg_sl ([.ref (ar 0), .int va])).length) Slot.unset).toArray = ls at hl ⊢
  have hl : lv_has ls 4 [(0, .ref (ar 0)), (1, .int va)] := hl
  clear hI
  have hL : LQ [7, 9] sl sl := LQ.rf
  refine lv_aload_n hx hb dX12_now_0 rfl (lv_at hl 0 rfl) ?_
  refine lv_iconst (v := 0) hx hb dX12_now_1 (by decide) ?_
  refine va_put (D := (dC, dI)) (ci := 11) (v := .int 0) (ty := .int) (C := RX12) (T := TX12) (N := 47) hx hb hts ii_X12_now tyX12 tyX12_ok nmX12 hown hK hP (mD hN _ _ _ _) hS 0 rfl rfl 0 (by decide) (hts _ mm_X12_now_1) (fun _ hh => hh) rfl (by decide +kernel) rfl rfl (Nat.le_of_ble_eq_true rfl) dX12_now_2 (fun H locs hP _ hS => ?_)
  have hP : va_P (dC, dI) vwCl (mw ar cy (up2 st 0 0 0) sl) H := hP
  obtain ⟨st1, hP, hG⟩ : ∃ y, va_P (dC, dI) vwCl (mw ar cy y sl) H ∧ MG [1, 2, 3, 4, 5, 6, 7, 8, 9, 10, 11, 12, 13, 14, 15, 16, 17, 19, 20, 21, 22, 23] st y := ⟨up2 st 0 0 0, hP, hG.up (rz (by decide : mr 0 0 = 0)) (pn (by decide : pcl 0 0 = 0) (by decide))⟩
  refine lv_iconst (v := 0) hx hb dX12_now_5 (by decide) ?_
  refine lv_istore_n (lv' := [(2, .int 0), (0, .ref (ar 0)), (1, .int va)]) hx hb dX12_now_6 rfl hl (by decide) rfl (fun ls hl => ?_)
  refine lv_iload_n hx hb dX12_now_7 rfl (lv_at hl 2 rfl) ?_
  by_cases cw2 : va = 0
  · subst cw2
    refine lv_tableIn (tgt := 56) hx hb dX12_now_8 (by decide) (by decide) rfl (by decide) ?_
    refine lv_aload_n hx hb dX12_now_56 rfl (lv_at hl 1 rfl) ?_
    refine va_get (D := (dC, dI)) (ci := 11) (v := .ref (ar 2)) (C := RX12) (T := TX12) (N := 47) hx hb hts ii_X12_now hown hK hP 0 rfl rfl 14 (by decide) (hts _ mm_X12_now_2) (fun _ hh => hh) rfl dX12_now_57 ?_
    refine lv_bipush (v := 61) hx hb dX12_now_60 (by decide) ?_
    refine va_iald hx hb hK hP 2 1 rfl rfl (i := 61) (zz_in (by decide)) dX12_now_62 ?_
    refine lv_topi (fun z3 ez3 => ?_)
    clear ez3
    exact W.iret (v := z3) hx hb hr (fun t ht hW => ⟨⟨z3, (st1, sl), rfl, ⟨hG, hL, trivial⟩, mB.of ht hP⟩, hS.F ht⟩) hS.2.2 dX12_now_63
  by_cases cw4 : va = 1
  · subst cw4
    refine lv_tableIn (tgt := 64) hx hb dX12_now_8 (by decide) (by decide) rfl (by decide) ?_
    refine lv_aload_n hx hb dX12_now_64 rfl (lv_at hl 1 rfl) ?_
    refine va_calli (va_runV (As := []) (rest := []) ⟨hx, hb, hml, hown, hts⟩ (m_awaySet l dC dI ar cy _ hN st1 sl  hG.1) (cwV 0 hts gX12_now_X12_awaySet rfl rfl rfl (by decide +kernel) ⟨Nat.le_of_ble_eq_true rfl, Nat.le_of_ble_eq_true rfl⟩) ⟨fun a U g mk q => ⟨q.1, mPre.blind q.2⟩, va_recv hK hP (ci := 11) (q0 := 0) rfl rfl, fun U hU hW => ⟨rfl, mPre.of hP hK hU hW⟩⟩ rfl rfl hl.1 rfl (lv_room (Nat.le_of_ble_eq_true rfl)) dX12_now_65 ⟨Nat.le_of_ble_eq_true rfl, Nat.le_of_ble_eq_true rfl⟩) hS (fun q _ h => MA.le hS.1 q h) (MA.le hS.1) (fun r5 x t H locs ht hvm hw hB _ _ hS => ?_)
    have hP := mB.at ht hB
    clear hB ht hvm
    obtain ⟨rfl, hw⟩ := hw
    have hP : va_P (dC, dI) vwCl (mw ar cy st1 sl) _ := hP
    clear hw
    exact W.iret (v := r5) hx hb hr (fun t ht hW => ⟨⟨r5, (st1, sl), rfl, ⟨hG, hL, trivial⟩, mB.of ht hP⟩, hS.F ht⟩) hS.2.2 dX12_now_68
  by_cases cw6 : va = 2
  · subst cw6
    refine lv_tableIn (tgt := 69) hx hb dX12_now_8 (by decide) (by decide) rfl (by decide) ?_
    refine lv_aload_n hx hb dX12_now_69 rfl (lv_at hl 1 rfl) ?_
    refine va_get (D := (dC, dI)) (ci := 11) (v := .ref (ar 2)) (C := RX12) (T := TX12) (N := 47) hx hb hts ii_X12_now hown hK hP 0 rfl rfl 14 (by decide) (hts _ mm_X12_now_2) (fun _ hh => hh) rfl dX12_now_70 ?_
    refine lv_bipush (v := 62) hx hb dX12_now_73 (by decide) ?_
    refine va_iald hx hb hK hP 2 1 rfl rfl (i := 62) (zz_in (by decide)) dX12_now_75 ?_
    obtain ⟨n7, hn7, en7⟩ := hG.1.at (r := 2) (k := 62) (by decide : mr 2 62 = 13) (by decide)
    refine zz_top (v := nI n7) (by exact en7) ?_
    clear en7
    exact W.iret (v := (nI n7)) hx hb hr (fun t ht hW => ⟨⟨(nI n7), (st1, sl), rfl, ⟨hG, hL, trivial⟩, mB.of ht hP⟩, hS.F ht⟩) hS.2.2 dX12_now_76
  by_cases cw8 : va = 3
  · subst cw8
    refine lv_tableIn (tgt := 77) hx hb dX12_now_8 (by decide) (by decide) rfl (by decide) ?_
    refine lv_aload_n hx hb dX12_now_77 rfl (lv_at hl 1 rfl) ?_
    refine va_get (D := (dC, dI)) (ci := 11) (v := .ref (ar 2)) (C := RX12) (T := TX12) (N := 47) hx hb hts ii_X12_now hown hK hP 0 rfl rfl 14 (by decide) (hts _ mm_X12_now_2) (fun _ hh => hh) rfl dX12_now_78 ?_
    refine lv_bipush (v := 63) hx hb dX12_now_81 (by decide) ?_
    refine va_iald hx hb hK hP 2 1 rfl rfl (i := 63) (zz_in (by decide)) dX12_now_83 ?_
    refine lv_topi (fun z9 ez9 => ?_)
    clear ez9
    exact W.iret (v := z9) hx hb hr (fun t ht hW => ⟨⟨z9, (st1, sl), rfl, ⟨hG, hL, trivial⟩, mB.of ht hP⟩, hS.F ht⟩) hS.2.2 dX12_now_84
  by_cases cw10 : va = 4
  · subst cw10
    refine lv_tableIn (tgt := 85) hx hb dX12_now_8 (by decide) (by decide) rfl (by decide) ?_
    refine lv_iconst (v := 0) hx hb dX12_now_85 (by decide) ?_
    refine lv_istore_n (lv' := [(3, .int 0), (2, .int 0), (0, .ref (ar 0)), (1, .int 4)]) hx hb dX12_now_86 rfl hl (by decide) rfl (fun ls hl => ?_)
    refine zz_wf (fun n stk H locs ls => ∃ k11 : Nat, ∃ z12 : Int32, n = 9 - k11 ∧ 0 ≤ k11 ∧ k11 < 9 ∧ va_P (dC, dI) vwCl (mw ar cy st1 sl) H ∧ va_S (MA ar s.heap.size) s.heap H locs ∧ lv_has ls 4 [(3, .int (nI k11)), (2, .int z12), (0, .ref (ar 0)), (1, .int 4)] ∧ stk = []) ?_ (9 - 0) _ _ _ _ ⟨0, 0, rfl, by omega, by omega, hP, hS, lv_sub hl [0, 1, 2, 3] rfl, rfl⟩
    rintro nn stk H locs ls ⟨k11, z12, hm14, hv13_0, hv14_1, hP, hS, hl, rfl⟩ ih15
    refine lv_iload_n hx hb dX12_now_87 rfl (lv_at hl 0 rfl) ?_
    refine lv_bipush (v := 8) hx hb dX12_now_88 (by decide) ?_
    refine lv_icmp_ge (tgt := 111) hx hb dX12_now_90 (by decide) (fun c1 => ?_) (fun c1 => ?_)
    · have c1 : 8 ≤ k11 := (nI_leI (a := 8) (b := k11) (by omega) (by omega)).mp c1
      refine lv_iload_n hx hb dX12_now_111 rfl (lv_at hl 1 rfl) ?_
      exact W.iret (v := z12) hx hb hr (fun t ht hW => ⟨⟨z12, (st1, sl), rfl, ⟨hG, hL, trivial⟩, mB.of ht hP⟩, hS.F ht⟩) hS.2.2 dX12_now_112
    · have c1 : ¬ 8 ≤ k11 := fun hh => c1 ((nI_leI (a := 8) (b := k11) (by omega) (by omega)).mpr hh)
      refine lv_iload_n hx hb dX12_now_93 rfl (lv_at hl 1 rfl) ?_
      refine lv_aload_n hx hb dX12_now_94 rfl (lv_at hl 2 rfl) ?_
      refine va_get (D := (dC, dI)) (ci := 11) (v := .ref (ar 2)) (C := RX12) (T := TX12) (N := 47) hx hb hts ii_X12_now hown hK hP 0 rfl rfl 14 (by decide) (hts _ mm_X12_now_2) (fun _ hh => hh) rfl dX12_now_95 ?_
      refine lv_bipush (v := 111) hx hb dX12_now_98 (by decide) ?_
      refine lv_iload_n hx hb dX12_now_100 rfl (lv_at hl 0 rfl) ?_
      refine lv_iadd hx hb dX12_now_101 ?_
      refine zz_top (v := nI (111 + k11)) (nI_add 111 k11) ?_
      refine va_iald hx hb hK hP 2 1 rfl rfl (i := (nI (111 + k11))) (vp_in_nI (by omega) (by decide)) dX12_now_102 ?_
      refine lv_topi (fun z16 ez16 => ?_)
      clear ez16
      refine lv_iadd hx hb dX12_now_103 ?_
      refine lv_topi (fun z17 ez17 => ?_)
      clear ez17
      refine lv_istore_n (lv' := [(2, .int z17), (3, .int (nI k11)), (0, .ref (ar 0)), (1, .int 4)]) hx hb dX12_now_104 rfl hl (by decide) rfl (fun ls hl => ?_)
      refine lv_iinc (v := (nI (k11 + 1))) (lv' := [(3, .int (nI (k11 + 1))), (2, .int z17), (0, .ref (ar 0)), (1, .int 4)]) hx hb dX12_now_105 hl (k := 1) rfl (nI_add k11 1) (by decide) rfl (fun ls hl => ?_)
      refine lv_goto (tgt := 87) hx hb dX12_now_108 (by decide) ?_
      exact ih15 (9 - (k11 + 1)) _ _ _ _ (by omega) ⟨(k11 + 1), z17, rfl, by omega, by omega, hP, hS, lv_sub hl [0, 1, 2, 3] rfl, rfl⟩
  by_cases cw18 : va = 5
  · subst cw18
    refine lv_tableIn (tgt := 113) hx hb dX12_now_8 (by decide) (by decide) rfl (by decide) ?_
    refine lv_aload_n hx hb dX12_now_113 rfl (lv_at hl 1 rfl) ?_
    refine lv_iconst (v := 1) hx hb dX12_now_114 (by decide) ?_
    refine va_calli (va_runV (As := [.int 1]) (rest := []) ⟨hx, hb, hml, hown, hts⟩ (m_goodAll l dC dI ar cy _ hN st1 sl 1  hG.1) (cwV 1 hts gX12_now_X12_goodAll rfl rfl rfl (by decide +kernel) ⟨Nat.le_of_ble_eq_true rfl, Nat.le_of_ble_eq_true rfl⟩) ⟨fun a U g mk q => ⟨q.1, mPre.blind q.2⟩, va_recv hK hP (ci := 11) (q0 := 0) rfl rfl, fun U hU hW => ⟨rfl, mPre.of hP hK hU hW⟩⟩ rfl rfl hl.1 rfl (lv_room (Nat.le_of_ble_eq_true rfl)) dX12_now_115 ⟨Nat.le_of_ble_eq_true rfl, Nat.le_of_ble_eq_true rfl⟩) hS (fun q _ h => MA.le hS.1 q h) (MA.le hS.1) (fun r19 x t H locs ht hvm hw hB _ _ hS => ?_)
    have hP := mB.at ht hB
    clear hB ht hvm
    obtain ⟨rfl, hw⟩ := hw
    have hP : va_P (dC, dI) vwCl (mw ar cy st1 sl) _ := hP
    clear hw
    exact W.iret (v := r19) hx hb hr (fun t ht hW => ⟨⟨r19, (st1, sl), rfl, ⟨hG, hL, trivial⟩, mB.of ht hP⟩, hS.F ht⟩) hS.2.2 dX12_now_118
  by_cases cw20 : va = 6
  · subst cw20
    refine lv_tableIn (tgt := 119) hx hb dX12_now_8 (by decide) (by decide) rfl (by decide) ?_
    refine lv_aload_n hx hb dX12_now_119 rfl (lv_at hl 1 rfl) ?_
    refine lv_iconst (v := 0) hx hb dX12_now_120 (by decide) ?_
    refine va_calli (va_runV (As := [.int 0]) (rest := []) ⟨hx, hb, hml, hown, hts⟩ (m_goodAll l dC dI ar cy _ hN st1 sl 0  hG.1) (cwV 1 hts gX12_now_X12_goodAll rfl rfl rfl (by decide +kernel) ⟨Nat.le_of_ble_eq_true rfl, Nat.le_of_ble_eq_true rfl⟩) ⟨fun a U g mk q => ⟨q.1, mPre.blind q.2⟩, va_recv hK hP (ci := 11) (q0 := 0) rfl rfl, fun U hU hW => ⟨rfl, mPre.of hP hK hU hW⟩⟩ rfl rfl hl.1 rfl (lv_room (Nat.le_of_ble_eq_true rfl)) dX12_now_121 ⟨Nat.le_of_ble_eq_true rfl, Nat.le_of_ble_eq_true rfl⟩) hS (fun q _ h => MA.le hS.1 q h) (MA.le hS.1) (fun r21 x t H locs ht hvm hw hB _ _ hS => ?_)
    have hP := mB.at ht hB
    clear hB ht hvm
    obtain ⟨rfl, hw⟩ := hw
    have hP : va_P (dC, dI) vwCl (mw ar cy st1 sl) _ := hP
    clear hw
    exact W.iret (v := r21) hx hb hr (fun t ht hW => ⟨⟨r21, (st1, sl), rfl, ⟨hG, hL, trivial⟩, mB.of ht hP⟩, hS.F ht⟩) hS.2.2 dX12_now_124
  by_cases cw22 : va = 7
  · subst cw22
    refine lv_tableIn (tgt := 125) hx hb dX12_now_8 (by decide) (by decide) rfl (by decide) ?_
    refine lv_aload_n hx hb dX12_now_125 rfl (lv_at hl 1 rfl) ?_
    refine va_get (D := (dC, dI)) (ci := 11) (v := .ref (ar 2)) (C := RX12) (T := TX12) (N := 47) hx hb hts ii_X12_now hown hK hP 0 rfl rfl 14 (by decide) (hts _ mm_X12_now_2) (fun _ hh => hh) rfl dX12_now_126 ?_
    refine lv_bipush (v := 64) hx hb dX12_now_129 (by decide) ?_
    refine va_iald hx hb hK hP 2 1 rfl rfl (i := 64) (zz_in (by decide)) dX12_now_131 ?_
    refine lv_topi (fun z23 ez23 => ?_)
    clear ez23
    exact W.iret (v := z23) hx hb hr (fun t ht hW => ⟨⟨z23, (st1, sl), rfl, ⟨hG, hL, trivial⟩, mB.of ht hP⟩, hS.F ht⟩) hS.2.2 dX12_now_132
  refine lv_tableOut (tgt := 133) hx hb dX12_now_8 (by clear hP hK hS hG hx hb hr hts hown; simp only [Int32.lt_iff_toInt_lt, ← Int32.toInt_inj, Int32.reduceToInt] at cw2 cw4 cw6 cw8 cw10 cw18 cw20 cw22 ⊢; omega) (by decide) ?_
  refine lv_iconst (v := (-1)) hx hb dX12_now_133 (by decide) ?_
  exact W.iret (v := (-1)) hx hb hr (fun t ht hW => ⟨⟨(-1), (st1, sl), rfl, ⟨hG, hL, trivial⟩, mB.of ht hP⟩, hS.F ht⟩) hS.2.2 dX12_now_134
set_option maxHeartbeats 4000000 in
set_option maxRecDepth 100000 in
theorem m_fault (l : Launch) (dC : Nat → ClassId) (dI : Nat → Nat → Nat) (ar : Nat → Nat) (cy : Nat → ClassId) (sz : Nat) (hN : MN ar) (st : Nat → Nat → Int32) (sl : Nat → Nat → Int64) (hI : MI st) : Met l yX12_fault wsX12_fault ({ frames := 0, cells := 0, slots := 0, locals := 0 }) (va_Pc [.ref (ar 0)] (mPre dC dI ar cy sz st sl)) (va_Qi (fun (r : Int32) (x : MT) => MG [1, 2, 3, 4, 5, 6, 7, 8, 9, 10, 11, 12, 13, 14, 15, 16, 17, 19, 20, 21, 22, 23] st x.1 ∧ LQ [7, 9] sl x.2 ∧ (r = st 0 10)) (mB dC dI ar cy) (MA ar sz)) 0 0 (MA ar sz) := by
  refine Met.ofW (cc := cX12_fault) (maxL := 1) (ret := (some .int)) (by decide) rfl ?_
  intro p e s m args below meth c s₁ B hml hv
  obtain ⟨rfl, hsz, hP, hK⟩ := hv
  have hx := B.exec
  have hb := B.bytes
  have hr := B.returns
  have hts := atoms_spec (ws := wsX12_fault) B.pre
  have hown : s.vm.findClass RX12 = some m.cls := findClass_of_methodNamed B.named
  subst hsz
  have hS : va_S (MA ar s.heap.size) s.heap s.heap [] := va_S.rf
  have hG : MG [1, 2, 3, 4, 5, 6, 7, 8, 9, 10, 11, 12, 13, 14, 15, 16, 17, 19, 20, 21, 22, 23] st st := MG.rf hI
  have hl := lv_entry ([.ref (ar 0)]) (n := 1) (Nat.le_of_ble_eq_true rfl)
  rw [lg_entry_eq]
  generalize (lg_sl ([.ref (ar 0)]) ++ List.replicate (1 - (lg_sl ([.ref (ar 0)])).length) Slot.unset).toArray = ls at hl ⊢
  have hl : lv_has ls 1 [(0, .ref (ar 0))] := hl
  clear hI
  have hL : LQ [7, 9] sl sl := LQ.rf
  refine lv_aload_n hx hb dX12_fault_0 rfl (lv_at hl 0 rfl) ?_
  refine lv_iconst (v := 0) hx hb dX12_fault_1 (by decide) ?_
  refine va_put (D := (dC, dI)) (ci := 11) (v := .int 0) (ty := .int) (C := RX12) (T := TX12) (N := 47) hx hb hts ii_X12_fault tyX12 tyX12_ok nmX12 hown hK hP (mD hN _ _ _ _) hS 0 rfl rfl 0 (by decide) (hts _ mm_X12_fault_1) (fun _ hh => hh) rfl (by decide +kernel) rfl rfl (Nat.le_of_ble_eq_true rfl) dX12_fault_2 (fun H locs hP _ hS => ?_)
  have hP : va_P (dC, dI) vwCl (mw ar cy (up2 st 0 0 0) sl) H := hP
  obtain ⟨st1, est1⟩ : ∃ y, y = up2 st 0 0 0 := ⟨_, rfl⟩
  have hG : MG [1, 2, 3, 4, 5, 6, 7, 8, 9, 10, 11, 12, 13, 14, 15, 16, 17, 19, 20, 21, 22, 23] st st1 := by rw [est1]; exact hG.up (rz (by decide : mr 0 0 = 0)) (pn (by decide : pcl 0 0 = 0) (by decide))
  rw [← est1] at hP
  refine lv_aload_n hx hb dX12_fault_5 rfl (lv_at hl 0 rfl) ?_
  refine va_get (D := (dC, dI)) (ci := 11) (v := .int (st1 0 10)) (C := RX12) (T := TX12) (N := 47) hx hb hts ii_X12_fault hown hK hP 0 rfl rfl 10 (by decide) (hts _ mm_X12_fault_2) (fun _ hh => hh) rfl dX12_fault_6 ?_
  refine lv_topi (fun z2 ez2 => ?_)
  exact W.iret (v := z2) hx hb hr (fun t ht hW => ⟨⟨z2, (st1, sl), rfl, ⟨hG, hL, by rw [ez2, est1, up2_ne (r := 0) (k := 0) (a := 0) (j := 10) _ _ (by omega)]⟩, mB.of ht hP⟩, hS.F ht⟩) hS.2.2 dX12_fault_9
set_option maxHeartbeats 4000000 in
set_option maxRecDepth 100000 in
theorem m_there (l : Launch) (dC : Nat → ClassId) (dI : Nat → Nat → Nat) (ar : Nat → Nat) (cy : Nat → ClassId) (sz : Nat) (hN : MN ar) (st : Nat → Nat → Int32) (sl : Nat → Nat → Int64) (va : Int32) (vb : Int32) (hI : MI st) : Met l yX12_there wsX12_there ({ frames := 3, cells := 0, slots := 0, locals := 65 }) (va_Pc [.ref (ar 0), .int va, .int vb] (mPre dC dI ar cy sz st sl)) (va_Qi (fun (r : Int32) (x : MT) => MG [1, 2, 3, 4, 5, 6, 7, 8, 9, 10, 11, 12, 13, 14, 15, 16, 17, 19, 20, 21, 22, 23] st x.1 ∧ LQ [7, 9] sl x.2 ∧ (True)) (mB dC dI ar cy) (MA ar sz)) 0 0 (MA ar sz) := by
  refine Met.ofW (cc := cX12_there) (maxL := 5) (ret := (some .int)) (by decide) rfl ?_
  intro p e s m args below meth c s₁ B hml hv
  obtain ⟨rfl, hsz, hP, hK⟩ := hv
  have hx := B.exec
  have hb := B.bytes
  have hr := B.returns
  have hts := atoms_spec (ws := wsX12_there) B.pre
  have hown : s.vm.findClass RX12 = some m.cls := findClass_of_methodNamed B.named
  subst hsz
  have hS : va_S (MA ar s.heap.size) s.heap s.heap [] := va_S.rf
  have hG : MG [1, 2, 3, 4, 5, 6, 7, 8, 9, 10, 11, 12, 13, 14, 15, 16, 17, 19, 20, 21, 22, 23] st st := MG.rf hI
  have hl := lv_entry ([.ref (ar 0), .int va, .int vb]) (n := 5) (Nat.le_of_ble_eq_true rfl)
  rw [lg_entry_eq]
  generalize (lg_sl ([.ref (ar 0), .int va, .int vb]) ++ List.replicate (5 - (lg_sl ([.ref (ar 0), .int va, .int vb])).length) Slot.unset).toArray = ls at hl ⊢
  have hl : lv_has ls 5 [(0, .ref (ar 0)), (1, .int va), (2, .int vb)] := hl
  clear hI
  have hL : LQ [7, 9] sl sl := LQ.rf
  refine lv_aload_n hx hb dX12_there_0 rfl (lv_at hl 0 rfl) ?_
  refine lv_iconst (v := 0) hx hb dX12_there_1 (by decide) ?_
  refine va_put (D := (dC, dI)) (ci := 11) (v := .int 0) (ty := .int) (C := RX12) (T := TX12) (N := 47) hx hb hts ii_X12_there tyX12 tyX12_ok nmX12 hown hK hP (mD hN _ _ _ _) hS 0 rfl rfl 0 (by decide) (hts _ mm_X12_there_1) (fun _ hh => hh) rfl (by decide +kernel) rfl rfl (Nat.le_of_ble_eq_true rfl) dX12_there_2 (fun H locs hP _ hS => ?_)
  have hP : va_P (dC, dI) vwCl (mw ar cy (up2 st 0 0 0) sl) H := hP
  obtain ⟨st1, hP, hG⟩ : ∃ y, va_P (dC, dI) vwCl (mw ar cy y sl) H ∧ MG [1, 2, 3, 4, 5, 6, 7, 8, 9, 10, 11, 12, 13, 14, 15, 16, 17, 19, 20, 21, 22, 23] st y := ⟨up2 st 0 0 0, hP, hG.up (rz (by decide : mr 0 0 = 0)) (pn (by decide : pcl 0 0 = 0) (by decide))⟩
  refine lv_aload_n hx hb dX12_there_5 rfl (lv_at hl 0 rfl) ?_
  refine lv_iload_n hx hb dX12_there_6 rfl (lv_at hl 1 rfl) ?_
  refine va_calli (va_runV (As := [.int va]) (rest := []) ⟨hx, hb, hml, hown, hts⟩ (m_isPlace l dC dI ar cy _ hN st1 sl va  hG.1) (cwV 1 hts gX12_there_X12_isPlace rfl rfl rfl (by decide +kernel) ⟨Nat.le_of_ble_eq_true rfl, Nat.le_of_ble_eq_true rfl⟩) ⟨fun a U g mk q => ⟨q.1, mPre.blind q.2⟩, va_recv hK hP (ci := 11) (q0 := 0) rfl rfl, fun U hU hW => ⟨rfl, mPre.of hP hK hU hW⟩⟩ rfl rfl hl.1 rfl (lv_room (Nat.le_of_ble_eq_true rfl)) dX12_there_7 ⟨Nat.le_of_ble_eq_true rfl, Nat.le_of_ble_eq_true rfl⟩) hS (fun q _ h => MA.le hS.1 q h) (MA.le hS.1) (fun r2 x t H locs ht hvm hw hB _ _ hS => ?_)
  have hP := mB.at ht hB
  clear hB ht hvm
  obtain ⟨rfl, hw⟩ := hw
  have hP : va_P (dC, dI) vwCl (mw ar cy st1 sl) _ := hP
  rcases hw with ⟨n3, rfl, hf4, rfl⟩ | rfl
  · refine lv_if_eq (tgt := 23) hx hb dX12_there_10 (by decide) (fun cc => absurd cc (by decide)) (fun _ => ?_)
    refine lv_iload_n hx hb dX12_there_13 rfl (lv_at hl 2 rfl) ?_
    refine lv_iconst (v := 0) hx hb dX12_there_14 (by decide) ?_
    refine lv_bipush (v := 23) hx hb dX12_there_15 (by decide) ?_
    refine va_calli (va_runS (As := [.int vb, .int 0, .int 23]) (rest := []) ⟨hx, hb, hml, hown, hts⟩ (m_isIn l dC dI ar cy _ hN st1 sl vb 0 23  hG.1) (va_cwS 3 hts gX12_there_X12_isIn rfl rfl rfl (by decide +kernel) ⟨Nat.le_of_ble_eq_true rfl, Nat.le_of_ble_eq_true rfl⟩) ⟨fun a U g mk q => ⟨q.1, mPre.blind q.2⟩, fun U hU hW => ⟨rfl, mPre.of hP hK hU hW⟩⟩ rfl rfl hl.1 rfl (lv_room (Nat.le_of_ble_eq_true rfl)) dX12_there_17 ⟨Nat.le_of_ble_eq_true rfl, Nat.le_of_ble_eq_true rfl⟩) hS (fun q _ h => MA.le hS.1 q h) (MA.le hS.1) (fun r5 x t H locs ht hvm hw hB _ _ hS => ?_)
    have hP := mB.at ht hB
    clear hB ht hvm
    obtain ⟨rfl, hw⟩ := hw
    have hP : va_P (dC, dI) vwCl (mw ar cy st1 sl) _ := hP
    rcases hw with ⟨rfl, hf6, hf7⟩ | rfl
    · obtain ⟨n8, hn8a, hn8b, rfl⟩ := zz_rng (a := 0) (b := 23) (by omega) hf6 (by omega) hf7
      refine lv_if_ne (tgt := 25) hx hb dX12_there_20 (by decide) (fun _ => ?_) (fun cc => absurd cc (by decide))
      refine lv_iconst (v := 0) hx hb dX12_there_25 (by decide) ?_
      refine lv_istore_n (lv' := [(3, .int 0), (0, .ref (ar 0)), (1, .int (nI n3)), (2, .int (nI n8))]) hx hb dX12_there_26 rfl hl (by decide) rfl (fun ls hl => ?_)
      refine lv_iconst (v := 0) hx hb dX12_there_27 (by decide) ?_
      refine lv_istore (lv' := [(4, .int 0), (3, .int 0), (0, .ref (ar 0)), (1, .int (nI n3)), (2, .int (nI n8))]) hx hb dX12_there_28 hl (by decide) rfl (fun ls hl => ?_)
      refine zz_wf (fun n stk H locs ls => ∃ k9 : Nat, ∃ z10 : Int32, n = 9 - k9 ∧ 0 ≤ k9 ∧ k9 < 9 ∧ va_P (dC, dI) vwCl (mw ar cy st1 sl) H ∧ va_S (MA ar s.heap.size) s.heap H locs ∧ lv_has ls 5 [(4, .int (nI k9)), (3, .int z10), (0, .ref (ar 0)), (1, .int (nI n3)), (2, .int (nI n8))] ∧ stk = []) ?_ (9 - 0) _ _ _ _ ⟨0, 0, rfl, by omega, by omega, hP, hS, lv_sub hl [0, 1, 2, 3, 4] rfl, rfl⟩
      rintro nn stk H locs ls ⟨k9, z10, hm12, hv11_0, hv12_1, hP, hS, hl, rfl⟩ ih13
      refine lv_iload hx hb dX12_there_30 (lv_at hl 0 rfl) ?_
      refine lv_aload_n hx hb dX12_there_32 rfl (lv_at hl 2 rfl) ?_
      refine va_get (D := (dC, dI)) (ci := 11) (v := .ref (ar 2)) (C := RX12) (T := TX12) (N := 47) hx hb hts ii_X12_there hown hK hP 0 rfl rfl 14 (by decide) (hts _ mm_X12_there_2) (fun _ hh => hh) rfl dX12_there_33 ?_
      refine lv_iconst (v := 1) hx hb dX12_there_36 (by decide) ?_
      refine va_iald hx hb hK hP 2 1 rfl rfl (i := 1) (zz_in (by decide)) dX12_there_37 ?_
      obtain ⟨n14, hn14, en14⟩ := hG.1.at (r := 2) (k := 1) (by decide : mr 2 1 = 9) (by decide)
      refine zz_top (v := nI n14) (by exact en14) ?_
      clear en14
      refine lv_icmp_ge (tgt := 74) hx hb dX12_there_38 (by decide) (fun c3 => ?_) (fun c3 => ?_)
      · have c3 : n14 ≤ k9 := (nI_leI (a := n14) (b := k9) (by omega) (by omega)).mp c3
        refine lv_iload_n hx hb dX12_there_74 rfl (lv_at hl 1 rfl) ?_
        exact W.iret (v := z10) hx hb hr (fun t ht hW => ⟨⟨z10, (st1, sl), rfl, ⟨hG, hL, trivial⟩, mB.of ht hP⟩, hS.F ht⟩) hS.2.2 dX12_there_75
      · have c3 : ¬ n14 ≤ k9 := fun hh => c3 ((nI_leI (a := n14) (b := k9) (by omega) (by omega)).mpr hh)
        refine lv_aload_n hx hb dX12_there_41 rfl (lv_at hl 2 rfl) ?_
        refine lv_iload hx hb dX12_there_42 (lv_at hl 0 rfl) ?_
        refine va_calli (va_runV (As := [.int (nI k9)]) (rest := []) ⟨hx, hb, hml, hown, hts⟩ (m_isAway l dC dI ar cy _ hN st1 sl k9 (by omega) hG.1) (cwV 1 hts gX12_there_X12_isAway rfl rfl rfl (by decide +kernel) ⟨Nat.le_of_ble_eq_true rfl, Nat.le_of_ble_eq_true rfl⟩) ⟨fun a U g mk q => ⟨q.1, mPre.blind q.2⟩, va_recv hK hP (ci := 11) (q0 := 0) rfl rfl, fun U hU hW => ⟨rfl, mPre.of hP hK hU hW⟩⟩ rfl rfl hl.1 rfl (lv_room (Nat.le_of_ble_eq_true rfl)) dX12_there_44 ⟨Nat.le_of_ble_eq_true rfl, Nat.le_of_ble_eq_true rfl⟩) hS (fun q _ h => MA.le hS.1 q h) (MA.le hS.1) (fun r15 x t H locs ht hvm hw hB _ _ hS => ?_)
        have hP := mB.at ht hB
        clear hB ht hvm
        obtain ⟨rfl, hw⟩ := hw
        have hP : va_P (dC, dI) vwCl (mw ar cy st1 sl) _ := hP
        rcases hw with rfl | rfl
        · refine lv_if_ne (tgt := 68) hx hb dX12_there_47 (by decide) (fun _ => ?_) (fun cc => absurd cc (by decide))
          refine lv_iinc (v := (nI (k9 + 1))) (lv' := [(4, .int (nI (k9 + 1))), (3, .int z10), (0, .ref (ar 0)), (1, .int (nI n3)), (2, .int (nI n8))]) hx hb dX12_there_68 hl (k := 0) rfl (nI_add k9 1) (by decide) rfl (fun ls hl => ?_)
          refine lv_goto (tgt := 30) hx hb dX12_there_71 (by decide) ?_
          exact ih13 (9 - (k9 + 1)) _ _ _ _ (by omega) ⟨(k9 + 1), z10, rfl, by omega, by omega, hP, hS, lv_sub hl [0, 1, 2, 3, 4] rfl, rfl⟩
        · refine lv_if_ne (tgt := 68) hx hb dX12_there_47 (by decide) (fun cc => absurd (by decide) cc) (fun _ => ?_)
          refine lv_aload_n hx hb dX12_there_50 rfl (lv_at hl 2 rfl) ?_
          refine lv_iload hx hb dX12_there_51 (lv_at hl 0 rfl) ?_
          refine lv_iload_n hx hb dX12_there_53 rfl (lv_at hl 3 rfl) ?_
          refine lv_iload_n hx hb dX12_there_54 rfl (lv_at hl 4 rfl) ?_
          refine va_calli (va_runV (As := [.int (nI k9), .int (nI n3), .int (nI n8)]) (rest := []) ⟨hx, hb, hml, hown, hts⟩ (m_comesIn l dC dI ar cy _ hN st1 sl k9 (nI n3) (nI n8) (by omega) hG.1) (cwV 3 hts gX12_there_X12_comesIn rfl rfl rfl (by decide +kernel) ⟨Nat.le_of_ble_eq_true rfl, Nat.le_of_ble_eq_true rfl⟩) ⟨fun a U g mk q => ⟨q.1, mPre.blind q.2⟩, va_recv hK hP (ci := 11) (q0 := 0) rfl rfl, fun U hU hW => ⟨rfl, mPre.of hP hK hU hW⟩⟩ rfl rfl hl.1 rfl (lv_room (Nat.le_of_ble_eq_true rfl)) dX12_there_55 ⟨Nat.le_of_ble_eq_true rfl, Nat.le_of_ble_eq_true rfl⟩) hS (fun q _ h => MA.le hS.1 q h) (MA.le hS.1) (fun r16 x t H locs ht hvm hw hB _ _ hS => ?_)
          have hP := mB.at ht hB
          clear hB ht hvm
          obtain ⟨rfl, hw⟩ := hw
          have hP : va_P (dC, dI) vwCl (mw ar cy st1 sl) _ := hP
          rcases hw with rfl | rfl
          · refine lv_if_eq (tgt := 68) hx hb dX12_there_58 (by decide) (fun cc => absurd cc (by decide)) (fun _ => ?_)
            refine lv_iload_n hx hb dX12_there_61 rfl (lv_at hl 1 rfl) ?_
            refine lv_iconst (v := 1) hx hb dX12_there_62 (by decide) ?_
            refine lv_iload hx hb dX12_there_63 (lv_at hl 0 rfl) ?_
            refine lv_ishl hx hb dX12_there_65 ?_
            refine lv_topi (fun z17 ez17 => ?_)
            clear ez17
            refine lv_ior hx hb dX12_there_66 ?_
            refine lv_topi (fun z18 ez18 => ?_)
            clear ez18
            refine lv_istore_n (lv' := [(3, .int z18), (4, .int (nI k9)), (0, .ref (ar 0)), (1, .int (nI n3)), (2, .int (nI n8))]) hx hb dX12_there_67 rfl hl (by decide) rfl (fun ls hl => ?_)
            refine lv_iinc (v := (nI (k9 + 1))) (lv' := [(4, .int (nI (k9 + 1))), (3, .int z18), (0, .ref (ar 0)), (1, .int (nI n3)), (2, .int (nI n8))]) hx hb dX12_there_68 hl (k := 1) rfl (nI_add k9 1) (by decide) rfl (fun ls hl => ?_)
            refine lv_goto (tgt := 30) hx hb dX12_there_71 (by decide) ?_
            exact ih13 (9 - (k9 + 1)) _ _ _ _ (by omega) ⟨(k9 + 1), z18, rfl, by omega, by omega, hP, hS, lv_sub hl [0, 1, 2, 3, 4] rfl, rfl⟩
          · refine lv_if_eq (tgt := 68) hx hb dX12_there_58 (by decide) (fun _ => ?_) (fun cc => absurd (by decide) cc)
            refine lv_iinc (v := (nI (k9 + 1))) (lv' := [(4, .int (nI (k9 + 1))), (3, .int z10), (0, .ref (ar 0)), (1, .int (nI n3)), (2, .int (nI n8))]) hx hb dX12_there_68 hl (k := 0) rfl (nI_add k9 1) (by decide) rfl (fun ls hl => ?_)
            refine lv_goto (tgt := 30) hx hb dX12_there_71 (by decide) ?_
            exact ih13 (9 - (k9 + 1)) _ _ _ _ (by omega) ⟨(k9 + 1), z10, rfl, by omega, by omega, hP, hS, lv_sub hl [0, 1, 2, 3, 4] rfl, rfl⟩
    · refine lv_if_ne (tgt := 25) hx hb dX12_there_20 (by decide) (fun cc => absurd (by decide) cc) (fun _ => ?_)
      refine lv_iconst (v := (-1)) hx hb dX12_there_23 (by decide) ?_
      exact W.iret (v := (-1)) hx hb hr (fun t ht hW => ⟨⟨(-1), (st1, sl), rfl, ⟨hG, hL, trivial⟩, mB.of ht hP⟩, hS.F ht⟩) hS.2.2 dX12_there_24
  · refine lv_if_eq (tgt := 23) hx hb dX12_there_10 (by decide) (fun _ => ?_) (fun cc => absurd (by decide) cc)
    refine lv_iconst (v := (-1)) hx hb dX12_there_23 (by decide) ?_
    exact W.iret (v := (-1)) hx hb hr (fun t ht hW => ⟨⟨(-1), (st1, sl), rfl, ⟨hG, hL, trivial⟩, mB.of ht hP⟩, hS.F ht⟩) hS.2.2 dX12_there_24
set_option maxHeartbeats 4000000 in
set_option maxRecDepth 100000 in
theorem m_meetsIn (l : Launch) (dC : Nat → ClassId) (dI : Nat → Nat → Nat) (ar : Nat → Nat) (cy : Nat → ClassId) (sz : Nat) (hN : MN ar) (st : Nat → Nat → Int32) (sl : Nat → Nat → Int64) (vp : Nat) (vq : Nat) (hvp : vp < 8) (hvq : vq < 8) (hI : MI st) : Met l yX12_meetsIn wsX12_meetsIn ({ frames := 2, cells := 0, slots := 0, locals := 42 }) (va_Pc [.ref (ar 0), .int (nI vp), .int (nI vq)] (mPre dC dI ar cy sz st sl)) (va_Qi (fun (r : Int32) (x : MT) => x = (st, sl) ∧ (True)) (mB dC dI ar cy) (MA ar sz)) 0 0 (MA ar sz) := by
  refine Met.ofW (cc := cX12_meetsIn) (maxL := 3) (ret := (some .int)) (by decide) rfl ?_
  intro p e s m args below meth c s₁ B hml hv
  obtain ⟨rfl, hsz, hP, hK⟩ := hv
  have hx := B.exec
  have hb := B.bytes
  have hr := B.returns
  have hts := atoms_spec (ws := wsX12_meetsIn) B.pre
  have hown : s.vm.findClass RX12 = some m.cls := findClass_of_methodNamed B.named
  subst hsz
  have hS : va_S (MA ar s.heap.size) s.heap s.heap [] := va_S.rf
  have hG : MG [1, 2, 3, 4, 5, 6, 7, 8, 9, 10, 11, 12, 13, 14, 15, 16, 17, 19, 20, 21, 22, 23] st st := MG.rf hI
  have hl := lv_entry ([.ref (ar 0), .int (nI vp), .int (nI vq)]) (n := 3) (Nat.le_of_ble_eq_true rfl)
  rw [lg_entry_eq]
  generalize (lg_sl ([.ref (ar 0), .int (nI vp), .int (nI vq)]) ++ List.replicate (3 - (lg_sl ([.ref (ar 0), .int (nI vp), .int (nI vq)])).length) Slot.unset).toArray = ls at hl ⊢
  have hl : lv_has ls 3 [(0, .ref (ar 0)), (1, .int (nI vp)), (2, .int (nI vq))] := hl
  clear hI
  refine lv_aload_n hx hb dX12_meetsIn_0 rfl (lv_at hl 0 rfl) ?_
  refine va_get (D := (dC, dI)) (ci := 11) (v := .ref (ar 2)) (C := RX12) (T := TX12) (N := 47) hx hb hts ii_X12_meetsIn hown hK hP 0 rfl rfl 14 (by decide) (hts _ mm_X12_meetsIn_1) (fun _ hh => hh) rfl dX12_meetsIn_1 ?_
  refine lv_bipush (v := 71) hx hb dX12_meetsIn_4 (by decide) ?_
  refine lv_iload_n hx hb dX12_meetsIn_6 rfl (lv_at hl 1 rfl) ?_
  refine lv_iadd hx hb dX12_meetsIn_7 ?_
  refine zz_top (v := nI (71 + vp)) (nI_add 71 vp) ?_
  refine va_iald hx hb hK hP 2 1 rfl rfl (i := (nI (71 + vp))) (vp_in_nI (by omega) (by decide)) dX12_meetsIn_8 ?_
  obtain ⟨n1, hn1, en1⟩ := hG.1.at (r := 2) (k := (71 + vp)) (mr_2_71_79 (71 + vp) (by omega) (by omega)) (by decide)
  refine zz_top (v := nI n1) (by rw [nI_clamp (by omega)]; exact en1) ?_
  clear en1
  refine lv_aload_n hx hb dX12_meetsIn_9 rfl (lv_at hl 0 rfl) ?_
  refine va_get (D := (dC, dI)) (ci := 11) (v := .ref (ar 2)) (C := RX12) (T := TX12) (N := 47) hx hb hts ii_X12_meetsIn hown hK hP 0 rfl rfl 14 (by decide) (hts _ mm_X12_meetsIn_1) (fun _ hh => hh) rfl dX12_meetsIn_10 ?_
  refine lv_bipush (v := 71) hx hb dX12_meetsIn_13 (by decide) ?_
  refine lv_iload_n hx hb dX12_meetsIn_15 rfl (lv_at hl 2 rfl) ?_
  refine lv_iadd hx hb dX12_meetsIn_16 ?_
  refine zz_top (v := nI (71 + vq)) (nI_add 71 vq) ?_
  refine va_iald hx hb hK hP 2 1 rfl rfl (i := (nI (71 + vq))) (vp_in_nI (by omega) (by decide)) dX12_meetsIn_17 ?_
  obtain ⟨n2, hn2, en2⟩ := hG.1.at (r := 2) (k := (71 + vq)) (mr_2_71_79 (71 + vq) (by omega) (by omega)) (by decide)
  refine zz_top (v := nI n2) (by rw [nI_clamp (by omega)]; exact en2) ?_
  clear en2
  refine lv_icmp_ne (tgt := 35) hx hb dX12_meetsIn_18 (by decide) (fun c1 => ?_) (fun c1 => ?_)
  · have c1 : ¬ n1 = n2 := fun hh => c1 ((nI_eq (a := n1) (b := n2) (by omega) (by omega)).mpr hh)
    refine lv_iconst (v := 0) hx hb dX12_meetsIn_35 (by decide) ?_
    exact W.iret (v := 0) hx hb hr (fun t ht hW => ⟨⟨0, (st, sl), rfl, ⟨rfl, trivial⟩, mB.of ht hP⟩, hS.F ht⟩) hS.2.2 dX12_meetsIn_36
  · have c1 : n1 = n2 := (nI_eq (a := n1) (b := n2) (by omega) (by omega)).mp c1
    refine lv_aload_n hx hb dX12_meetsIn_21 rfl (lv_at hl 0 rfl) ?_
    refine lv_iload_n hx hb dX12_meetsIn_22 rfl (lv_at hl 1 rfl) ?_
    refine va_calli (va_runV (As := [.int (nI vp)]) (rest := []) ⟨hx, hb, hml, hown, hts⟩ (m_hoursOf l dC dI ar cy _ hN st sl vp (by omega) hG.1) (cwV 1 hts gX12_meetsIn_X12_hoursOf rfl rfl rfl (by decide +kernel) ⟨Nat.le_of_ble_eq_true rfl, Nat.le_of_ble_eq_true rfl⟩) ⟨fun a U g mk q => ⟨q.1, mPre.blind q.2⟩, va_recv hK hP (ci := 11) (q0 := 0) rfl rfl, fun U hU hW => ⟨rfl, mPre.of hP hK hU hW⟩⟩ rfl rfl hl.1 rfl (lv_room (Nat.le_of_ble_eq_true rfl)) dX12_meetsIn_23 ⟨Nat.le_of_ble_eq_true rfl, Nat.le_of_ble_eq_true rfl⟩) hS (fun q _ h => MA.le hS.1 q h) (MA.le hS.1) (fun r3 x t H locs ht hvm hw hB _ _ hS => ?_)
    have hP := mB.at ht hB
    clear hB ht hvm
    obtain ⟨rfl, hw⟩ := hw
    have hP : va_P (dC, dI) vwCl (mw ar cy st sl) _ := hP
    clear hw
    refine lv_aload_n hx hb dX12_meetsIn_26 rfl (lv_at hl 0 rfl) ?_
    refine lv_iload_n hx hb dX12_meetsIn_27 rfl (lv_at hl 2 rfl) ?_
    refine va_calli (va_runV (As := [.int (nI vq)]) (rest := [.int r3]) ⟨hx, hb, hml, hown, hts⟩ (m_hoursOf l dC dI ar cy _ hN st sl vq (by omega) hG.1) (cwV 1 hts gX12_meetsIn_X12_hoursOf rfl rfl rfl (by decide +kernel) ⟨Nat.le_of_ble_eq_true rfl, Nat.le_of_ble_eq_true rfl⟩) ⟨fun a U g mk q => ⟨q.1, mPre.blind q.2⟩, va_recv hK hP (ci := 11) (q0 := 0) rfl rfl, fun U hU hW => ⟨rfl, mPre.of hP hK hU hW⟩⟩ rfl rfl hl.1 rfl (lv_room (Nat.le_of_ble_eq_true rfl)) dX12_meetsIn_28 ⟨Nat.le_of_ble_eq_true rfl, Nat.le_of_ble_eq_true rfl⟩) hS (fun q _ h => MA.le hS.1 q h) (MA.le hS.1) (fun r4 x t H locs ht hvm hw hB _ _ hS => ?_)
    have hP := mB.at ht hB
    clear hB ht hvm
    obtain ⟨rfl, hw⟩ := hw
    have hP : va_P (dC, dI) vwCl (mw ar cy st sl) _ := hP
    clear hw
    refine lv_iand hx hb dX12_meetsIn_31 ?_
    refine lv_topi (fun z5 ez5 => ?_)
    clear ez5
    refine lv_goto (tgt := 36) hx hb dX12_meetsIn_32 (by decide) ?_
    exact W.iret (v := z5) hx hb hr (fun t ht hW => ⟨⟨z5, (st, sl), rfl, ⟨rfl, trivial⟩, mB.of ht hP⟩, hS.F ht⟩) hS.2.2 dX12_meetsIn_36
set_option maxHeartbeats 4000000 in
set_option maxRecDepth 100000 in
theorem m_meets (l : Launch) (dC : Nat → ClassId) (dI : Nat → Nat → Nat) (ar : Nat → Nat) (cy : Nat → ClassId) (sz : Nat) (hN : MN ar) (st : Nat → Nat → Int32) (sl : Nat → Nat → Int64) (va : Int32) (vb : Int32) (hI : MI st) : Met l yX12_meets wsX12_meets ({ frames := 3, cells := 0, slots := 0, locals := 64 }) (va_Pc [.ref (ar 0), .int va, .int vb] (mPre dC dI ar cy sz st sl)) (va_Qi (fun (r : Int32) (x : MT) => MG [1, 2, 3, 4, 5, 6, 7, 8, 9, 10, 11, 12, 13, 14, 15, 16, 17, 19, 20, 21, 22, 23] st x.1 ∧ LQ [7, 9] sl x.2 ∧ (True)) (mB dC dI ar cy) (MA ar sz)) 0 0 (MA ar sz) := by
  refine Met.ofW (cc := cX12_meets) (maxL := 3) (ret := (some .int)) (by decide) rfl ?_
  intro p e s m args below meth c s₁ B hml hv
  obtain ⟨rfl, hsz, hP, hK⟩ := hv
  have hx := B.exec
  have hb := B.bytes
  have hr := B.returns
  have hts := atoms_spec (ws := wsX12_meets) B.pre
  have hown : s.vm.findClass RX12 = some m.cls := findClass_of_methodNamed B.named
  subst hsz
  have hS : va_S (MA ar s.heap.size) s.heap s.heap [] := va_S.rf
  have hG : MG [1, 2, 3, 4, 5, 6, 7, 8, 9, 10, 11, 12, 13, 14, 15, 16, 17, 19, 20, 21, 22, 23] st st := MG.rf hI
  have hl := lv_entry ([.ref (ar 0), .int va, .int vb]) (n := 3) (Nat.le_of_ble_eq_true rfl)
  rw [lg_entry_eq]
  generalize (lg_sl ([.ref (ar 0), .int va, .int vb]) ++ List.replicate (3 - (lg_sl ([.ref (ar 0), .int va, .int vb])).length) Slot.unset).toArray = ls at hl ⊢
  have hl : lv_has ls 3 [(0, .ref (ar 0)), (1, .int va), (2, .int vb)] := hl
  clear hI
  have hL : LQ [7, 9] sl sl := LQ.rf
  refine lv_aload_n hx hb dX12_meets_0 rfl (lv_at hl 0 rfl) ?_
  refine lv_iconst (v := 0) hx hb dX12_meets_1 (by decide) ?_
  refine va_put (D := (dC, dI)) (ci := 11) (v := .int 0) (ty := .int) (C := RX12) (T := TX12) (N := 47) hx hb hts ii_X12_meets tyX12 tyX12_ok nmX12 hown hK hP (mD hN _ _ _ _) hS 0 rfl rfl 0 (by decide) (hts _ mm_X12_meets_1) (fun _ hh => hh) rfl (by decide +kernel) rfl rfl (Nat.le_of_ble_eq_true rfl) dX12_meets_2 (fun H locs hP _ hS => ?_)
  have hP : va_P (dC, dI) vwCl (mw ar cy (up2 st 0 0 0) sl) H := hP
  obtain ⟨st1, hP, hG⟩ : ∃ y, va_P (dC, dI) vwCl (mw ar cy y sl) H ∧ MG [1, 2, 3, 4, 5, 6, 7, 8, 9, 10, 11, 12, 13, 14, 15, 16, 17, 19, 20, 21, 22, 23] st y := ⟨up2 st 0 0 0, hP, hG.up (rz (by decide : mr 0 0 = 0)) (pn (by decide : pcl 0 0 = 0) (by decide))⟩
  refine lv_aload_n hx hb dX12_meets_5 rfl (lv_at hl 0 rfl) ?_
  refine lv_iload_n hx hb dX12_meets_6 rfl (lv_at hl 1 rfl) ?_
  refine va_calli (va_runV (As := [.int va]) (rest := []) ⟨hx, hb, hml, hown, hts⟩ (m_isPerson l dC dI ar cy _ hN st1 sl va  hG.1) (cwV 1 hts gX12_meets_X12_isPerson rfl rfl rfl (by decide +kernel) ⟨Nat.le_of_ble_eq_true rfl, Nat.le_of_ble_eq_true rfl⟩) ⟨fun a U g mk q => ⟨q.1, mPre.blind q.2⟩, va_recv hK hP (ci := 11) (q0 := 0) rfl rfl, fun U hU hW => ⟨rfl, mPre.of hP hK hU hW⟩⟩ rfl rfl hl.1 rfl (lv_room (Nat.le_of_ble_eq_true rfl)) dX12_meets_7 ⟨Nat.le_of_ble_eq_true rfl, Nat.le_of_ble_eq_true rfl⟩) hS (fun q _ h => MA.le hS.1 q h) (MA.le hS.1) (fun r2 x t H locs ht hvm hw hB _ _ hS => ?_)
  have hP := mB.at ht hB
  clear hB ht hvm
  obtain ⟨rfl, hw⟩ := hw
  have hP : va_P (dC, dI) vwCl (mw ar cy st1 sl) _ := hP
  rcases hw with ⟨n3, rfl, hf4, rfl⟩ | rfl
  · refine lv_if_eq (tgt := 35) hx hb dX12_meets_10 (by decide) (fun cc => absurd cc (by decide)) (fun _ => ?_)
    refine lv_aload_n hx hb dX12_meets_13 rfl (lv_at hl 0 rfl) ?_
    refine lv_iload_n hx hb dX12_meets_14 rfl (lv_at hl 2 rfl) ?_
    refine va_calli (va_runV (As := [.int vb]) (rest := []) ⟨hx, hb, hml, hown, hts⟩ (m_isPerson l dC dI ar cy _ hN st1 sl vb  hG.1) (cwV 1 hts gX12_meets_X12_isPerson rfl rfl rfl (by decide +kernel) ⟨Nat.le_of_ble_eq_true rfl, Nat.le_of_ble_eq_true rfl⟩) ⟨fun a U g mk q => ⟨q.1, mPre.blind q.2⟩, va_recv hK hP (ci := 11) (q0 := 0) rfl rfl, fun U hU hW => ⟨rfl, mPre.of hP hK hU hW⟩⟩ rfl rfl hl.1 rfl (lv_room (Nat.le_of_ble_eq_true rfl)) dX12_meets_15 ⟨Nat.le_of_ble_eq_true rfl, Nat.le_of_ble_eq_true rfl⟩) hS (fun q _ h => MA.le hS.1 q h) (MA.le hS.1) (fun r5 x t H locs ht hvm hw hB _ _ hS => ?_)
    have hP := mB.at ht hB
    clear hB ht hvm
    obtain ⟨rfl, hw⟩ := hw
    have hP : va_P (dC, dI) vwCl (mw ar cy st1 sl) _ := hP
    rcases hw with ⟨n6, rfl, hf7, rfl⟩ | rfl
    · refine lv_if_eq (tgt := 35) hx hb dX12_meets_18 (by decide) (fun cc => absurd cc (by decide)) (fun _ => ?_)
      refine lv_iload_n hx hb dX12_meets_21 rfl (lv_at hl 1 rfl) ?_
      refine lv_iload_n hx hb dX12_meets_22 rfl (lv_at hl 2 rfl) ?_
      refine lv_icmp_eq (tgt := 35) hx hb dX12_meets_23 (by decide) (fun c3 => ?_) (fun c3 => ?_)
      · have c3 : n3 = n6 := (nI_eq (a := n3) (b := n6) (by omega) (by omega)).mp c3
        refine lv_iconst (v := (-1)) hx hb dX12_meets_35 (by decide) ?_
        exact W.iret (v := (-1)) hx hb hr (fun t ht hW => ⟨⟨(-1), (st1, sl), rfl, ⟨hG, hL, trivial⟩, mB.of ht hP⟩, hS.F ht⟩) hS.2.2 dX12_meets_36
      · have c3 : ¬ n3 = n6 := fun hh => c3 ((nI_eq (a := n3) (b := n6) (by omega) (by omega)).mpr hh)
        refine lv_aload_n hx hb dX12_meets_26 rfl (lv_at hl 0 rfl) ?_
        refine lv_iload_n hx hb dX12_meets_27 rfl (lv_at hl 1 rfl) ?_
        refine lv_iload_n hx hb dX12_meets_28 rfl (lv_at hl 2 rfl) ?_
        refine va_calli (va_runV (As := [.int (nI n3), .int (nI n6)]) (rest := []) ⟨hx, hb, hml, hown, hts⟩ (m_meetsIn l dC dI ar cy _ hN st1 sl n3 n6 (by omega) (by omega) hG.1) (cwV 2 hts gX12_meets_X12_meetsIn rfl rfl rfl (by decide +kernel) ⟨Nat.le_of_ble_eq_true rfl, Nat.le_of_ble_eq_true rfl⟩) ⟨fun a U g mk q => ⟨q.1, mPre.blind q.2⟩, va_recv hK hP (ci := 11) (q0 := 0) rfl rfl, fun U hU hW => ⟨rfl, mPre.of hP hK hU hW⟩⟩ rfl rfl hl.1 rfl (lv_room (Nat.le_of_ble_eq_true rfl)) dX12_meets_29 ⟨Nat.le_of_ble_eq_true rfl, Nat.le_of_ble_eq_true rfl⟩) hS (fun q _ h => MA.le hS.1 q h) (MA.le hS.1) (fun r8 x t H locs ht hvm hw hB _ _ hS => ?_)
        have hP := mB.at ht hB
        clear hB ht hvm
        obtain ⟨rfl, hw⟩ := hw
        have hP : va_P (dC, dI) vwCl (mw ar cy st1 sl) _ := hP
        clear hw
        refine lv_goto (tgt := 36) hx hb dX12_meets_32 (by decide) ?_
        exact W.iret (v := r8) hx hb hr (fun t ht hW => ⟨⟨r8, (st1, sl), rfl, ⟨hG, hL, trivial⟩, mB.of ht hP⟩, hS.F ht⟩) hS.2.2 dX12_meets_36
    · refine lv_if_eq (tgt := 35) hx hb dX12_meets_18 (by decide) (fun _ => ?_) (fun cc => absurd (by decide) cc)
      refine lv_iconst (v := (-1)) hx hb dX12_meets_35 (by decide) ?_
      exact W.iret (v := (-1)) hx hb hr (fun t ht hW => ⟨⟨(-1), (st1, sl), rfl, ⟨hG, hL, trivial⟩, mB.of ht hP⟩, hS.F ht⟩) hS.2.2 dX12_meets_36
  · refine lv_if_eq (tgt := 35) hx hb dX12_meets_10 (by decide) (fun _ => ?_) (fun cc => absurd (by decide) cc)
    refine lv_iconst (v := (-1)) hx hb dX12_meets_35 (by decide) ?_
    exact W.iret (v := (-1)) hx hb hr (fun t ht hW => ⟨⟨(-1), (st1, sl), rfl, ⟨hG, hL, trivial⟩, mB.of ht hP⟩, hS.F ht⟩) hS.2.2 dX12_meets_36
