set_option maxHeartbeats 4000000 in
set_option maxRecDepth 100000 in
theorem m_tapeAt (l : Launch) (dC : Nat → ClassId) (dI : Nat → Nat → Nat) (ar : Nat → Nat) (cy : Nat → ClassId) (sz : Nat) (hN : MN ar) (st : Nat → Nat → Int32) (sl : Nat → Nat → Int64) (va : Nat) (ga gb : Nat) (hva : va < 941) (hI : MI st) (hT : TS st ga gb) : Met l yX12_tapeAt wsX12_tapeAt ({ frames := 0, cells := 0, slots := 0, locals := 0 }) (va_Pc [.ref (ar 0), .int (nI va)] (mPre dC dI ar cy sz st sl)) (va_Qi (fun (r : Int32) (x : MT) => x = (st, sl) ∧ (va < gb ∨ r = 0)) (mB dC dI ar cy) (MA ar sz)) 0 0 (MA ar sz) := by
  refine Met.ofW (cc := cX12_tapeAt) (maxL := 2) (ret := (some .int)) (by decide) rfl ?_
  intro p e s m args below meth c s₁ B hml hv
  obtain ⟨rfl, hsz, hP, hK⟩ := hv
  have hx := B.exec
  have hb := B.bytes
  have hr := B.returns
  have hts := atoms_spec (ws := wsX12_tapeAt) B.pre
  have hown : s.vm.findClass RX12 = some m.cls := findClass_of_methodNamed B.named
  subst hsz
  have hS : va_S (MA ar s.heap.size) s.heap s.heap [] := va_S.rf
  have hG : MG [1, 2, 3, 4, 5, 6, 7, 8, 9, 10, 11, 12, 13, 14, 15, 16, 17, 19, 20, 21, 22, 23] st st := MG.rf hI
  have hl := lv_entry ([.ref (ar 0), .int (nI va)]) (n := 2) (Nat.le_of_ble_eq_true rfl)
  rw [lg_entry_eq]
  generalize (lg_sl ([.ref (ar 0), .int (nI va)]) ++ List.replicate (2 - (lg_sl ([.ref (ar 0), .int (nI va)])).length) Slot.unset).toArray = ls at hl ⊢
  have hl : lv_has ls 2 [(0, .ref (ar 0)), (1, .int (nI va))] := hl
  clear hI
  have hTc := hT.2.2.1
  have hTd := hT.2.2.2
  have hga : ga ≤ ga := Nat.le_refl ga
  refine lv_iload_n hx hb dX12_tapeAt_0 rfl (lv_at hl 1 rfl) ?_
  refine lv_aload_n hx hb dX12_tapeAt_1 rfl (lv_at hl 0 rfl) ?_
  refine va_get (D := (dC, dI)) (ci := 11) (v := .int (st 0 3)) (C := RX12) (T := TX12) (N := 47) hx hb hts ii_X12_tapeAt hown hK hP 0 rfl rfl 3 (by decide) (hts _ mm_X12_tapeAt_1) (fun _ hh => hh) rfl dX12_tapeAt_2 ?_
  refine zz_top (v := (nI gb)) (by show st 0 3 = _; rw [hT.2.1]) ?_
  refine lv_icmp_ge (tgt := 17) hx hb dX12_tapeAt_5 (by decide) (fun c1 => ?_) (fun c1 => ?_)
  · have c1 : gb ≤ va := (nI_leI (a := gb) (b := va) (by omega) (by omega)).mp c1
    refine lv_iconst (v := 0) hx hb dX12_tapeAt_17 (by decide) ?_
    exact W.iret (v := 0) hx hb hr (fun t ht hW => ⟨⟨0, (st, sl), rfl, ⟨rfl, Or.inr rfl⟩, mB.of ht hP⟩, hS.F ht⟩) hS.2.2 dX12_tapeAt_18
  · have c1 : ¬ gb ≤ va := fun hh => c1 ((nI_leI (a := gb) (b := va) (by omega) (by omega)).mpr hh)
    refine lv_aload_n hx hb dX12_tapeAt_8 rfl (lv_at hl 0 rfl) ?_
    refine va_get (D := (dC, dI)) (ci := 11) (v := .ref (ar 1)) (C := RX12) (T := TX12) (N := 47) hx hb hts ii_X12_tapeAt hown hK hP 0 rfl rfl 1 (by decide) (hts _ mm_X12_tapeAt_2) (fun _ hh => hh) rfl dX12_tapeAt_9 ?_
    refine lv_iload_n hx hb dX12_tapeAt_12 rfl (lv_at hl 1 rfl) ?_
    refine va_iald hx hb hK hP 1 0 rfl rfl (i := (nI va)) (vp_in_nI (by omega) (by decide)) dX12_tapeAt_13 ?_
    refine lv_topi (fun z1 ez1 => ?_)
    refine lv_goto (tgt := 18) hx hb dX12_tapeAt_14 (by decide) ?_
    exact W.iret (v := z1) hx hb hr (fun t ht hW => ⟨⟨z1, (st, sl), rfl, ⟨rfl, Or.inl (by omega)⟩, mB.of ht hP⟩, hS.F ht⟩) hS.2.2 dX12_tapeAt_18
set_option maxHeartbeats 4000000 in
set_option maxRecDepth 100000 in
theorem m_isLetterA (l : Launch) (dC : Nat → ClassId) (dI : Nat → Nat → Nat) (ar : Nat → Nat) (cy : Nat → ClassId) (sz : Nat) (hN : MN ar) (st : Nat → Nat → Int32) (sl : Nat → Nat → Int64) (vc : Int32) (hI : MI st) : Met l yX12_isLetter wsX12_isLetter ({ frames := 0, cells := 0, slots := 0, locals := 0 }) (va_Pc [.int vc] (mPre dC dI ar cy sz st sl)) (va_Qi (fun (r : Int32) (x : MT) => x = (st, sl) ∧ (True)) (mB dC dI ar cy) (MA ar sz)) 0 0 (MA ar sz) := by
  refine Met.ofW (cc := cX12_isLetter) (maxL := 1) (ret := (some .boolean)) (by decide) rfl ?_
  intro p e s m args below meth c s₁ B hml hv
  obtain ⟨rfl, hsz, hP, hK⟩ := hv
  have hx := B.exec
  have hb := B.bytes
  have hr := B.returns
  have hts := atoms_spec (ws := wsX12_isLetter) B.pre
  have hown : s.vm.findClass RX12 = some m.cls := findClass_of_methodNamed B.named
  subst hsz
  have hS : va_S (MA ar s.heap.size) s.heap s.heap [] := va_S.rf
  have hG : MG [1, 2, 3, 4, 5, 6, 7, 8, 9, 10, 11, 12, 13, 14, 15, 16, 17, 19, 20, 21, 22, 23] st st := MG.rf hI
  have hl := lv_entry ([.int vc]) (n := 1) (Nat.le_of_ble_eq_true rfl)
  rw [lg_entry_eq]
  generalize (lg_sl ([.int vc]) ++ List.replicate (1 - (lg_sl ([.int vc])).length) Slot.unset).toArray = ls at hl ⊢
  have hl : lv_has ls 1 [(0, .int vc)] := hl
  clear hI
  refine lv_iload_n hx hb dX12_isLetter_0 rfl (lv_at hl 0 rfl) ?_
  refine lv_bipush (v := 97) hx hb dX12_isLetter_1 (by decide) ?_
  refine lv_icmp_lt (tgt := 16) hx hb dX12_isLetter_3 (by decide) (fun c1 => ?_) (fun c1 => ?_)
  · refine lv_iconst (v := 0) hx hb dX12_isLetter_16 (by decide) ?_
    exact W.zret (v := 0) hx hb hr rfl (fun t ht hW => ⟨⟨0, (st, sl), rfl, ⟨rfl, trivial⟩, mB.of ht hP⟩, hS.F ht⟩) hS.2.2 dX12_isLetter_17
  · refine lv_iload_n hx hb dX12_isLetter_6 rfl (lv_at hl 0 rfl) ?_
    refine lv_bipush (v := 122) hx hb dX12_isLetter_7 (by decide) ?_
    refine lv_icmp_gt (tgt := 16) hx hb dX12_isLetter_9 (by decide) (fun c2 => ?_) (fun c2 => ?_)
    · refine lv_iconst (v := 0) hx hb dX12_isLetter_16 (by decide) ?_
      exact W.zret (v := 0) hx hb hr rfl (fun t ht hW => ⟨⟨0, (st, sl), rfl, ⟨rfl, trivial⟩, mB.of ht hP⟩, hS.F ht⟩) hS.2.2 dX12_isLetter_17
    · refine lv_iconst (v := 1) hx hb dX12_isLetter_12 (by decide) ?_
      refine lv_goto (tgt := 17) hx hb dX12_isLetter_13 (by decide) ?_
      exact W.zret (v := 1) hx hb hr rfl (fun t ht hW => ⟨⟨1, (st, sl), rfl, ⟨rfl, trivial⟩, mB.of ht hP⟩, hS.F ht⟩) hS.2.2 dX12_isLetter_17
set_option maxHeartbeats 4000000 in
set_option maxRecDepth 100000 in
theorem m_go (l : Launch) (dC : Nat → ClassId) (dI : Nat → Nat → Nat) (ar : Nat → Nat) (cy : Nat → ClassId) (sz : Nat) (hN : MN ar) (st : Nat → Nat → Int32) (sl : Nat → Nat → Int64) (ga gb : Nat) (hI : MI st) (hT : TS st ga gb) : Met l yX12_go wsX12_go ({ frames := 1, cells := 0, slots := 0, locals := 21 }) (va_Pc [.ref (ar 0)] (mPre dC dI ar cy sz st sl)) (va_Qv (fun (x : MT) => MG [1, 2, 3, 6, 7, 8, 9, 10, 11, 12, 13, 14, 15, 16, 19, 20, 21, 22, 23] st x.1 ∧ LQ [7, 9] sl x.2 ∧ (∃ g : Nat, TS x.1 g gb ∧ ga ≤ g ∧ (x.1 0 7 = 4 → ga < g))) (mB dC dI ar cy) (MA ar sz)) 0 0 (MA ar sz) := by
  refine Met.ofW (cc := cX12_go) (maxL := 5) (ret := none) (by decide) rfl ?_
  intro p e s m args below meth c s₁ B hml hv
  obtain ⟨rfl, hsz, hP, hK⟩ := hv
  have hx := B.exec
  have hb := B.bytes
  have hr := B.returns
  have hts := atoms_spec (ws := wsX12_go) B.pre
  have hown : s.vm.findClass RX12 = some m.cls := findClass_of_methodNamed B.named
  subst hsz
  have hS : va_S (MA ar s.heap.size) s.heap s.heap [] := va_S.rf
  have hG : MG [1, 2, 3, 6, 7, 8, 9, 10, 11, 12, 13, 14, 15, 16, 19, 20, 21, 22, 23] st st := MG.rf hI
  have hl := lv_entry ([.ref (ar 0)]) (n := 5) (Nat.le_of_ble_eq_true rfl)
  rw [lg_entry_eq]
  generalize (lg_sl ([.ref (ar 0)]) ++ List.replicate (5 - (lg_sl ([.ref (ar 0)])).length) Slot.unset).toArray = ls at hl ⊢
  have hl : lv_has ls 5 [(0, .ref (ar 0))] := hl
  clear hI
  have hL : LQ [7, 9] sl sl := LQ.rf
  have hTc := hT.2.2.1
  have hTd := hT.2.2.2
  have hga : ga ≤ ga := Nat.le_refl ga
  refine zz_wf (fun n stk H locs ls => ∃ st1 : Nat → Nat → Int32, ∃ sl2 : Nat → Nat → Int64, ∃ g3 : Nat, n = gb - g3 ∧ TS st1 g3 gb ∧ ga ≤ g3 ∧ va_P (dC, dI) vwCl (mw ar cy st1 sl2) H ∧ MG [1, 2, 3, 6, 7, 8, 9, 10, 11, 12, 13, 14, 15, 16, 19, 20, 21, 22, 23] st st1 ∧ LQ [7, 9] sl sl2 ∧ va_S (MA ar s.heap.size) s.heap H locs ∧ lv_has ls 5 [(0, .ref (ar 0))] ∧ stk = []) ?_ (gb - ga) _ _ _ _ ⟨st, sl, ga, rfl, ⟨by rw [hT.1], by rw [hT.2.1], by omega, by omega⟩, by omega, hP, hG, hL, hS, lv_sub hl [0] rfl, rfl⟩
  rintro nn stk H locs ls ⟨st1, sl2, g3, hm3, hTg3, hTg3g, hP, hG, hL, hS, hl, rfl⟩ ih4
  have hTg3c := hTg3.2.2.1
  have hTg3d := hTg3.2.2.2
  refine lv_aload_n hx hb dX12_go_0 rfl (lv_at hl 0 rfl) ?_
  refine va_get (D := (dC, dI)) (ci := 11) (v := .int (st1 0 5)) (C := RX12) (T := TX12) (N := 47) hx hb hts ii_X12_go hown hK hP 0 rfl rfl 5 (by decide) (hts _ mm_X12_go_1) (fun _ hh => hh) rfl dX12_go_1 ?_
  refine zz_top (v := (nI g3)) (by show st1 0 5 = _; rw [hTg3.1]) ?_
  refine lv_aload_n hx hb dX12_go_4 rfl (lv_at hl 0 rfl) ?_
  refine va_get (D := (dC, dI)) (ci := 11) (v := .int (st1 0 3)) (C := RX12) (T := TX12) (N := 47) hx hb hts ii_X12_go hown hK hP 0 rfl rfl 3 (by decide) (hts _ mm_X12_go_2) (fun _ hh => hh) rfl dX12_go_5 ?_
  refine zz_top (v := (nI gb)) (by show st1 0 3 = _; rw [hTg3.2.1]) ?_
  refine zz_join (pcJ := 52) (fun stk H locs ls => ∃ st5 : Nat → Nat → Int32, ∃ sl6 : Nat → Nat → Int64, ∃ g7 : Nat, TS st5 g7 gb ∧ ga ≤ g7 ∧ va_P (dC, dI) vwCl (mw ar cy st5 sl6) H ∧ MG [1, 2, 3, 6, 7, 8, 9, 10, 11, 12, 13, 14, 15, 16, 19, 20, 21, 22, 23] st st5 ∧ LQ [7, 9] sl sl6 ∧ va_S (MA ar s.heap.size) s.heap H locs ∧ lv_has ls 5 [(0, .ref (ar 0))] ∧ stk = []) ?_ (fun kj8 => ?_)
  · rintro stk H locs ls ⟨st5, sl6, g7, hTg7, hTg7g, hP, hG, hL, hS, hl, rfl⟩
    have hTg7c := hTg7.2.2.1
    have hTg7d := hTg7.2.2.2
    refine lv_aload_n hx hb dX12_go_52 rfl (lv_at hl 0 rfl) ?_
    refine lv_aload_n hx hb dX12_go_53 rfl (lv_at hl 0 rfl) ?_
    refine va_get (D := (dC, dI)) (ci := 11) (v := .int (st5 0 5)) (C := RX12) (T := TX12) (N := 47) hx hb hts ii_X12_go hown hK hP 0 rfl rfl 5 (by decide) (hts _ mm_X12_go_1) (fun _ hh => hh) rfl dX12_go_54 ?_
    refine zz_top (v := (nI g7)) (by show st5 0 5 = _; rw [hTg7.1]) ?_
    refine va_put (D := (dC, dI)) (ci := 11) (v := .int (nI g7)) (ty := .int) (C := RX12) (T := TX12) (N := 47) hx hb hts ii_X12_go tyX12 tyX12_ok nmX12 hown hK hP (mD hN _ _ _ _) hS 0 rfl rfl 6 (by decide) (hts _ mm_X12_go_4) (fun _ hh => hh) rfl (by decide +kernel) rfl rfl (Nat.le_of_ble_eq_true rfl) dX12_go_57 (fun H locs hP _ hS => ?_)
    have hP : va_P (dC, dI) vwCl (mw ar cy (up2 st5 0 6 (nI g7)) sl6) H := hP
    obtain ⟨st9, est9⟩ : ∃ y, y = up2 st5 0 6 (nI g7) := ⟨_, rfl⟩
    have hG : MG [1, 2, 3, 6, 7, 8, 9, 10, 11, 12, 13, 14, 15, 16, 19, 20, 21, 22, 23] st st9 := by rw [est9]; exact hG.up (rz (by decide : mr 0 6 = 0)) (pn (by decide : pcl 0 6 = 17) (by decide))
    rw [← est9] at hP
    refine lv_aload_n hx hb dX12_go_60 rfl (lv_at hl 0 rfl) ?_
    refine va_get (D := (dC, dI)) (ci := 11) (v := .int (st9 0 3)) (C := RX12) (T := TX12) (N := 47) hx hb hts ii_X12_go hown hK hP 0 rfl rfl 3 (by decide) (hts _ mm_X12_go_2) (fun _ hh => hh) rfl dX12_go_61 ?_
    refine zz_top (v := (nI gb)) (by show st9 0 3 = _; rw [est9, up2_ne (r := 0) (k := 6) (a := 0) (j := 3) _ _ (by omega), hTg7.2.1]) ?_
    refine lv_aload_n hx hb dX12_go_64 rfl (lv_at hl 0 rfl) ?_
    refine va_get (D := (dC, dI)) (ci := 11) (v := .int (st9 0 4)) (C := RX12) (T := TX12) (N := 47) hx hb hts ii_X12_go hown hK hP 0 rfl rfl 4 (by decide) (hts _ mm_X12_go_5) (fun _ hh => hh) rfl dX12_go_65 ?_
    refine lv_topi (fun z10 ez10 => ?_)
    refine zz_join (pcJ := 96) (fun stk H locs ls => va_P (dC, dI) vwCl (mw ar cy st9 sl6) H ∧ va_S (MA ar s.heap.size) s.heap H locs ∧ lv_has ls 5 [(0, .ref (ar 0))] ∧ stk = []) ?_ (fun kj11 => ?_)
    · rintro stk H locs ls ⟨hP, hS, hl, rfl⟩
      refine lv_aload_n hx hb dX12_go_96 rfl (lv_at hl 0 rfl) ?_
      refine va_get (D := (dC, dI)) (ci := 11) (v := .int (st9 0 5)) (C := RX12) (T := TX12) (N := 47) hx hb hts ii_X12_go hown hK hP 0 rfl rfl 5 (by decide) (hts _ mm_X12_go_1) (fun _ hh => hh) rfl dX12_go_97 ?_
      refine zz_top (v := (nI g7)) (by show st9 0 5 = _; rw [est9, up2_ne (r := 0) (k := 6) (a := 0) (j := 5) _ _ (by omega), hTg7.1]) ?_
      refine lv_aload_n hx hb dX12_go_100 rfl (lv_at hl 0 rfl) ?_
      refine va_get (D := (dC, dI)) (ci := 11) (v := .int (st9 0 3)) (C := RX12) (T := TX12) (N := 47) hx hb hts ii_X12_go hown hK hP 0 rfl rfl 3 (by decide) (hts _ mm_X12_go_2) (fun _ hh => hh) rfl dX12_go_101 ?_
      refine zz_top (v := (nI gb)) (by show st9 0 3 = _; rw [est9, up2_ne (r := 0) (k := 6) (a := 0) (j := 3) _ _ (by omega), hTg7.2.1]) ?_
      refine lv_icmp_lt (tgt := 113) hx hb dX12_go_104 (by decide) (fun c1 => ?_) (fun c1 => ?_)
      · have c1 : g7 < gb := (nI_ltI (a := g7) (b := gb) (by omega) (by omega)).mp c1
        refine lv_aload_n hx hb dX12_go_113 rfl (lv_at hl 0 rfl) ?_
        refine va_get (D := (dC, dI)) (ci := 11) (v := .ref (ar 1)) (C := RX12) (T := TX12) (N := 47) hx hb hts ii_X12_go hown hK hP 0 rfl rfl 1 (by decide) (hts _ mm_X12_go_3) (fun _ hh => hh) rfl dX12_go_114 ?_
        refine lv_aload_n hx hb dX12_go_117 rfl (lv_at hl 0 rfl) ?_
        refine va_get (D := (dC, dI)) (ci := 11) (v := .int (st9 0 5)) (C := RX12) (T := TX12) (N := 47) hx hb hts ii_X12_go hown hK hP 0 rfl rfl 5 (by decide) (hts _ mm_X12_go_1) (fun _ hh => hh) rfl dX12_go_118 ?_
        refine zz_top (v := (nI g7)) (by show st9 0 5 = _; rw [est9, up2_ne (r := 0) (k := 6) (a := 0) (j := 5) _ _ (by omega), hTg7.1]) ?_
        refine va_iald hx hb hK hP 1 0 rfl rfl (i := (nI g7)) (vp_in_nI (by omega) (by decide)) dX12_go_121 ?_
        refine lv_topi (fun z12 ez12 => ?_)
        refine lv_istore_n (lv' := [(1, .int z12), (0, .ref (ar 0))]) hx hb dX12_go_122 rfl hl (by decide) rfl (fun ls hl => ?_)
        refine zz_join (pcJ := 198) (fun stk H locs ls => va_P (dC, dI) vwCl (mw ar cy st9 sl6) H ∧ va_S (MA ar s.heap.size) s.heap H locs ∧ lv_has ls 5 [(1, .int z12), (0, .ref (ar 0))] ∧ stk = []) ?_ (fun kj13 => ?_)
        · rintro stk H locs ls ⟨hP, hS, hl, rfl⟩
          refine lv_iload_n hx hb dX12_go_198 rfl (lv_at hl 0 rfl) ?_
          refine va_calli (va_runS (As := [.int z12]) (rest := []) ⟨hx, hb, hml, hown, hts⟩ (m_isLetterA l dC dI ar cy _ hN st9 sl6 z12  hG.1) (va_cwS 1 hts gX12_go_X12_isLetter rfl rfl rfl (by decide +kernel) ⟨Nat.le_of_ble_eq_true rfl, Nat.le_of_ble_eq_true rfl⟩) ⟨fun a U g mk q => ⟨q.1, mPre.blind q.2⟩, fun U hU hW => ⟨rfl, mPre.of hP hK hU hW⟩⟩ rfl rfl hl.1 rfl (lv_room (Nat.le_of_ble_eq_true rfl)) dX12_go_199 ⟨Nat.le_of_ble_eq_true rfl, Nat.le_of_ble_eq_true rfl⟩) hS (fun q _ h => MA.le hS.1 q h) (MA.le hS.1) (fun r14 x t H locs ht hvm hw hB _ _ hS => ?_)
          have hP := mB.at ht hB
          clear hB ht hvm
          obtain ⟨rfl, hw⟩ := hw
          have hP : va_P (dC, dI) vwCl (mw ar cy st9 sl6) _ := hP
          clear hw
          refine lv_istore_n (lv' := [(2, .int r14), (1, .int z12), (0, .ref (ar 0))]) hx hb dX12_go_202 rfl hl (by decide) rfl (fun ls hl => ?_)
          refine lv_iconst (v := 1) hx hb dX12_go_203 (by decide) ?_
          refine lv_istore_n (lv' := [(3, .int 1), (2, .int r14), (1, .int z12), (0, .ref (ar 0))]) hx hb dX12_go_204 rfl hl (by decide) rfl (fun ls hl => ?_)
          refine lv_aload_n hx hb dX12_go_205 rfl (lv_at hl 3 rfl) ?_
          refine lv_lconst (v := 0) hx hb dX12_go_206 (by decide) ?_
          refine va_put (D := (dC, dI)) (ci := 11) (v := .long 0) (ty := .long) (C := RX12) (T := TX12) (N := 47) hx hb hts ii_X12_go tyX12 tyX12_ok nmX12 hown hK hP (mD hN _ _ _ _) hS 0 rfl rfl 12 (by decide) (hts _ mm_X12_go_8) (fun _ hh => hh) rfl (by decide +kernel) rfl rfl (Nat.le_of_ble_eq_true rfl) dX12_go_207 (fun H locs hP _ hS => ?_)
          have hP : va_P (dC, dI) vwCl (mw ar cy st9 (upL sl6 0 12 0)) H := hP
          obtain ⟨sl15, esl15⟩ : ∃ y, y = upL sl6 0 12 0 := ⟨_, rfl⟩
          rw [← esl15] at hP
          have hL : LQ [7, 9] sl sl15 := by rw [esl15]; exact hL.up (by decide)
          clear esl15
          refine lv_aload_n hx hb dX12_go_210 rfl (lv_at hl 3 rfl) ?_
          refine lv_iconst (v := 0) hx hb dX12_go_211 (by decide) ?_
          refine va_put (D := (dC, dI)) (ci := 11) (v := .int 0) (ty := .int) (C := RX12) (T := TX12) (N := 47) hx hb hts ii_X12_go tyX12 tyX12_ok nmX12 hown hK hP (mD hN _ _ _ _) hS 0 rfl rfl 8 (by decide) (hts _ mm_X12_go_9) (fun _ hh => hh) rfl (by decide +kernel) rfl rfl (Nat.le_of_ble_eq_true rfl) dX12_go_212 (fun H locs hP _ hS => ?_)
          have hP : va_P (dC, dI) vwCl (mw ar cy (up2 st9 0 8 0) sl15) H := hP
          obtain ⟨st16, est16⟩ : ∃ y, y = up2 st9 0 8 0 := ⟨_, rfl⟩
          have hG : MG [1, 2, 3, 6, 7, 8, 9, 10, 11, 12, 13, 14, 15, 16, 19, 20, 21, 22, 23] st st16 := by rw [est16]; exact hG.up (rz (by decide : mr 0 8 = 0)) (pn (by decide : pcl 0 8 = 0) (by decide))
          rw [← est16] at hP
          refine zz_wf (fun n stk H locs ls => ∃ z17 : Int32, ∃ st18 : Nat → Nat → Int32, ∃ sl19 : Nat → Nat → Int64, ∃ g20 : Nat, n = gb - g20 ∧ TS st18 g20 gb ∧ ga ≤ g20 ∧ va_P (dC, dI) vwCl (mw ar cy st18 sl19) H ∧ MG [1, 2, 3, 6, 7, 8, 9, 10, 11, 12, 13, 14, 15, 16, 19, 20, 21, 22, 23] st st18 ∧ LQ [7, 9] sl sl19 ∧ va_S (MA ar s.heap.size) s.heap H locs ∧ lv_has ls 5 [(3, .int z17), (2, .int r14), (1, .int z12), (0, .ref (ar 0))] ∧ stk = []) ?_ (gb - g7) _ _ _ _ ⟨1, st16, sl15, g7, rfl, ⟨by rw [est16, up2_ne (r := 0) (k := 8) (a := 0) (j := 5) _ _ (by omega), est9, up2_ne (r := 0) (k := 6) (a := 0) (j := 5) _ _ (by omega), hTg7.1], by rw [est16, up2_ne (r := 0) (k := 8) (a := 0) (j := 3) _ _ (by omega), est9, up2_ne (r := 0) (k := 6) (a := 0) (j := 3) _ _ (by omega), hTg7.2.1], by omega, by omega⟩, by omega, hP, hG, hL, hS, lv_sub hl [0, 1, 2, 3] rfl, rfl⟩
          rintro nn stk H locs ls ⟨z17, st18, sl19, g20, hm20, hTg20, hTg20g, hP, hG, hL, hS, hl, rfl⟩ ih21
          have hTg20c := hTg20.2.2.1
          have hTg20d := hTg20.2.2.2
          refine lv_aload_n hx hb dX12_go_215 rfl (lv_at hl 3 rfl) ?_
          refine lv_aload_n hx hb dX12_go_216 rfl (lv_at hl 3 rfl) ?_
          refine va_get (D := (dC, dI)) (ci := 11) (v := .int (st18 0 5)) (C := RX12) (T := TX12) (N := 47) hx hb hts ii_X12_go hown hK hP 0 rfl rfl 5 (by decide) (hts _ mm_X12_go_1) (fun _ hh => hh) rfl dX12_go_217 ?_
          refine zz_top (v := (nI g20)) (by show st18 0 5 = _; rw [hTg20.1]) ?_
          refine va_calli (va_runV (As := [.int (nI g20)]) (rest := []) ⟨hx, hb, hml, hown, hts⟩ (m_tapeAt l dC dI ar cy _ hN st18 sl19 g20 g20 gb (by omega) hG.1 ((⟨by rw [hTg20.1], by rw [hTg20.2.1], by omega, by omega⟩ : TS st18 g20 gb))) (cwV 1 hts gX12_go_X12_tapeAt rfl rfl rfl (by decide +kernel) ⟨Nat.le_of_ble_eq_true rfl, Nat.le_of_ble_eq_true rfl⟩) ⟨fun a U g mk q => ⟨q.1, mPre.blind q.2⟩, va_recv hK hP (ci := 11) (q0 := 0) rfl rfl, fun U hU hW => ⟨rfl, mPre.of hP hK hU hW⟩⟩ rfl rfl hl.1 rfl (lv_room (Nat.le_of_ble_eq_true rfl)) dX12_go_220 ⟨Nat.le_of_ble_eq_true rfl, Nat.le_of_ble_eq_true rfl⟩) hS (fun q _ h => MA.le hS.1 q h) (MA.le hS.1) (fun r22 x t H locs ht hvm hw hB _ _ hS => ?_)
          have hP := mB.at ht hB
          clear hB ht hvm
          obtain ⟨rfl, hw⟩ := hw
          have hP : va_P (dC, dI) vwCl (mw ar cy st18 sl19) _ := hP
          have hf23 := hw
          refine va_calli (va_runS (As := [.int r22]) (rest := []) ⟨hx, hb, hml, hown, hts⟩ (m_isLetter l dC dI ar cy _ hN st18 sl19 r22  hG.1) (va_cwS 1 hts gX12_go_X12_isLetter rfl rfl rfl (by decide +kernel) ⟨Nat.le_of_ble_eq_true rfl, Nat.le_of_ble_eq_true rfl⟩) ⟨fun a U g mk q => ⟨q.1, mPre.blind q.2⟩, fun U hU hW => ⟨rfl, mPre.of hP hK hU hW⟩⟩ rfl rfl hl.1 rfl (lv_room (Nat.le_of_ble_eq_true rfl)) dX12_go_223 ⟨Nat.le_of_ble_eq_true rfl, Nat.le_of_ble_eq_true rfl⟩) hS (fun q _ h => MA.le hS.1 q h) (MA.le hS.1) (fun r24 x t H locs ht hvm hw hB _ _ hS => ?_)
          have hP := mB.at ht hB
          clear hB ht hvm
          obtain ⟨rfl, hw⟩ := hw
          have hP : va_P (dC, dI) vwCl (mw ar cy st18 sl19) _ := hP
          rcases hw with ⟨rfl, hf25⟩ | rfl
          · have hlt25 := zz_tape hf23 hf25 (by decide)
            refine lv_if_ne (tgt := 243) hx hb dX12_go_226 (by decide) (fun _ => ?_) (fun cc => absurd cc (by decide))
            refine lv_aload_n hx hb dX12_go_243 rfl (lv_at hl 3 rfl) ?_
            refine va_get (D := (dC, dI)) (ci := 11) (v := .ref (ar 1)) (C := RX12) (T := TX12) (N := 47) hx hb hts ii_X12_go hown hK hP 0 rfl rfl 1 (by decide) (hts _ mm_X12_go_3) (fun _ hh => hh) rfl dX12_go_244 ?_
            refine lv_aload_n hx hb dX12_go_247 rfl (lv_at hl 3 rfl) ?_
            refine va_get (D := (dC, dI)) (ci := 11) (v := .int (st18 0 5)) (C := RX12) (T := TX12) (N := 47) hx hb hts ii_X12_go hown hK hP 0 rfl rfl 5 (by decide) (hts _ mm_X12_go_1) (fun _ hh => hh) rfl dX12_go_248 ?_
            refine zz_top (v := (nI g20)) (by show st18 0 5 = _; rw [hTg20.1]) ?_
            refine va_iald hx hb hK hP 1 0 rfl rfl (i := (nI g20)) (vp_in_nI (by omega) (by decide)) dX12_go_251 ?_
            refine lv_topi (fun z26 ez26 => ?_)
            refine lv_istore (lv' := [(4, .int z26), (3, .int z17), (2, .int r14), (1, .int z12), (0, .ref (ar 0))]) hx hb dX12_go_252 hl (by decide) rfl (fun ls hl => ?_)
            refine zz_join (pcJ := 272) (fun stk H locs ls => ∃ z27 : Int32, va_P (dC, dI) vwCl (mw ar cy st18 sl19) H ∧ va_S (MA ar s.heap.size) s.heap H locs ∧ lv_has ls 5 [(4, .int z26), (3, .int z17), (2, .int r14), (1, .int z12), (0, .ref (ar 0))] ∧ stk = [.int z27]) ?_ (fun kj28 => ?_)
            · rintro stk H locs ls ⟨z27, hP, hS, hl, rfl⟩
              refine lv_istore_n (lv' := [(3, .int z27), (4, .int z26), (2, .int r14), (1, .int z12), (0, .ref (ar 0))]) hx hb dX12_go_272 rfl hl (by decide) rfl (fun ls hl => ?_)
              refine lv_aload_n hx hb dX12_go_273 rfl (lv_at hl 4 rfl) ?_
              refine va_get (D := (dC, dI)) (ci := 11) (v := .int (st18 0 5)) (C := RX12) (T := TX12) (N := 47) hx hb hts ii_X12_go hown hK hP 0 rfl rfl 5 (by decide) (hts _ mm_X12_go_1) (fun _ hh => hh) rfl dX12_go_274 ?_
              refine zz_top (v := (nI g20)) (by show st18 0 5 = _; rw [hTg20.1]) ?_
              refine lv_aload_n hx hb dX12_go_277 rfl (lv_at hl 4 rfl) ?_
              refine va_get (D := (dC, dI)) (ci := 11) (v := .int (st18 0 6)) (C := RX12) (T := TX12) (N := 47) hx hb hts ii_X12_go hown hK hP 0 rfl rfl 6 (by decide) (hts _ mm_X12_go_4) (fun _ hh => hh) rfl dX12_go_278 ?_
              refine lv_topi (fun z29 ez29 => ?_)
              refine lv_isub hx hb dX12_go_281 ?_
              refine lv_topi (fun z30 ez30 => ?_)
              refine lv_bipush (v := 7) hx hb dX12_go_282 (by decide) ?_
              refine zz_join (pcJ := 307) (fun stk H locs ls => ∃ st31 : Nat → Nat → Int32, ∃ sl32 : Nat → Nat → Int64, TS st31 g20 gb ∧ ga ≤ g20 ∧ va_P (dC, dI) vwCl (mw ar cy st31 sl32) H ∧ MG [1, 2, 3, 6, 7, 8, 9, 10, 11, 12, 13, 14, 15, 16, 19, 20, 21, 22, 23] st st31 ∧ LQ [7, 9] sl sl32 ∧ va_S (MA ar s.heap.size) s.heap H locs ∧ lv_has ls 5 [(3, .int z27), (4, .int z26), (2, .int r14), (1, .int z12), (0, .ref (ar 0))] ∧ stk = []) ?_ (fun kj34 => ?_)
              · rintro stk H locs ls ⟨st31, sl32, hTsx33, hTsx33g, hP, hG, hL, hS, hl, rfl⟩
                have hTsx33c := hTsx33.2.2.1
                have hTsx33d := hTsx33.2.2.2
                refine lv_aload_n hx hb dX12_go_307 rfl (lv_at hl 4 rfl) ?_
                refine va_get (D := (dC, dI)) (ci := 11) (v := .int (st31 0 5)) (C := RX12) (T := TX12) (N := 47) hx hb hts ii_X12_go hown hK hP 0 rfl rfl 5 (by decide) (hts _ mm_X12_go_1) (fun _ hh => hh) rfl dX12_go_308 ?_
                refine zz_top (v := (nI g20)) (by show st31 0 5 = _; rw [hTsx33.1]) ?_
                refine lv_aload_n hx hb dX12_go_311 rfl (lv_at hl 4 rfl) ?_
                refine va_get (D := (dC, dI)) (ci := 11) (v := .int (st31 0 6)) (C := RX12) (T := TX12) (N := 47) hx hb hts ii_X12_go hown hK hP 0 rfl rfl 6 (by decide) (hts _ mm_X12_go_4) (fun _ hh => hh) rfl dX12_go_312 ?_
                refine lv_topi (fun z35 ez35 => ?_)
                refine lv_isub hx hb dX12_go_315 ?_
                refine lv_topi (fun z36 ez36 => ?_)
                refine lv_iconst (v := 3) hx hb dX12_go_316 (by decide) ?_
                refine zz_join (pcJ := 337) (fun stk H locs ls => ∃ st37 : Nat → Nat → Int32, ∃ sl38 : Nat → Nat → Int64, TS st37 g20 gb ∧ ga ≤ g20 ∧ va_P (dC, dI) vwCl (mw ar cy st37 sl38) H ∧ MG [1, 2, 3, 6, 7, 8, 9, 10, 11, 12, 13, 14, 15, 16, 19, 20, 21, 22, 23] st st37 ∧ LQ [7, 9] sl sl38 ∧ va_S (MA ar s.heap.size) s.heap H locs ∧ lv_has ls 5 [(3, .int z27), (4, .int z26), (2, .int r14), (1, .int z12), (0, .ref (ar 0))] ∧ stk = []) ?_ (fun kj40 => ?_)
                · rintro stk H locs ls ⟨st37, sl38, hTsx39, hTsx39g, hP, hG, hL, hS, hl, rfl⟩
                  have hTsx39c := hTsx39.2.2.1
                  have hTsx39d := hTsx39.2.2.2
                  refine lv_aload_n hx hb dX12_go_337 rfl (lv_at hl 4 rfl) ?_
                  refine lv_dup hx hb dX12_go_338 rfl ?_
                  refine va_get (D := (dC, dI)) (ci := 11) (v := .int (st37 0 5)) (C := RX12) (T := TX12) (N := 47) hx hb hts ii_X12_go hown hK hP 0 rfl rfl 5 (by decide) (hts _ mm_X12_go_1) (fun _ hh => hh) rfl dX12_go_339 ?_
                  refine zz_top (v := (nI g20)) (by show st37 0 5 = _; rw [hTsx39.1]) ?_
                  refine lv_iconst (v := 1) hx hb dX12_go_342 (by decide) ?_
                  refine lv_iadd hx hb dX12_go_343 ?_
                  refine zz_top (v := nI (g20 + 1)) (nI_add g20 1) ?_
                  refine va_put (D := (dC, dI)) (ci := 11) (v := .int (nI (g20 + 1))) (ty := .int) (C := RX12) (T := TX12) (N := 47) hx hb hts ii_X12_go tyX12 tyX12_ok nmX12 hown hK hP (mD hN _ _ _ _) hS 0 rfl rfl 5 (by decide) (hts _ mm_X12_go_1) (fun _ hh => hh) rfl (by decide +kernel) rfl rfl (Nat.le_of_ble_eq_true rfl) dX12_go_344 (fun H locs hP _ hS => ?_)
                  have hP : va_P (dC, dI) vwCl (mw ar cy (up2 st37 0 5 (nI (g20 + 1))) sl38) H := hP
                  obtain ⟨st41, est41⟩ : ∃ y, y = up2 st37 0 5 (nI (g20 + 1)) := ⟨_, rfl⟩
                  have hG : MG [1, 2, 3, 6, 7, 8, 9, 10, 11, 12, 13, 14, 15, 16, 19, 20, 21, 22, 23] st st41 := by rw [est41]; exact hG.up (rn (n := (g20 + 1)) (by decide : mr 0 5 = 941) (by omega)) (pn (by decide : pcl 0 5 = 4) (by decide))
                  rw [← est41] at hP
                  refine lv_goto (tgt := 215) hx hb dX12_go_347 (by decide) ?_
                  exact ih21 (gb - (g20 + 1)) _ _ _ _ (by omega) ⟨z27, st41, sl38, (g20 + 1), rfl, ⟨by rw [est41, up2_same], by rw [est41, up2_ne (r := 0) (k := 5) (a := 0) (j := 3) _ _ (by omega), hTsx39.2.1], by omega, by omega⟩, by omega, hP, hG, hL, hS, lv_sub hl [0, 2, 3, 4] rfl, rfl⟩
                refine lv_icmp_ge (tgt := 337) hx hb dX12_go_317 (by decide) (fun c3 => ?_) (fun c3 => ?_)
                · exact kj40 _ _ _ _ ⟨st31, sl32, ⟨by rw [hTsx33.1], by rw [hTsx33.2.1], by omega, by omega⟩, by omega, hP, hG, hL, hS, lv_sub hl [0, 1, 2, 3, 4] rfl, rfl⟩
                · refine lv_aload_n hx hb dX12_go_320 rfl (lv_at hl 4 rfl) ?_
                  refine lv_bipush (v := 10) hx hb dX12_go_321 (by decide) ?_
                  refine lv_aload_n hx hb dX12_go_323 rfl (lv_at hl 4 rfl) ?_
                  refine va_get (D := (dC, dI)) (ci := 11) (v := .int (st31 0 8)) (C := RX12) (T := TX12) (N := 47) hx hb hts ii_X12_go hown hK hP 0 rfl rfl 8 (by decide) (hts _ mm_X12_go_9) (fun _ hh => hh) rfl dX12_go_324 ?_
                  refine lv_topi (fun z42 ez42 => ?_)
                  refine lv_imul hx hb dX12_go_327 ?_
                  refine lv_topi (fun z43 ez43 => ?_)
                  refine lv_iload hx hb dX12_go_328 (lv_at hl 1 rfl) ?_
                  refine lv_iadd hx hb dX12_go_330 ?_
                  refine lv_topi (fun z44 ez44 => ?_)
                  refine lv_bipush (v := 48) hx hb dX12_go_331 (by decide) ?_
                  refine lv_isub hx hb dX12_go_333 ?_
                  refine lv_topi (fun z45 ez45 => ?_)
                  refine va_put (D := (dC, dI)) (ci := 11) (v := .int z45) (ty := .int) (C := RX12) (T := TX12) (N := 47) hx hb hts ii_X12_go tyX12 tyX12_ok nmX12 hown hK hP (mD hN _ _ _ _) hS 0 rfl rfl 8 (by decide) (hts _ mm_X12_go_9) (fun _ hh => hh) rfl (by decide +kernel) rfl rfl (Nat.le_of_ble_eq_true rfl) dX12_go_334 (fun H locs hP _ hS => ?_)
                  have hP : va_P (dC, dI) vwCl (mw ar cy (up2 st31 0 8 z45) sl32) H := hP
                  obtain ⟨st46, est46⟩ : ∃ y, y = up2 st31 0 8 z45 := ⟨_, rfl⟩
                  have hG : MG [1, 2, 3, 6, 7, 8, 9, 10, 11, 12, 13, 14, 15, 16, 19, 20, 21, 22, 23] st st46 := by rw [est46]; exact hG.up (rz (by decide : mr 0 8 = 0)) (pn (by decide : pcl 0 8 = 0) (by decide))
                  rw [← est46] at hP
                  exact kj40 _ _ _ _ ⟨st46, sl32, ⟨by rw [est46, up2_ne (r := 0) (k := 8) (a := 0) (j := 5) _ _ (by omega), hTsx33.1], by rw [est46, up2_ne (r := 0) (k := 8) (a := 0) (j := 3) _ _ (by omega), hTsx33.2.1], by omega, by omega⟩, by omega, hP, hG, hL, hS, lv_sub hl [0, 1, 2, 3, 4] rfl, rfl⟩
              refine lv_icmp_ge (tgt := 307) hx hb dX12_go_284 (by decide) (fun c4 => ?_) (fun c4 => ?_)
              · exact kj34 _ _ _ _ ⟨st18, sl19, ⟨by rw [hTg20.1], by rw [hTg20.2.1], by omega, by omega⟩, by omega, hP, hG, hL, hS, lv_sub hl [0, 1, 2, 3, 4] rfl, rfl⟩
              · refine lv_aload_n hx hb dX12_go_287 rfl (lv_at hl 4 rfl) ?_
                refine lv_ldc2 (v := 27) hx hb hown (hts _ mm_X12_go_10) dX12_go_288 ?_
                refine lv_aload_n hx hb dX12_go_291 rfl (lv_at hl 4 rfl) ?_
                refine va_get (D := (dC, dI)) (ci := 11) (v := .long (sl19 0 12)) (C := RX12) (T := TX12) (N := 47) hx hb hts ii_X12_go hown hK hP 0 rfl rfl 12 (by decide) (hts _ mm_X12_go_8) (fun _ hh => hh) rfl dX12_go_292 ?_
                refine lv_topl (fun z47 ez47 => ?_)
                clear ez47
                refine lv_lmul hx hb dX12_go_295 ?_
                refine lv_topl (fun z48 ez48 => ?_)
                clear ez48
                refine lv_iload hx hb dX12_go_296 (lv_at hl 1 rfl) ?_
                refine lv_i2l hx hb dX12_go_298 rfl ?_
                refine lv_topl (fun z49 ez49 => ?_)
                clear ez49
                refine lv_ladd hx hb dX12_go_299 ?_
                refine lv_topl (fun z50 ez50 => ?_)
                clear ez50
                refine lv_ldc2 (v := 96) hx hb hown (hts _ mm_X12_go_11) dX12_go_300 ?_
                refine lv_lsub hx hb dX12_go_303 ?_
                refine lv_topl (fun z51 ez51 => ?_)
                clear ez51
                refine va_put (D := (dC, dI)) (ci := 11) (v := .long z51) (ty := .long) (C := RX12) (T := TX12) (N := 47) hx hb hts ii_X12_go tyX12 tyX12_ok nmX12 hown hK hP (mD hN _ _ _ _) hS 0 rfl rfl 12 (by decide) (hts _ mm_X12_go_8) (fun _ hh => hh) rfl (by decide +kernel) rfl rfl (Nat.le_of_ble_eq_true rfl) dX12_go_304 (fun H locs hP _ hS => ?_)
                have hP : va_P (dC, dI) vwCl (mw ar cy st18 (upL sl19 0 12 z51)) H := hP
                obtain ⟨sl52, esl52⟩ : ∃ y, y = upL sl19 0 12 z51 := ⟨_, rfl⟩
                rw [← esl52] at hP
                have hL : LQ [7, 9] sl sl52 := by rw [esl52]; exact hL.up (by decide)
                clear esl52
                exact kj34 _ _ _ _ ⟨st18, sl52, ⟨by rw [hTg20.1], by rw [hTg20.2.1], by omega, by omega⟩, by omega, hP, hG, hL, hS, lv_sub hl [0, 1, 2, 3, 4] rfl, rfl⟩
            refine lv_iload_n hx hb dX12_go_254 rfl (lv_at hl 1 rfl) ?_
            refine lv_if_eq (tgt := 271) hx hb dX12_go_255 (by decide) (fun c5 => ?_) (fun c5 => ?_)
            · refine lv_iconst (v := 0) hx hb dX12_go_271 (by decide) ?_
              exact kj28 _ _ _ _ ⟨0, hP, hS, lv_sub hl [0, 1, 2, 3, 4] rfl, rfl⟩
            · refine lv_iload hx hb dX12_go_258 (lv_at hl 0 rfl) ?_
              refine va_calli (va_runS (As := [.int z26]) (rest := []) ⟨hx, hb, hml, hown, hts⟩ (m_isLetterA l dC dI ar cy _ hN st18 sl19 z26  hG.1) (va_cwS 1 hts gX12_go_X12_isLetter rfl rfl rfl (by decide +kernel) ⟨Nat.le_of_ble_eq_true rfl, Nat.le_of_ble_eq_true rfl⟩) ⟨fun a U g mk q => ⟨q.1, mPre.blind q.2⟩, fun U hU hW => ⟨rfl, mPre.of hP hK hU hW⟩⟩ rfl rfl hl.1 rfl (lv_room (Nat.le_of_ble_eq_true rfl)) dX12_go_260 ⟨Nat.le_of_ble_eq_true rfl, Nat.le_of_ble_eq_true rfl⟩) hS (fun q _ h => MA.le hS.1 q h) (MA.le hS.1) (fun r53 x t H locs ht hvm hw hB _ _ hS => ?_)
              have hP := mB.at ht hB
              clear hB ht hvm
              obtain ⟨rfl, hw⟩ := hw
              have hP : va_P (dC, dI) vwCl (mw ar cy st18 sl19) _ := hP
              clear hw
              refine lv_iload_n hx hb dX12_go_263 rfl (lv_at hl 2 rfl) ?_
              refine lv_icmp_ne (tgt := 271) hx hb dX12_go_264 (by decide) (fun c6 => ?_) (fun c6 => ?_)
              · refine lv_iconst (v := 0) hx hb dX12_go_271 (by decide) ?_
                exact kj28 _ _ _ _ ⟨0, hP, hS, lv_sub hl [0, 1, 2, 3, 4] rfl, rfl⟩
              · refine lv_iconst (v := 1) hx hb dX12_go_267 (by decide) ?_
                refine lv_goto (tgt := 272) hx hb dX12_go_268 (by decide) ?_
                exact kj28 _ _ _ _ ⟨1, hP, hS, lv_sub hl [0, 1, 2, 3, 4] rfl, rfl⟩
          · refine lv_if_ne (tgt := 243) hx hb dX12_go_226 (by decide) (fun cc => absurd (by decide) cc) (fun _ => ?_)
            refine lv_aload_n hx hb dX12_go_229 rfl (lv_at hl 3 rfl) ?_
            refine lv_aload_n hx hb dX12_go_230 rfl (lv_at hl 3 rfl) ?_
            refine va_get (D := (dC, dI)) (ci := 11) (v := .int (st18 0 5)) (C := RX12) (T := TX12) (N := 47) hx hb hts ii_X12_go hown hK hP 0 rfl rfl 5 (by decide) (hts _ mm_X12_go_1) (fun _ hh => hh) rfl dX12_go_231 ?_
            refine zz_top (v := (nI g20)) (by show st18 0 5 = _; rw [hTg20.1]) ?_
            refine va_calli (va_runV (As := [.int (nI g20)]) (rest := []) ⟨hx, hb, hml, hown, hts⟩ (m_tapeAt l dC dI ar cy _ hN st18 sl19 g20 g20 gb (by omega) hG.1 ((⟨by rw [hTg20.1], by rw [hTg20.2.1], by omega, by omega⟩ : TS st18 g20 gb))) (cwV 1 hts gX12_go_X12_tapeAt rfl rfl rfl (by decide +kernel) ⟨Nat.le_of_ble_eq_true rfl, Nat.le_of_ble_eq_true rfl⟩) ⟨fun a U g mk q => ⟨q.1, mPre.blind q.2⟩, va_recv hK hP (ci := 11) (q0 := 0) rfl rfl, fun U hU hW => ⟨rfl, mPre.of hP hK hU hW⟩⟩ rfl rfl hl.1 rfl (lv_room (Nat.le_of_ble_eq_true rfl)) dX12_go_234 ⟨Nat.le_of_ble_eq_true rfl, Nat.le_of_ble_eq_true rfl⟩) hS (fun q _ h => MA.le hS.1 q h) (MA.le hS.1) (fun r54 x t H locs ht hvm hw hB _ _ hS => ?_)
            have hP := mB.at ht hB
            clear hB ht hvm
            obtain ⟨rfl, hw⟩ := hw
            have hP : va_P (dC, dI) vwCl (mw ar cy st18 sl19) _ := hP
            have hf55 := hw
            refine va_calli (va_runS (As := [.int r54]) (rest := []) ⟨hx, hb, hml, hown, hts⟩ (m_isDigit l dC dI ar cy _ hN st18 sl19 r54  hG.1) (va_cwS 1 hts gX12_go_X12_isDigit rfl rfl rfl (by decide +kernel) ⟨Nat.le_of_ble_eq_true rfl, Nat.le_of_ble_eq_true rfl⟩) ⟨fun a U g mk q => ⟨q.1, mPre.blind q.2⟩, fun U hU hW => ⟨rfl, mPre.of hP hK hU hW⟩⟩ rfl rfl hl.1 rfl (lv_room (Nat.le_of_ble_eq_true rfl)) dX12_go_237 ⟨Nat.le_of_ble_eq_true rfl, Nat.le_of_ble_eq_true rfl⟩) hS (fun q _ h => MA.le hS.1 q h) (MA.le hS.1) (fun r56 x t H locs ht hvm hw hB _ _ hS => ?_)
            have hP := mB.at ht hB
            clear hB ht hvm
            obtain ⟨rfl, hw⟩ := hw
            have hP : va_P (dC, dI) vwCl (mw ar cy st18 sl19) _ := hP
            rcases hw with ⟨rfl, hf57⟩ | rfl
            · have hlt57 := zz_tape hf55 hf57 (by decide)
              refine lv_if_eq (tgt := 350) hx hb dX12_go_240 (by decide) (fun cc => absurd cc (by decide)) (fun _ => ?_)
              refine lv_aload_n hx hb dX12_go_243 rfl (lv_at hl 3 rfl) ?_
              refine va_get (D := (dC, dI)) (ci := 11) (v := .ref (ar 1)) (C := RX12) (T := TX12) (N := 47) hx hb hts ii_X12_go hown hK hP 0 rfl rfl 1 (by decide) (hts _ mm_X12_go_3) (fun _ hh => hh) rfl dX12_go_244 ?_
              refine lv_aload_n hx hb dX12_go_247 rfl (lv_at hl 3 rfl) ?_
              refine va_get (D := (dC, dI)) (ci := 11) (v := .int (st18 0 5)) (C := RX12) (T := TX12) (N := 47) hx hb hts ii_X12_go hown hK hP 0 rfl rfl 5 (by decide) (hts _ mm_X12_go_1) (fun _ hh => hh) rfl dX12_go_248 ?_
              refine zz_top (v := (nI g20)) (by show st18 0 5 = _; rw [hTg20.1]) ?_
              refine va_iald hx hb hK hP 1 0 rfl rfl (i := (nI g20)) (vp_in_nI (by omega) (by decide)) dX12_go_251 ?_
              refine lv_topi (fun z58 ez58 => ?_)
              refine lv_istore (lv' := [(4, .int z58), (3, .int z17), (2, .int r14), (1, .int z12), (0, .ref (ar 0))]) hx hb dX12_go_252 hl (by decide) rfl (fun ls hl => ?_)
              refine zz_join (pcJ := 272) (fun stk H locs ls => ∃ z59 : Int32, va_P (dC, dI) vwCl (mw ar cy st18 sl19) H ∧ va_S (MA ar s.heap.size) s.heap H locs ∧ lv_has ls 5 [(4, .int z58), (3, .int z17), (2, .int r14), (1, .int z12), (0, .ref (ar 0))] ∧ stk = [.int z59]) ?_ (fun kj60 => ?_)
              · rintro stk H locs ls ⟨z59, hP, hS, hl, rfl⟩
                refine lv_istore_n (lv' := [(3, .int z59), (4, .int z58), (2, .int r14), (1, .int z12), (0, .ref (ar 0))]) hx hb dX12_go_272 rfl hl (by decide) rfl (fun ls hl => ?_)
                refine lv_aload_n hx hb dX12_go_273 rfl (lv_at hl 4 rfl) ?_
                refine va_get (D := (dC, dI)) (ci := 11) (v := .int (st18 0 5)) (C := RX12) (T := TX12) (N := 47) hx hb hts ii_X12_go hown hK hP 0 rfl rfl 5 (by decide) (hts _ mm_X12_go_1) (fun _ hh => hh) rfl dX12_go_274 ?_
                refine zz_top (v := (nI g20)) (by show st18 0 5 = _; rw [hTg20.1]) ?_
                refine lv_aload_n hx hb dX12_go_277 rfl (lv_at hl 4 rfl) ?_
                refine va_get (D := (dC, dI)) (ci := 11) (v := .int (st18 0 6)) (C := RX12) (T := TX12) (N := 47) hx hb hts ii_X12_go hown hK hP 0 rfl rfl 6 (by decide) (hts _ mm_X12_go_4) (fun _ hh => hh) rfl dX12_go_278 ?_
                refine lv_topi (fun z61 ez61 => ?_)
                refine lv_isub hx hb dX12_go_281 ?_
                refine lv_topi (fun z62 ez62 => ?_)
                refine lv_bipush (v := 7) hx hb dX12_go_282 (by decide) ?_
                refine zz_join (pcJ := 307) (fun stk H locs ls => ∃ st63 : Nat → Nat → Int32, ∃ sl64 : Nat → Nat → Int64, TS st63 g20 gb ∧ ga ≤ g20 ∧ va_P (dC, dI) vwCl (mw ar cy st63 sl64) H ∧ MG [1, 2, 3, 6, 7, 8, 9, 10, 11, 12, 13, 14, 15, 16, 19, 20, 21, 22, 23] st st63 ∧ LQ [7, 9] sl sl64 ∧ va_S (MA ar s.heap.size) s.heap H locs ∧ lv_has ls 5 [(3, .int z59), (4, .int z58), (2, .int r14), (1, .int z12), (0, .ref (ar 0))] ∧ stk = []) ?_ (fun kj66 => ?_)
                · rintro stk H locs ls ⟨st63, sl64, hTsx65, hTsx65g, hP, hG, hL, hS, hl, rfl⟩
                  have hTsx65c := hTsx65.2.2.1
                  have hTsx65d := hTsx65.2.2.2
                  refine lv_aload_n hx hb dX12_go_307 rfl (lv_at hl 4 rfl) ?_
                  refine va_get (D := (dC, dI)) (ci := 11) (v := .int (st63 0 5)) (C := RX12) (T := TX12) (N := 47) hx hb hts ii_X12_go hown hK hP 0 rfl rfl 5 (by decide) (hts _ mm_X12_go_1) (fun _ hh => hh) rfl dX12_go_308 ?_
                  refine zz_top (v := (nI g20)) (by show st63 0 5 = _; rw [hTsx65.1]) ?_
                  refine lv_aload_n hx hb dX12_go_311 rfl (lv_at hl 4 rfl) ?_
                  refine va_get (D := (dC, dI)) (ci := 11) (v := .int (st63 0 6)) (C := RX12) (T := TX12) (N := 47) hx hb hts ii_X12_go hown hK hP 0 rfl rfl 6 (by decide) (hts _ mm_X12_go_4) (fun _ hh => hh) rfl dX12_go_312 ?_
                  refine lv_topi (fun z67 ez67 => ?_)
                  refine lv_isub hx hb dX12_go_315 ?_
                  refine lv_topi (fun z68 ez68 => ?_)
                  refine lv_iconst (v := 3) hx hb dX12_go_316 (by decide) ?_
                  refine zz_join (pcJ := 337) (fun stk H locs ls => ∃ st69 : Nat → Nat → Int32, ∃ sl70 : Nat → Nat → Int64, TS st69 g20 gb ∧ ga ≤ g20 ∧ va_P (dC, dI) vwCl (mw ar cy st69 sl70) H ∧ MG [1, 2, 3, 6, 7, 8, 9, 10, 11, 12, 13, 14, 15, 16, 19, 20, 21, 22, 23] st st69 ∧ LQ [7, 9] sl sl70 ∧ va_S (MA ar s.heap.size) s.heap H locs ∧ lv_has ls 5 [(3, .int z59), (4, .int z58), (2, .int r14), (1, .int z12), (0, .ref (ar 0))] ∧ stk = []) ?_ (fun kj72 => ?_)
                  · rintro stk H locs ls ⟨st69, sl70, hTsx71, hTsx71g, hP, hG, hL, hS, hl, rfl⟩
                    have hTsx71c := hTsx71.2.2.1
                    have hTsx71d := hTsx71.2.2.2
                    refine lv_aload_n hx hb dX12_go_337 rfl (lv_at hl 4 rfl) ?_
                    refine lv_dup hx hb dX12_go_338 rfl ?_
                    refine va_get (D := (dC, dI)) (ci := 11) (v := .int (st69 0 5)) (C := RX12) (T := TX12) (N := 47) hx hb hts ii_X12_go hown hK hP 0 rfl rfl 5 (by decide) (hts _ mm_X12_go_1) (fun _ hh => hh) rfl dX12_go_339 ?_
                    refine zz_top (v := (nI g20)) (by show st69 0 5 = _; rw [hTsx71.1]) ?_
                    refine lv_iconst (v := 1) hx hb dX12_go_342 (by decide) ?_
                    refine lv_iadd hx hb dX12_go_343 ?_
                    refine zz_top (v := nI (g20 + 1)) (nI_add g20 1) ?_
                    refine va_put (D := (dC, dI)) (ci := 11) (v := .int (nI (g20 + 1))) (ty := .int) (C := RX12) (T := TX12) (N := 47) hx hb hts ii_X12_go tyX12 tyX12_ok nmX12 hown hK hP (mD hN _ _ _ _) hS 0 rfl rfl 5 (by decide) (hts _ mm_X12_go_1) (fun _ hh => hh) rfl (by decide +kernel) rfl rfl (Nat.le_of_ble_eq_true rfl) dX12_go_344 (fun H locs hP _ hS => ?_)
                    have hP : va_P (dC, dI) vwCl (mw ar cy (up2 st69 0 5 (nI (g20 + 1))) sl70) H := hP
                    obtain ⟨st73, est73⟩ : ∃ y, y = up2 st69 0 5 (nI (g20 + 1)) := ⟨_, rfl⟩
                    have hG : MG [1, 2, 3, 6, 7, 8, 9, 10, 11, 12, 13, 14, 15, 16, 19, 20, 21, 22, 23] st st73 := by rw [est73]; exact hG.up (rn (n := (g20 + 1)) (by decide : mr 0 5 = 941) (by omega)) (pn (by decide : pcl 0 5 = 4) (by decide))
                    rw [← est73] at hP
                    refine lv_goto (tgt := 215) hx hb dX12_go_347 (by decide) ?_
                    exact ih21 (gb - (g20 + 1)) _ _ _ _ (by omega) ⟨z59, st73, sl70, (g20 + 1), rfl, ⟨by rw [est73, up2_same], by rw [est73, up2_ne (r := 0) (k := 5) (a := 0) (j := 3) _ _ (by omega), hTsx71.2.1], by omega, by omega⟩, by omega, hP, hG, hL, hS, lv_sub hl [0, 2, 3, 4] rfl, rfl⟩
                  refine lv_icmp_ge (tgt := 337) hx hb dX12_go_317 (by decide) (fun c9 => ?_) (fun c9 => ?_)
                  · exact kj72 _ _ _ _ ⟨st63, sl64, ⟨by rw [hTsx65.1], by rw [hTsx65.2.1], by omega, by omega⟩, by omega, hP, hG, hL, hS, lv_sub hl [0, 1, 2, 3, 4] rfl, rfl⟩
                  · refine lv_aload_n hx hb dX12_go_320 rfl (lv_at hl 4 rfl) ?_
                    refine lv_bipush (v := 10) hx hb dX12_go_321 (by decide) ?_
                    refine lv_aload_n hx hb dX12_go_323 rfl (lv_at hl 4 rfl) ?_
                    refine va_get (D := (dC, dI)) (ci := 11) (v := .int (st63 0 8)) (C := RX12) (T := TX12) (N := 47) hx hb hts ii_X12_go hown hK hP 0 rfl rfl 8 (by decide) (hts _ mm_X12_go_9) (fun _ hh => hh) rfl dX12_go_324 ?_
                    refine lv_topi (fun z74 ez74 => ?_)
                    refine lv_imul hx hb dX12_go_327 ?_
                    refine lv_topi (fun z75 ez75 => ?_)
                    refine lv_iload hx hb dX12_go_328 (lv_at hl 1 rfl) ?_
                    refine lv_iadd hx hb dX12_go_330 ?_
                    refine lv_topi (fun z76 ez76 => ?_)
                    refine lv_bipush (v := 48) hx hb dX12_go_331 (by decide) ?_
                    refine lv_isub hx hb dX12_go_333 ?_
                    refine lv_topi (fun z77 ez77 => ?_)
                    refine va_put (D := (dC, dI)) (ci := 11) (v := .int z77) (ty := .int) (C := RX12) (T := TX12) (N := 47) hx hb hts ii_X12_go tyX12 tyX12_ok nmX12 hown hK hP (mD hN _ _ _ _) hS 0 rfl rfl 8 (by decide) (hts _ mm_X12_go_9) (fun _ hh => hh) rfl (by decide +kernel) rfl rfl (Nat.le_of_ble_eq_true rfl) dX12_go_334 (fun H locs hP _ hS => ?_)
                    have hP : va_P (dC, dI) vwCl (mw ar cy (up2 st63 0 8 z77) sl64) H := hP
                    obtain ⟨st78, est78⟩ : ∃ y, y = up2 st63 0 8 z77 := ⟨_, rfl⟩
                    have hG : MG [1, 2, 3, 6, 7, 8, 9, 10, 11, 12, 13, 14, 15, 16, 19, 20, 21, 22, 23] st st78 := by rw [est78]; exact hG.up (rz (by decide : mr 0 8 = 0)) (pn (by decide : pcl 0 8 = 0) (by decide))
                    rw [← est78] at hP
                    exact kj72 _ _ _ _ ⟨st78, sl64, ⟨by rw [est78, up2_ne (r := 0) (k := 8) (a := 0) (j := 5) _ _ (by omega), hTsx65.1], by rw [est78, up2_ne (r := 0) (k := 8) (a := 0) (j := 3) _ _ (by omega), hTsx65.2.1], by omega, by omega⟩, by omega, hP, hG, hL, hS, lv_sub hl [0, 1, 2, 3, 4] rfl, rfl⟩
                refine lv_icmp_ge (tgt := 307) hx hb dX12_go_284 (by decide) (fun c10 => ?_) (fun c10 => ?_)
                · exact kj66 _ _ _ _ ⟨st18, sl19, ⟨by rw [hTg20.1], by rw [hTg20.2.1], by omega, by omega⟩, by omega, hP, hG, hL, hS, lv_sub hl [0, 1, 2, 3, 4] rfl, rfl⟩
                · refine lv_aload_n hx hb dX12_go_287 rfl (lv_at hl 4 rfl) ?_
                  refine lv_ldc2 (v := 27) hx hb hown (hts _ mm_X12_go_10) dX12_go_288 ?_
                  refine lv_aload_n hx hb dX12_go_291 rfl (lv_at hl 4 rfl) ?_
                  refine va_get (D := (dC, dI)) (ci := 11) (v := .long (sl19 0 12)) (C := RX12) (T := TX12) (N := 47) hx hb hts ii_X12_go hown hK hP 0 rfl rfl 12 (by decide) (hts _ mm_X12_go_8) (fun _ hh => hh) rfl dX12_go_292 ?_
                  refine lv_topl (fun z79 ez79 => ?_)
                  clear ez79
                  refine lv_lmul hx hb dX12_go_295 ?_
                  refine lv_topl (fun z80 ez80 => ?_)
                  clear ez80
                  refine lv_iload hx hb dX12_go_296 (lv_at hl 1 rfl) ?_
                  refine lv_i2l hx hb dX12_go_298 rfl ?_
                  refine lv_topl (fun z81 ez81 => ?_)
                  clear ez81
                  refine lv_ladd hx hb dX12_go_299 ?_
                  refine lv_topl (fun z82 ez82 => ?_)
                  clear ez82
                  refine lv_ldc2 (v := 96) hx hb hown (hts _ mm_X12_go_11) dX12_go_300 ?_
                  refine lv_lsub hx hb dX12_go_303 ?_
                  refine lv_topl (fun z83 ez83 => ?_)
                  clear ez83
                  refine va_put (D := (dC, dI)) (ci := 11) (v := .long z83) (ty := .long) (C := RX12) (T := TX12) (N := 47) hx hb hts ii_X12_go tyX12 tyX12_ok nmX12 hown hK hP (mD hN _ _ _ _) hS 0 rfl rfl 12 (by decide) (hts _ mm_X12_go_8) (fun _ hh => hh) rfl (by decide +kernel) rfl rfl (Nat.le_of_ble_eq_true rfl) dX12_go_304 (fun H locs hP _ hS => ?_)
                  have hP : va_P (dC, dI) vwCl (mw ar cy st18 (upL sl19 0 12 z83)) H := hP
                  obtain ⟨sl84, esl84⟩ : ∃ y, y = upL sl19 0 12 z83 := ⟨_, rfl⟩
                  rw [← esl84] at hP
                  have hL : LQ [7, 9] sl sl84 := by rw [esl84]; exact hL.up (by decide)
                  clear esl84
                  exact kj66 _ _ _ _ ⟨st18, sl84, ⟨by rw [hTg20.1], by rw [hTg20.2.1], by omega, by omega⟩, by omega, hP, hG, hL, hS, lv_sub hl [0, 1, 2, 3, 4] rfl, rfl⟩
              refine lv_iload_n hx hb dX12_go_254 rfl (lv_at hl 1 rfl) ?_
              refine lv_if_eq (tgt := 271) hx hb dX12_go_255 (by decide) (fun c11 => ?_) (fun c11 => ?_)
              · refine lv_iconst (v := 0) hx hb dX12_go_271 (by decide) ?_
                exact kj60 _ _ _ _ ⟨0, hP, hS, lv_sub hl [0, 1, 2, 3, 4] rfl, rfl⟩
              · refine lv_iload hx hb dX12_go_258 (lv_at hl 0 rfl) ?_
                refine va_calli (va_runS (As := [.int z58]) (rest := []) ⟨hx, hb, hml, hown, hts⟩ (m_isLetterA l dC dI ar cy _ hN st18 sl19 z58  hG.1) (va_cwS 1 hts gX12_go_X12_isLetter rfl rfl rfl (by decide +kernel) ⟨Nat.le_of_ble_eq_true rfl, Nat.le_of_ble_eq_true rfl⟩) ⟨fun a U g mk q => ⟨q.1, mPre.blind q.2⟩, fun U hU hW => ⟨rfl, mPre.of hP hK hU hW⟩⟩ rfl rfl hl.1 rfl (lv_room (Nat.le_of_ble_eq_true rfl)) dX12_go_260 ⟨Nat.le_of_ble_eq_true rfl, Nat.le_of_ble_eq_true rfl⟩) hS (fun q _ h => MA.le hS.1 q h) (MA.le hS.1) (fun r85 x t H locs ht hvm hw hB _ _ hS => ?_)
                have hP := mB.at ht hB
                clear hB ht hvm
                obtain ⟨rfl, hw⟩ := hw
                have hP : va_P (dC, dI) vwCl (mw ar cy st18 sl19) _ := hP
                clear hw
                refine lv_iload_n hx hb dX12_go_263 rfl (lv_at hl 2 rfl) ?_
                refine lv_icmp_ne (tgt := 271) hx hb dX12_go_264 (by decide) (fun c12 => ?_) (fun c12 => ?_)
                · refine lv_iconst (v := 0) hx hb dX12_go_271 (by decide) ?_
                  exact kj60 _ _ _ _ ⟨0, hP, hS, lv_sub hl [0, 1, 2, 3, 4] rfl, rfl⟩
                · refine lv_iconst (v := 1) hx hb dX12_go_267 (by decide) ?_
                  refine lv_goto (tgt := 272) hx hb dX12_go_268 (by decide) ?_
                  exact kj60 _ _ _ _ ⟨1, hP, hS, lv_sub hl [0, 1, 2, 3, 4] rfl, rfl⟩
            · refine lv_if_eq (tgt := 350) hx hb dX12_go_240 (by decide) (fun _ => ?_) (fun cc => absurd (by decide) cc)
              refine lv_aload_n hx hb dX12_go_350 rfl (lv_at hl 3 rfl) ?_
              refine lv_iload_n hx hb dX12_go_351 rfl (lv_at hl 0 rfl) ?_
              refine lv_if_eq (tgt := 377) hx hb dX12_go_352 (by decide) (fun c14 => ?_) (fun c14 => ?_)
              · refine lv_iconst (v := 1) hx hb dX12_go_377 (by decide) ?_
                refine lv_goto (tgt := 390) hx hb dX12_go_378 (by decide) ?_
                refine va_put (D := (dC, dI)) (ci := 11) (v := .int 1) (ty := .int) (C := RX12) (T := TX12) (N := 47) hx hb hts ii_X12_go tyX12 tyX12_ok nmX12 hown hK hP (mD hN _ _ _ _) hS 0 rfl rfl 7 (by decide) (hts _ mm_X12_go_6) (fun _ hh => hh) rfl (by decide +kernel) rfl rfl (Nat.le_of_ble_eq_true rfl) dX12_go_390 (fun H locs hP _ hS => ?_)
                have hP : va_P (dC, dI) vwCl (mw ar cy (up2 st18 0 7 1) sl19) H := hP
                obtain ⟨st86, est86⟩ : ∃ y, y = up2 st18 0 7 1 := ⟨_, rfl⟩
                have hG : MG [1, 2, 3, 6, 7, 8, 9, 10, 11, 12, 13, 14, 15, 16, 19, 20, 21, 22, 23] st st86 := by rw [est86]; exact hG.up (rz (by decide : mr 0 7 = 0)) (pn (by decide : pcl 0 7 = 5) (by decide))
                rw [← est86] at hP
                exact W.vret hx hb hr (fun t ht hW => ⟨⟨(st86, sl19), rfl, ⟨hG, hL, ⟨g20, (show TS st86 g20 gb from ⟨by rw [est86, up2_ne (r := 0) (k := 7) (a := 0) (j := 5) _ _ (by omega), hTg20.1], by rw [est86, up2_ne (r := 0) (k := 7) (a := 0) (j := 3) _ _ (by omega), hTg20.2.1], by omega, by omega⟩), by omega, fun (hh : st86 0 7 = 4) => absurd ((show st86 0 7 = 1 by rw [est86, up2_same]).symm.trans hh) (by decide)⟩⟩, mB.of ht hP⟩, hS.F ht⟩) hS.2.2 dX12_go_393
              · refine lv_aload_n hx hb dX12_go_355 rfl (lv_at hl 3 rfl) ?_
                refine va_get (D := (dC, dI)) (ci := 11) (v := .int (st18 0 5)) (C := RX12) (T := TX12) (N := 47) hx hb hts ii_X12_go hown hK hP 0 rfl rfl 5 (by decide) (hts _ mm_X12_go_1) (fun _ hh => hh) rfl dX12_go_356 ?_
                refine zz_top (v := (nI g20)) (by show st18 0 5 = _; rw [hTg20.1]) ?_
                refine lv_aload_n hx hb dX12_go_359 rfl (lv_at hl 3 rfl) ?_
                refine va_get (D := (dC, dI)) (ci := 11) (v := .int (st18 0 6)) (C := RX12) (T := TX12) (N := 47) hx hb hts ii_X12_go hown hK hP 0 rfl rfl 6 (by decide) (hts _ mm_X12_go_4) (fun _ hh => hh) rfl dX12_go_360 ?_
                refine lv_topi (fun z87 ez87 => ?_)
                refine lv_isub hx hb dX12_go_363 ?_
                refine lv_topi (fun z88 ez88 => ?_)
                refine lv_iload_n hx hb dX12_go_364 rfl (lv_at hl 1 rfl) ?_
                refine lv_if_eq (tgt := 373) hx hb dX12_go_365 (by decide) (fun c15 => ?_) (fun c15 => ?_)
                · refine lv_iconst (v := 3) hx hb dX12_go_373 (by decide) ?_
                  refine lv_icmp_le (tgt := 381) hx hb dX12_go_374 (by decide) (fun c16 => ?_) (fun c16 => ?_)
                  · refine lv_iload_n hx hb dX12_go_381 rfl (lv_at hl 1 rfl) ?_
                    refine lv_if_eq (tgt := 389) hx hb dX12_go_382 (by decide) (fun c17 => ?_) (fun c17 => ?_)
                    · refine lv_iconst (v := 3) hx hb dX12_go_389 (by decide) ?_
                      refine va_put (D := (dC, dI)) (ci := 11) (v := .int 3) (ty := .int) (C := RX12) (T := TX12) (N := 47) hx hb hts ii_X12_go tyX12 tyX12_ok nmX12 hown hK hP (mD hN _ _ _ _) hS 0 rfl rfl 7 (by decide) (hts _ mm_X12_go_6) (fun _ hh => hh) rfl (by decide +kernel) rfl rfl (Nat.le_of_ble_eq_true rfl) dX12_go_390 (fun H locs hP _ hS => ?_)
                      have hP : va_P (dC, dI) vwCl (mw ar cy (up2 st18 0 7 3) sl19) H := hP
                      obtain ⟨st89, est89⟩ : ∃ y, y = up2 st18 0 7 3 := ⟨_, rfl⟩
                      have hG : MG [1, 2, 3, 6, 7, 8, 9, 10, 11, 12, 13, 14, 15, 16, 19, 20, 21, 22, 23] st st89 := by rw [est89]; exact hG.up (rz (by decide : mr 0 7 = 0)) (pn (by decide : pcl 0 7 = 5) (by decide))
                      rw [← est89] at hP
                      exact W.vret hx hb hr (fun t ht hW => ⟨⟨(st89, sl19), rfl, ⟨hG, hL, ⟨g20, (show TS st89 g20 gb from ⟨by rw [est89, up2_ne (r := 0) (k := 7) (a := 0) (j := 5) _ _ (by omega), hTg20.1], by rw [est89, up2_ne (r := 0) (k := 7) (a := 0) (j := 3) _ _ (by omega), hTg20.2.1], by omega, by omega⟩), by omega, fun (hh : st89 0 7 = 4) => absurd ((show st89 0 7 = 3 by rw [est89, up2_same]).symm.trans hh) (by decide)⟩⟩, mB.of ht hP⟩, hS.F ht⟩) hS.2.2 dX12_go_393
                    · refine lv_iconst (v := 2) hx hb dX12_go_385 (by decide) ?_
                      refine lv_goto (tgt := 390) hx hb dX12_go_386 (by decide) ?_
                      refine va_put (D := (dC, dI)) (ci := 11) (v := .int 2) (ty := .int) (C := RX12) (T := TX12) (N := 47) hx hb hts ii_X12_go tyX12 tyX12_ok nmX12 hown hK hP (mD hN _ _ _ _) hS 0 rfl rfl 7 (by decide) (hts _ mm_X12_go_6) (fun _ hh => hh) rfl (by decide +kernel) rfl rfl (Nat.le_of_ble_eq_true rfl) dX12_go_390 (fun H locs hP _ hS => ?_)
                      have hP : va_P (dC, dI) vwCl (mw ar cy (up2 st18 0 7 2) sl19) H := hP
                      obtain ⟨st90, est90⟩ : ∃ y, y = up2 st18 0 7 2 := ⟨_, rfl⟩
                      have hG : MG [1, 2, 3, 6, 7, 8, 9, 10, 11, 12, 13, 14, 15, 16, 19, 20, 21, 22, 23] st st90 := by rw [est90]; exact hG.up (rz (by decide : mr 0 7 = 0)) (pn (by decide : pcl 0 7 = 5) (by decide))
                      rw [← est90] at hP
                      exact W.vret hx hb hr (fun t ht hW => ⟨⟨(st90, sl19), rfl, ⟨hG, hL, ⟨g20, (show TS st90 g20 gb from ⟨by rw [est90, up2_ne (r := 0) (k := 7) (a := 0) (j := 5) _ _ (by omega), hTg20.1], by rw [est90, up2_ne (r := 0) (k := 7) (a := 0) (j := 3) _ _ (by omega), hTg20.2.1], by omega, by omega⟩), by omega, fun (hh : st90 0 7 = 4) => absurd ((show st90 0 7 = 2 by rw [est90, up2_same]).symm.trans hh) (by decide)⟩⟩, mB.of ht hP⟩, hS.F ht⟩) hS.2.2 dX12_go_393
                  · refine lv_iconst (v := 1) hx hb dX12_go_377 (by decide) ?_
                    refine lv_goto (tgt := 390) hx hb dX12_go_378 (by decide) ?_
                    refine va_put (D := (dC, dI)) (ci := 11) (v := .int 1) (ty := .int) (C := RX12) (T := TX12) (N := 47) hx hb hts ii_X12_go tyX12 tyX12_ok nmX12 hown hK hP (mD hN _ _ _ _) hS 0 rfl rfl 7 (by decide) (hts _ mm_X12_go_6) (fun _ hh => hh) rfl (by decide +kernel) rfl rfl (Nat.le_of_ble_eq_true rfl) dX12_go_390 (fun H locs hP _ hS => ?_)
                    have hP : va_P (dC, dI) vwCl (mw ar cy (up2 st18 0 7 1) sl19) H := hP
                    obtain ⟨st91, est91⟩ : ∃ y, y = up2 st18 0 7 1 := ⟨_, rfl⟩
                    have hG : MG [1, 2, 3, 6, 7, 8, 9, 10, 11, 12, 13, 14, 15, 16, 19, 20, 21, 22, 23] st st91 := by rw [est91]; exact hG.up (rz (by decide : mr 0 7 = 0)) (pn (by decide : pcl 0 7 = 5) (by decide))
                    rw [← est91] at hP
                    exact W.vret hx hb hr (fun t ht hW => ⟨⟨(st91, sl19), rfl, ⟨hG, hL, ⟨g20, (show TS st91 g20 gb from ⟨by rw [est91, up2_ne (r := 0) (k := 7) (a := 0) (j := 5) _ _ (by omega), hTg20.1], by rw [est91, up2_ne (r := 0) (k := 7) (a := 0) (j := 3) _ _ (by omega), hTg20.2.1], by omega, by omega⟩), by omega, fun (hh : st91 0 7 = 4) => absurd ((show st91 0 7 = 1 by rw [est91, up2_same]).symm.trans hh) (by decide)⟩⟩, mB.of ht hP⟩, hS.F ht⟩) hS.2.2 dX12_go_393
                · refine lv_bipush (v := 7) hx hb dX12_go_368 (by decide) ?_
                  refine lv_goto (tgt := 374) hx hb dX12_go_370 (by decide) ?_
                  refine lv_icmp_le (tgt := 381) hx hb dX12_go_374 (by decide) (fun c18 => ?_) (fun c18 => ?_)
                  · refine lv_iload_n hx hb dX12_go_381 rfl (lv_at hl 1 rfl) ?_
                    refine lv_if_eq (tgt := 389) hx hb dX12_go_382 (by decide) (fun c19 => ?_) (fun c19 => ?_)
                    · refine lv_iconst (v := 3) hx hb dX12_go_389 (by decide) ?_
                      refine va_put (D := (dC, dI)) (ci := 11) (v := .int 3) (ty := .int) (C := RX12) (T := TX12) (N := 47) hx hb hts ii_X12_go tyX12 tyX12_ok nmX12 hown hK hP (mD hN _ _ _ _) hS 0 rfl rfl 7 (by decide) (hts _ mm_X12_go_6) (fun _ hh => hh) rfl (by decide +kernel) rfl rfl (Nat.le_of_ble_eq_true rfl) dX12_go_390 (fun H locs hP _ hS => ?_)
                      have hP : va_P (dC, dI) vwCl (mw ar cy (up2 st18 0 7 3) sl19) H := hP
                      obtain ⟨st92, est92⟩ : ∃ y, y = up2 st18 0 7 3 := ⟨_, rfl⟩
                      have hG : MG [1, 2, 3, 6, 7, 8, 9, 10, 11, 12, 13, 14, 15, 16, 19, 20, 21, 22, 23] st st92 := by rw [est92]; exact hG.up (rz (by decide : mr 0 7 = 0)) (pn (by decide : pcl 0 7 = 5) (by decide))
                      rw [← est92] at hP
                      exact W.vret hx hb hr (fun t ht hW => ⟨⟨(st92, sl19), rfl, ⟨hG, hL, ⟨g20, (show TS st92 g20 gb from ⟨by rw [est92, up2_ne (r := 0) (k := 7) (a := 0) (j := 5) _ _ (by omega), hTg20.1], by rw [est92, up2_ne (r := 0) (k := 7) (a := 0) (j := 3) _ _ (by omega), hTg20.2.1], by omega, by omega⟩), by omega, fun (hh : st92 0 7 = 4) => absurd ((show st92 0 7 = 3 by rw [est92, up2_same]).symm.trans hh) (by decide)⟩⟩, mB.of ht hP⟩, hS.F ht⟩) hS.2.2 dX12_go_393
                    · refine lv_iconst (v := 2) hx hb dX12_go_385 (by decide) ?_
                      refine lv_goto (tgt := 390) hx hb dX12_go_386 (by decide) ?_
                      refine va_put (D := (dC, dI)) (ci := 11) (v := .int 2) (ty := .int) (C := RX12) (T := TX12) (N := 47) hx hb hts ii_X12_go tyX12 tyX12_ok nmX12 hown hK hP (mD hN _ _ _ _) hS 0 rfl rfl 7 (by decide) (hts _ mm_X12_go_6) (fun _ hh => hh) rfl (by decide +kernel) rfl rfl (Nat.le_of_ble_eq_true rfl) dX12_go_390 (fun H locs hP _ hS => ?_)
                      have hP : va_P (dC, dI) vwCl (mw ar cy (up2 st18 0 7 2) sl19) H := hP
                      obtain ⟨st93, est93⟩ : ∃ y, y = up2 st18 0 7 2 := ⟨_, rfl⟩
                      have hG : MG [1, 2, 3, 6, 7, 8, 9, 10, 11, 12, 13, 14, 15, 16, 19, 20, 21, 22, 23] st st93 := by rw [est93]; exact hG.up (rz (by decide : mr 0 7 = 0)) (pn (by decide : pcl 0 7 = 5) (by decide))
                      rw [← est93] at hP
                      exact W.vret hx hb hr (fun t ht hW => ⟨⟨(st93, sl19), rfl, ⟨hG, hL, ⟨g20, (show TS st93 g20 gb from ⟨by rw [est93, up2_ne (r := 0) (k := 7) (a := 0) (j := 5) _ _ (by omega), hTg20.1], by rw [est93, up2_ne (r := 0) (k := 7) (a := 0) (j := 3) _ _ (by omega), hTg20.2.1], by omega, by omega⟩), by omega, fun (hh : st93 0 7 = 4) => absurd ((show st93 0 7 = 2 by rw [est93, up2_same]).symm.trans hh) (by decide)⟩⟩, mB.of ht hP⟩, hS.F ht⟩) hS.2.2 dX12_go_393
                  · refine lv_iconst (v := 1) hx hb dX12_go_377 (by decide) ?_
                    refine lv_goto (tgt := 390) hx hb dX12_go_378 (by decide) ?_
                    refine va_put (D := (dC, dI)) (ci := 11) (v := .int 1) (ty := .int) (C := RX12) (T := TX12) (N := 47) hx hb hts ii_X12_go tyX12 tyX12_ok nmX12 hown hK hP (mD hN _ _ _ _) hS 0 rfl rfl 7 (by decide) (hts _ mm_X12_go_6) (fun _ hh => hh) rfl (by decide +kernel) rfl rfl (Nat.le_of_ble_eq_true rfl) dX12_go_390 (fun H locs hP _ hS => ?_)
                    have hP : va_P (dC, dI) vwCl (mw ar cy (up2 st18 0 7 1) sl19) H := hP
                    obtain ⟨st94, est94⟩ : ∃ y, y = up2 st18 0 7 1 := ⟨_, rfl⟩
                    have hG : MG [1, 2, 3, 6, 7, 8, 9, 10, 11, 12, 13, 14, 15, 16, 19, 20, 21, 22, 23] st st94 := by rw [est94]; exact hG.up (rz (by decide : mr 0 7 = 0)) (pn (by decide : pcl 0 7 = 5) (by decide))
                    rw [← est94] at hP
                    exact W.vret hx hb hr (fun t ht hW => ⟨⟨(st94, sl19), rfl, ⟨hG, hL, ⟨g20, (show TS st94 g20 gb from ⟨by rw [est94, up2_ne (r := 0) (k := 7) (a := 0) (j := 5) _ _ (by omega), hTg20.1], by rw [est94, up2_ne (r := 0) (k := 7) (a := 0) (j := 3) _ _ (by omega), hTg20.2.1], by omega, by omega⟩), by omega, fun (hh : st94 0 7 = 4) => absurd ((show st94 0 7 = 1 by rw [est94, up2_same]).symm.trans hh) (by decide)⟩⟩, mB.of ht hP⟩, hS.F ht⟩) hS.2.2 dX12_go_393
        refine lv_iload_n hx hb dX12_go_123 rfl (lv_at hl 0 rfl) ?_
        refine va_calli (va_runS (As := [.int z12]) (rest := []) ⟨hx, hb, hml, hown, hts⟩ (m_isLetter l dC dI ar cy _ hN st9 sl6 z12  hG.1) (va_cwS 1 hts gX12_go_X12_isLetter rfl rfl rfl (by decide +kernel) ⟨Nat.le_of_ble_eq_true rfl, Nat.le_of_ble_eq_true rfl⟩) ⟨fun a U g mk q => ⟨q.1, mPre.blind q.2⟩, fun U hU hW => ⟨rfl, mPre.of hP hK hU hW⟩⟩ rfl rfl hl.1 rfl (lv_room (Nat.le_of_ble_eq_true rfl)) dX12_go_124 ⟨Nat.le_of_ble_eq_true rfl, Nat.le_of_ble_eq_true rfl⟩) hS (fun q _ h => MA.le hS.1 q h) (MA.le hS.1) (fun r95 x t H locs ht hvm hw hB _ _ hS => ?_)
        have hP := mB.at ht hB
        clear hB ht hvm
        obtain ⟨rfl, hw⟩ := hw
        have hP : va_P (dC, dI) vwCl (mw ar cy st9 sl6) _ := hP
        rcases hw with ⟨rfl, hf96⟩ | rfl
        · refine lv_if_ne (tgt := 198) hx hb dX12_go_127 (by decide) (fun _ => ?_) (fun cc => absurd cc (by decide))
          exact kj13 _ _ _ _ ⟨hP, hS, lv_sub hl [0, 1] rfl, rfl⟩
        · refine lv_if_ne (tgt := 198) hx hb dX12_go_127 (by decide) (fun cc => absurd (by decide) cc) (fun _ => ?_)
          refine lv_iload_n hx hb dX12_go_130 rfl (lv_at hl 0 rfl) ?_
          refine va_calli (va_runS (As := [.int z12]) (rest := []) ⟨hx, hb, hml, hown, hts⟩ (m_isDigit l dC dI ar cy _ hN st9 sl6 z12  hG.1) (va_cwS 1 hts gX12_go_X12_isDigit rfl rfl rfl (by decide +kernel) ⟨Nat.le_of_ble_eq_true rfl, Nat.le_of_ble_eq_true rfl⟩) ⟨fun a U g mk q => ⟨q.1, mPre.blind q.2⟩, fun U hU hW => ⟨rfl, mPre.of hP hK hU hW⟩⟩ rfl rfl hl.1 rfl (lv_room (Nat.le_of_ble_eq_true rfl)) dX12_go_131 ⟨Nat.le_of_ble_eq_true rfl, Nat.le_of_ble_eq_true rfl⟩) hS (fun q _ h => MA.le hS.1 q h) (MA.le hS.1) (fun r97 x t H locs ht hvm hw hB _ _ hS => ?_)
          have hP := mB.at ht hB
          clear hB ht hvm
          obtain ⟨rfl, hw⟩ := hw
          have hP : va_P (dC, dI) vwCl (mw ar cy st9 sl6) _ := hP
          rcases hw with ⟨rfl, hf98⟩ | rfl
          · refine lv_if_ne (tgt := 198) hx hb dX12_go_134 (by decide) (fun _ => ?_) (fun cc => absurd cc (by decide))
            exact kj13 _ _ _ _ ⟨hP, hS, lv_sub hl [0, 1] rfl, rfl⟩
          · refine lv_if_ne (tgt := 198) hx hb dX12_go_134 (by decide) (fun cc => absurd (by decide) cc) (fun _ => ?_)
            refine lv_aload_n hx hb dX12_go_137 rfl (lv_at hl 1 rfl) ?_
            refine lv_iload_n hx hb dX12_go_138 rfl (lv_at hl 0 rfl) ?_
            refine lv_bipush (v := 59) hx hb dX12_go_139 (by decide) ?_
            refine lv_icmp_eq (tgt := 174) hx hb dX12_go_141 (by decide) (fun c24 => ?_) (fun c24 => ?_)
            · refine lv_iconst (v := 4) hx hb dX12_go_174 (by decide) ?_
              refine lv_goto (tgt := 179) hx hb dX12_go_175 (by decide) ?_
              refine va_put (D := (dC, dI)) (ci := 11) (v := .int 4) (ty := .int) (C := RX12) (T := TX12) (N := 47) hx hb hts ii_X12_go tyX12 tyX12_ok nmX12 hown hK hP (mD hN _ _ _ _) hS 0 rfl rfl 7 (by decide) (hts _ mm_X12_go_6) (fun _ hh => hh) rfl (by decide +kernel) rfl rfl (Nat.le_of_ble_eq_true rfl) dX12_go_179 (fun H locs hP _ hS => ?_)
              have hP : va_P (dC, dI) vwCl (mw ar cy (up2 st9 0 7 4) sl6) H := hP
              obtain ⟨st99, est99⟩ : ∃ y, y = up2 st9 0 7 4 := ⟨_, rfl⟩
              have hG : MG [1, 2, 3, 6, 7, 8, 9, 10, 11, 12, 13, 14, 15, 16, 19, 20, 21, 22, 23] st st99 := by rw [est99]; exact hG.up (rz (by decide : mr 0 7 = 0)) (pn (by decide : pcl 0 7 = 5) (by decide))
              rw [← est99] at hP
              refine lv_aload_n hx hb dX12_go_182 rfl (lv_at hl 1 rfl) ?_
              refine lv_iload_n hx hb dX12_go_183 rfl (lv_at hl 0 rfl) ?_
              refine va_put (D := (dC, dI)) (ci := 11) (v := .int z12) (ty := .int) (C := RX12) (T := TX12) (N := 47) hx hb hts ii_X12_go tyX12 tyX12_ok nmX12 hown hK hP (mD hN _ _ _ _) hS 0 rfl rfl 9 (by decide) (hts _ mm_X12_go_7) (fun _ hh => hh) rfl (by decide +kernel) rfl rfl (Nat.le_of_ble_eq_true rfl) dX12_go_184 (fun H locs hP _ hS => ?_)
              have hP : va_P (dC, dI) vwCl (mw ar cy (up2 st99 0 9 z12) sl6) H := hP
              obtain ⟨st100, est100⟩ : ∃ y, y = up2 st99 0 9 z12 := ⟨_, rfl⟩
              have hG : MG [1, 2, 3, 6, 7, 8, 9, 10, 11, 12, 13, 14, 15, 16, 19, 20, 21, 22, 23] st st100 := by rw [est100]; exact hG.up (rz (by decide : mr 0 9 = 0)) (pn (by decide : pcl 0 9 = 0) (by decide))
              rw [← est100] at hP
              refine lv_aload_n hx hb dX12_go_187 rfl (lv_at hl 1 rfl) ?_
              refine lv_dup hx hb dX12_go_188 rfl ?_
              refine va_get (D := (dC, dI)) (ci := 11) (v := .int (st100 0 5)) (C := RX12) (T := TX12) (N := 47) hx hb hts ii_X12_go hown hK hP 0 rfl rfl 5 (by decide) (hts _ mm_X12_go_1) (fun _ hh => hh) rfl dX12_go_189 ?_
              refine zz_top (v := (nI g7)) (by show st100 0 5 = _; rw [est100, up2_ne (r := 0) (k := 9) (a := 0) (j := 5) _ _ (by omega), est99, up2_ne (r := 0) (k := 7) (a := 0) (j := 5) _ _ (by omega), est9, up2_ne (r := 0) (k := 6) (a := 0) (j := 5) _ _ (by omega), hTg7.1]) ?_
              refine lv_iconst (v := 1) hx hb dX12_go_192 (by decide) ?_
              refine lv_iadd hx hb dX12_go_193 ?_
              refine zz_top (v := nI (g7 + 1)) (nI_add g7 1) ?_
              refine va_put (D := (dC, dI)) (ci := 11) (v := .int (nI (g7 + 1))) (ty := .int) (C := RX12) (T := TX12) (N := 47) hx hb hts ii_X12_go tyX12 tyX12_ok nmX12 hown hK hP (mD hN _ _ _ _) hS 0 rfl rfl 5 (by decide) (hts _ mm_X12_go_1) (fun _ hh => hh) rfl (by decide +kernel) rfl rfl (Nat.le_of_ble_eq_true rfl) dX12_go_194 (fun H locs hP _ hS => ?_)
              have hP : va_P (dC, dI) vwCl (mw ar cy (up2 st100 0 5 (nI (g7 + 1))) sl6) H := hP
              obtain ⟨st101, est101⟩ : ∃ y, y = up2 st100 0 5 (nI (g7 + 1)) := ⟨_, rfl⟩
              have hG : MG [1, 2, 3, 6, 7, 8, 9, 10, 11, 12, 13, 14, 15, 16, 19, 20, 21, 22, 23] st st101 := by rw [est101]; exact hG.up (rn (n := (g7 + 1)) (by decide : mr 0 5 = 941) (by omega)) (pn (by decide : pcl 0 5 = 4) (by decide))
              rw [← est101] at hP
              exact W.vret hx hb hr (fun t ht hW => ⟨⟨(st101, sl6), rfl, ⟨hG, hL, ⟨(g7 + 1), (show TS st101 (g7 + 1) gb from ⟨by rw [est101, up2_same], by rw [est101, up2_ne (r := 0) (k := 5) (a := 0) (j := 3) _ _ (by omega), est100, up2_ne (r := 0) (k := 9) (a := 0) (j := 3) _ _ (by omega), est99, up2_ne (r := 0) (k := 7) (a := 0) (j := 3) _ _ (by omega), est9, up2_ne (r := 0) (k := 6) (a := 0) (j := 3) _ _ (by omega), hTg7.2.1], by omega, by omega⟩), by omega, fun _ => by omega⟩⟩, mB.of ht hP⟩, hS.F ht⟩) hS.2.2 dX12_go_197
            · refine lv_iload_n hx hb dX12_go_144 rfl (lv_at hl 0 rfl) ?_
              refine lv_bipush (v := 60) hx hb dX12_go_145 (by decide) ?_
              refine lv_icmp_eq (tgt := 174) hx hb dX12_go_147 (by decide) (fun c25 => ?_) (fun c25 => ?_)
              · refine lv_iconst (v := 4) hx hb dX12_go_174 (by decide) ?_
                refine lv_goto (tgt := 179) hx hb dX12_go_175 (by decide) ?_
                refine va_put (D := (dC, dI)) (ci := 11) (v := .int 4) (ty := .int) (C := RX12) (T := TX12) (N := 47) hx hb hts ii_X12_go tyX12 tyX12_ok nmX12 hown hK hP (mD hN _ _ _ _) hS 0 rfl rfl 7 (by decide) (hts _ mm_X12_go_6) (fun _ hh => hh) rfl (by decide +kernel) rfl rfl (Nat.le_of_ble_eq_true rfl) dX12_go_179 (fun H locs hP _ hS => ?_)
                have hP : va_P (dC, dI) vwCl (mw ar cy (up2 st9 0 7 4) sl6) H := hP
                obtain ⟨st102, est102⟩ : ∃ y, y = up2 st9 0 7 4 := ⟨_, rfl⟩
                have hG : MG [1, 2, 3, 6, 7, 8, 9, 10, 11, 12, 13, 14, 15, 16, 19, 20, 21, 22, 23] st st102 := by rw [est102]; exact hG.up (rz (by decide : mr 0 7 = 0)) (pn (by decide : pcl 0 7 = 5) (by decide))
                rw [← est102] at hP
                refine lv_aload_n hx hb dX12_go_182 rfl (lv_at hl 1 rfl) ?_
                refine lv_iload_n hx hb dX12_go_183 rfl (lv_at hl 0 rfl) ?_
                refine va_put (D := (dC, dI)) (ci := 11) (v := .int z12) (ty := .int) (C := RX12) (T := TX12) (N := 47) hx hb hts ii_X12_go tyX12 tyX12_ok nmX12 hown hK hP (mD hN _ _ _ _) hS 0 rfl rfl 9 (by decide) (hts _ mm_X12_go_7) (fun _ hh => hh) rfl (by decide +kernel) rfl rfl (Nat.le_of_ble_eq_true rfl) dX12_go_184 (fun H locs hP _ hS => ?_)
                have hP : va_P (dC, dI) vwCl (mw ar cy (up2 st102 0 9 z12) sl6) H := hP
                obtain ⟨st103, est103⟩ : ∃ y, y = up2 st102 0 9 z12 := ⟨_, rfl⟩
                have hG : MG [1, 2, 3, 6, 7, 8, 9, 10, 11, 12, 13, 14, 15, 16, 19, 20, 21, 22, 23] st st103 := by rw [est103]; exact hG.up (rz (by decide : mr 0 9 = 0)) (pn (by decide : pcl 0 9 = 0) (by decide))
                rw [← est103] at hP
                refine lv_aload_n hx hb dX12_go_187 rfl (lv_at hl 1 rfl) ?_
                refine lv_dup hx hb dX12_go_188 rfl ?_
                refine va_get (D := (dC, dI)) (ci := 11) (v := .int (st103 0 5)) (C := RX12) (T := TX12) (N := 47) hx hb hts ii_X12_go hown hK hP 0 rfl rfl 5 (by decide) (hts _ mm_X12_go_1) (fun _ hh => hh) rfl dX12_go_189 ?_
                refine zz_top (v := (nI g7)) (by show st103 0 5 = _; rw [est103, up2_ne (r := 0) (k := 9) (a := 0) (j := 5) _ _ (by omega), est102, up2_ne (r := 0) (k := 7) (a := 0) (j := 5) _ _ (by omega), est9, up2_ne (r := 0) (k := 6) (a := 0) (j := 5) _ _ (by omega), hTg7.1]) ?_
                refine lv_iconst (v := 1) hx hb dX12_go_192 (by decide) ?_
                refine lv_iadd hx hb dX12_go_193 ?_
                refine zz_top (v := nI (g7 + 1)) (nI_add g7 1) ?_
                refine va_put (D := (dC, dI)) (ci := 11) (v := .int (nI (g7 + 1))) (ty := .int) (C := RX12) (T := TX12) (N := 47) hx hb hts ii_X12_go tyX12 tyX12_ok nmX12 hown hK hP (mD hN _ _ _ _) hS 0 rfl rfl 5 (by decide) (hts _ mm_X12_go_1) (fun _ hh => hh) rfl (by decide +kernel) rfl rfl (Nat.le_of_ble_eq_true rfl) dX12_go_194 (fun H locs hP _ hS => ?_)
                have hP : va_P (dC, dI) vwCl (mw ar cy (up2 st103 0 5 (nI (g7 + 1))) sl6) H := hP
                obtain ⟨st104, est104⟩ : ∃ y, y = up2 st103 0 5 (nI (g7 + 1)) := ⟨_, rfl⟩
                have hG : MG [1, 2, 3, 6, 7, 8, 9, 10, 11, 12, 13, 14, 15, 16, 19, 20, 21, 22, 23] st st104 := by rw [est104]; exact hG.up (rn (n := (g7 + 1)) (by decide : mr 0 5 = 941) (by omega)) (pn (by decide : pcl 0 5 = 4) (by decide))
                rw [← est104] at hP
                exact W.vret hx hb hr (fun t ht hW => ⟨⟨(st104, sl6), rfl, ⟨hG, hL, ⟨(g7 + 1), (show TS st104 (g7 + 1) gb from ⟨by rw [est104, up2_same], by rw [est104, up2_ne (r := 0) (k := 5) (a := 0) (j := 3) _ _ (by omega), est103, up2_ne (r := 0) (k := 9) (a := 0) (j := 3) _ _ (by omega), est102, up2_ne (r := 0) (k := 7) (a := 0) (j := 3) _ _ (by omega), est9, up2_ne (r := 0) (k := 6) (a := 0) (j := 3) _ _ (by omega), hTg7.2.1], by omega, by omega⟩), by omega, fun _ => by omega⟩⟩, mB.of ht hP⟩, hS.F ht⟩) hS.2.2 dX12_go_197
              · refine lv_iload_n hx hb dX12_go_150 rfl (lv_at hl 0 rfl) ?_
                refine lv_bipush (v := 61) hx hb dX12_go_151 (by decide) ?_
                refine lv_icmp_eq (tgt := 174) hx hb dX12_go_153 (by decide) (fun c26 => ?_) (fun c26 => ?_)
                · refine lv_iconst (v := 4) hx hb dX12_go_174 (by decide) ?_
                  refine lv_goto (tgt := 179) hx hb dX12_go_175 (by decide) ?_
                  refine va_put (D := (dC, dI)) (ci := 11) (v := .int 4) (ty := .int) (C := RX12) (T := TX12) (N := 47) hx hb hts ii_X12_go tyX12 tyX12_ok nmX12 hown hK hP (mD hN _ _ _ _) hS 0 rfl rfl 7 (by decide) (hts _ mm_X12_go_6) (fun _ hh => hh) rfl (by decide +kernel) rfl rfl (Nat.le_of_ble_eq_true rfl) dX12_go_179 (fun H locs hP _ hS => ?_)
                  have hP : va_P (dC, dI) vwCl (mw ar cy (up2 st9 0 7 4) sl6) H := hP
                  obtain ⟨st105, est105⟩ : ∃ y, y = up2 st9 0 7 4 := ⟨_, rfl⟩
                  have hG : MG [1, 2, 3, 6, 7, 8, 9, 10, 11, 12, 13, 14, 15, 16, 19, 20, 21, 22, 23] st st105 := by rw [est105]; exact hG.up (rz (by decide : mr 0 7 = 0)) (pn (by decide : pcl 0 7 = 5) (by decide))
                  rw [← est105] at hP
                  refine lv_aload_n hx hb dX12_go_182 rfl (lv_at hl 1 rfl) ?_
                  refine lv_iload_n hx hb dX12_go_183 rfl (lv_at hl 0 rfl) ?_
                  refine va_put (D := (dC, dI)) (ci := 11) (v := .int z12) (ty := .int) (C := RX12) (T := TX12) (N := 47) hx hb hts ii_X12_go tyX12 tyX12_ok nmX12 hown hK hP (mD hN _ _ _ _) hS 0 rfl rfl 9 (by decide) (hts _ mm_X12_go_7) (fun _ hh => hh) rfl (by decide +kernel) rfl rfl (Nat.le_of_ble_eq_true rfl) dX12_go_184 (fun H locs hP _ hS => ?_)
                  have hP : va_P (dC, dI) vwCl (mw ar cy (up2 st105 0 9 z12) sl6) H := hP
                  obtain ⟨st106, est106⟩ : ∃ y, y = up2 st105 0 9 z12 := ⟨_, rfl⟩
                  have hG : MG [1, 2, 3, 6, 7, 8, 9, 10, 11, 12, 13, 14, 15, 16, 19, 20, 21, 22, 23] st st106 := by rw [est106]; exact hG.up (rz (by decide : mr 0 9 = 0)) (pn (by decide : pcl 0 9 = 0) (by decide))
                  rw [← est106] at hP
                  refine lv_aload_n hx hb dX12_go_187 rfl (lv_at hl 1 rfl) ?_
                  refine lv_dup hx hb dX12_go_188 rfl ?_
                  refine va_get (D := (dC, dI)) (ci := 11) (v := .int (st106 0 5)) (C := RX12) (T := TX12) (N := 47) hx hb hts ii_X12_go hown hK hP 0 rfl rfl 5 (by decide) (hts _ mm_X12_go_1) (fun _ hh => hh) rfl dX12_go_189 ?_
                  refine zz_top (v := (nI g7)) (by show st106 0 5 = _; rw [est106, up2_ne (r := 0) (k := 9) (a := 0) (j := 5) _ _ (by omega), est105, up2_ne (r := 0) (k := 7) (a := 0) (j := 5) _ _ (by omega), est9, up2_ne (r := 0) (k := 6) (a := 0) (j := 5) _ _ (by omega), hTg7.1]) ?_
                  refine lv_iconst (v := 1) hx hb dX12_go_192 (by decide) ?_
                  refine lv_iadd hx hb dX12_go_193 ?_
                  refine zz_top (v := nI (g7 + 1)) (nI_add g7 1) ?_
                  refine va_put (D := (dC, dI)) (ci := 11) (v := .int (nI (g7 + 1))) (ty := .int) (C := RX12) (T := TX12) (N := 47) hx hb hts ii_X12_go tyX12 tyX12_ok nmX12 hown hK hP (mD hN _ _ _ _) hS 0 rfl rfl 5 (by decide) (hts _ mm_X12_go_1) (fun _ hh => hh) rfl (by decide +kernel) rfl rfl (Nat.le_of_ble_eq_true rfl) dX12_go_194 (fun H locs hP _ hS => ?_)
                  have hP : va_P (dC, dI) vwCl (mw ar cy (up2 st106 0 5 (nI (g7 + 1))) sl6) H := hP
                  obtain ⟨st107, est107⟩ : ∃ y, y = up2 st106 0 5 (nI (g7 + 1)) := ⟨_, rfl⟩
                  have hG : MG [1, 2, 3, 6, 7, 8, 9, 10, 11, 12, 13, 14, 15, 16, 19, 20, 21, 22, 23] st st107 := by rw [est107]; exact hG.up (rn (n := (g7 + 1)) (by decide : mr 0 5 = 941) (by omega)) (pn (by decide : pcl 0 5 = 4) (by decide))
                  rw [← est107] at hP
                  exact W.vret hx hb hr (fun t ht hW => ⟨⟨(st107, sl6), rfl, ⟨hG, hL, ⟨(g7 + 1), (show TS st107 (g7 + 1) gb from ⟨by rw [est107, up2_same], by rw [est107, up2_ne (r := 0) (k := 5) (a := 0) (j := 3) _ _ (by omega), est106, up2_ne (r := 0) (k := 9) (a := 0) (j := 3) _ _ (by omega), est105, up2_ne (r := 0) (k := 7) (a := 0) (j := 3) _ _ (by omega), est9, up2_ne (r := 0) (k := 6) (a := 0) (j := 3) _ _ (by omega), hTg7.2.1], by omega, by omega⟩), by omega, fun _ => by omega⟩⟩, mB.of ht hP⟩, hS.F ht⟩) hS.2.2 dX12_go_197
                · refine lv_iload_n hx hb dX12_go_156 rfl (lv_at hl 0 rfl) ?_
                  refine lv_bipush (v := 62) hx hb dX12_go_157 (by decide) ?_
                  refine lv_icmp_eq (tgt := 174) hx hb dX12_go_159 (by decide) (fun c27 => ?_) (fun c27 => ?_)
                  · refine lv_iconst (v := 4) hx hb dX12_go_174 (by decide) ?_
                    refine lv_goto (tgt := 179) hx hb dX12_go_175 (by decide) ?_
                    refine va_put (D := (dC, dI)) (ci := 11) (v := .int 4) (ty := .int) (C := RX12) (T := TX12) (N := 47) hx hb hts ii_X12_go tyX12 tyX12_ok nmX12 hown hK hP (mD hN _ _ _ _) hS 0 rfl rfl 7 (by decide) (hts _ mm_X12_go_6) (fun _ hh => hh) rfl (by decide +kernel) rfl rfl (Nat.le_of_ble_eq_true rfl) dX12_go_179 (fun H locs hP _ hS => ?_)
                    have hP : va_P (dC, dI) vwCl (mw ar cy (up2 st9 0 7 4) sl6) H := hP
                    obtain ⟨st108, est108⟩ : ∃ y, y = up2 st9 0 7 4 := ⟨_, rfl⟩
                    have hG : MG [1, 2, 3, 6, 7, 8, 9, 10, 11, 12, 13, 14, 15, 16, 19, 20, 21, 22, 23] st st108 := by rw [est108]; exact hG.up (rz (by decide : mr 0 7 = 0)) (pn (by decide : pcl 0 7 = 5) (by decide))
                    rw [← est108] at hP
                    refine lv_aload_n hx hb dX12_go_182 rfl (lv_at hl 1 rfl) ?_
                    refine lv_iload_n hx hb dX12_go_183 rfl (lv_at hl 0 rfl) ?_
                    refine va_put (D := (dC, dI)) (ci := 11) (v := .int z12) (ty := .int) (C := RX12) (T := TX12) (N := 47) hx hb hts ii_X12_go tyX12 tyX12_ok nmX12 hown hK hP (mD hN _ _ _ _) hS 0 rfl rfl 9 (by decide) (hts _ mm_X12_go_7) (fun _ hh => hh) rfl (by decide +kernel) rfl rfl (Nat.le_of_ble_eq_true rfl) dX12_go_184 (fun H locs hP _ hS => ?_)
                    have hP : va_P (dC, dI) vwCl (mw ar cy (up2 st108 0 9 z12) sl6) H := hP
                    obtain ⟨st109, est109⟩ : ∃ y, y = up2 st108 0 9 z12 := ⟨_, rfl⟩
                    have hG : MG [1, 2, 3, 6, 7, 8, 9, 10, 11, 12, 13, 14, 15, 16, 19, 20, 21, 22, 23] st st109 := by rw [est109]; exact hG.up (rz (by decide : mr 0 9 = 0)) (pn (by decide : pcl 0 9 = 0) (by decide))
                    rw [← est109] at hP
                    refine lv_aload_n hx hb dX12_go_187 rfl (lv_at hl 1 rfl) ?_
                    refine lv_dup hx hb dX12_go_188 rfl ?_
                    refine va_get (D := (dC, dI)) (ci := 11) (v := .int (st109 0 5)) (C := RX12) (T := TX12) (N := 47) hx hb hts ii_X12_go hown hK hP 0 rfl rfl 5 (by decide) (hts _ mm_X12_go_1) (fun _ hh => hh) rfl dX12_go_189 ?_
                    refine zz_top (v := (nI g7)) (by show st109 0 5 = _; rw [est109, up2_ne (r := 0) (k := 9) (a := 0) (j := 5) _ _ (by omega), est108, up2_ne (r := 0) (k := 7) (a := 0) (j := 5) _ _ (by omega), est9, up2_ne (r := 0) (k := 6) (a := 0) (j := 5) _ _ (by omega), hTg7.1]) ?_
                    refine lv_iconst (v := 1) hx hb dX12_go_192 (by decide) ?_
                    refine lv_iadd hx hb dX12_go_193 ?_
                    refine zz_top (v := nI (g7 + 1)) (nI_add g7 1) ?_
                    refine va_put (D := (dC, dI)) (ci := 11) (v := .int (nI (g7 + 1))) (ty := .int) (C := RX12) (T := TX12) (N := 47) hx hb hts ii_X12_go tyX12 tyX12_ok nmX12 hown hK hP (mD hN _ _ _ _) hS 0 rfl rfl 5 (by decide) (hts _ mm_X12_go_1) (fun _ hh => hh) rfl (by decide +kernel) rfl rfl (Nat.le_of_ble_eq_true rfl) dX12_go_194 (fun H locs hP _ hS => ?_)
                    have hP : va_P (dC, dI) vwCl (mw ar cy (up2 st109 0 5 (nI (g7 + 1))) sl6) H := hP
                    obtain ⟨st110, est110⟩ : ∃ y, y = up2 st109 0 5 (nI (g7 + 1)) := ⟨_, rfl⟩
                    have hG : MG [1, 2, 3, 6, 7, 8, 9, 10, 11, 12, 13, 14, 15, 16, 19, 20, 21, 22, 23] st st110 := by rw [est110]; exact hG.up (rn (n := (g7 + 1)) (by decide : mr 0 5 = 941) (by omega)) (pn (by decide : pcl 0 5 = 4) (by decide))
                    rw [← est110] at hP
                    exact W.vret hx hb hr (fun t ht hW => ⟨⟨(st110, sl6), rfl, ⟨hG, hL, ⟨(g7 + 1), (show TS st110 (g7 + 1) gb from ⟨by rw [est110, up2_same], by rw [est110, up2_ne (r := 0) (k := 5) (a := 0) (j := 3) _ _ (by omega), est109, up2_ne (r := 0) (k := 9) (a := 0) (j := 3) _ _ (by omega), est108, up2_ne (r := 0) (k := 7) (a := 0) (j := 3) _ _ (by omega), est9, up2_ne (r := 0) (k := 6) (a := 0) (j := 3) _ _ (by omega), hTg7.2.1], by omega, by omega⟩), by omega, fun _ => by omega⟩⟩, mB.of ht hP⟩, hS.F ht⟩) hS.2.2 dX12_go_197
                  · refine lv_iload_n hx hb dX12_go_162 rfl (lv_at hl 0 rfl) ?_
                    refine lv_bipush (v := 40) hx hb dX12_go_163 (by decide) ?_
                    refine lv_icmp_eq (tgt := 174) hx hb dX12_go_165 (by decide) (fun c28 => ?_) (fun c28 => ?_)
                    · refine lv_iconst (v := 4) hx hb dX12_go_174 (by decide) ?_
                      refine lv_goto (tgt := 179) hx hb dX12_go_175 (by decide) ?_
                      refine va_put (D := (dC, dI)) (ci := 11) (v := .int 4) (ty := .int) (C := RX12) (T := TX12) (N := 47) hx hb hts ii_X12_go tyX12 tyX12_ok nmX12 hown hK hP (mD hN _ _ _ _) hS 0 rfl rfl 7 (by decide) (hts _ mm_X12_go_6) (fun _ hh => hh) rfl (by decide +kernel) rfl rfl (Nat.le_of_ble_eq_true rfl) dX12_go_179 (fun H locs hP _ hS => ?_)
                      have hP : va_P (dC, dI) vwCl (mw ar cy (up2 st9 0 7 4) sl6) H := hP
                      obtain ⟨st111, est111⟩ : ∃ y, y = up2 st9 0 7 4 := ⟨_, rfl⟩
                      have hG : MG [1, 2, 3, 6, 7, 8, 9, 10, 11, 12, 13, 14, 15, 16, 19, 20, 21, 22, 23] st st111 := by rw [est111]; exact hG.up (rz (by decide : mr 0 7 = 0)) (pn (by decide : pcl 0 7 = 5) (by decide))
                      rw [← est111] at hP
                      refine lv_aload_n hx hb dX12_go_182 rfl (lv_at hl 1 rfl) ?_
                      refine lv_iload_n hx hb dX12_go_183 rfl (lv_at hl 0 rfl) ?_
                      refine va_put (D := (dC, dI)) (ci := 11) (v := .int z12) (ty := .int) (C := RX12) (T := TX12) (N := 47) hx hb hts ii_X12_go tyX12 tyX12_ok nmX12 hown hK hP (mD hN _ _ _ _) hS 0 rfl rfl 9 (by decide) (hts _ mm_X12_go_7) (fun _ hh => hh) rfl (by decide +kernel) rfl rfl (Nat.le_of_ble_eq_true rfl) dX12_go_184 (fun H locs hP _ hS => ?_)
                      have hP : va_P (dC, dI) vwCl (mw ar cy (up2 st111 0 9 z12) sl6) H := hP
                      obtain ⟨st112, est112⟩ : ∃ y, y = up2 st111 0 9 z12 := ⟨_, rfl⟩
                      have hG : MG [1, 2, 3, 6, 7, 8, 9, 10, 11, 12, 13, 14, 15, 16, 19, 20, 21, 22, 23] st st112 := by rw [est112]; exact hG.up (rz (by decide : mr 0 9 = 0)) (pn (by decide : pcl 0 9 = 0) (by decide))
                      rw [← est112] at hP
                      refine lv_aload_n hx hb dX12_go_187 rfl (lv_at hl 1 rfl) ?_
                      refine lv_dup hx hb dX12_go_188 rfl ?_
                      refine va_get (D := (dC, dI)) (ci := 11) (v := .int (st112 0 5)) (C := RX12) (T := TX12) (N := 47) hx hb hts ii_X12_go hown hK hP 0 rfl rfl 5 (by decide) (hts _ mm_X12_go_1) (fun _ hh => hh) rfl dX12_go_189 ?_
                      refine zz_top (v := (nI g7)) (by show st112 0 5 = _; rw [est112, up2_ne (r := 0) (k := 9) (a := 0) (j := 5) _ _ (by omega), est111, up2_ne (r := 0) (k := 7) (a := 0) (j := 5) _ _ (by omega), est9, up2_ne (r := 0) (k := 6) (a := 0) (j := 5) _ _ (by omega), hTg7.1]) ?_
                      refine lv_iconst (v := 1) hx hb dX12_go_192 (by decide) ?_
                      refine lv_iadd hx hb dX12_go_193 ?_
                      refine zz_top (v := nI (g7 + 1)) (nI_add g7 1) ?_
                      refine va_put (D := (dC, dI)) (ci := 11) (v := .int (nI (g7 + 1))) (ty := .int) (C := RX12) (T := TX12) (N := 47) hx hb hts ii_X12_go tyX12 tyX12_ok nmX12 hown hK hP (mD hN _ _ _ _) hS 0 rfl rfl 5 (by decide) (hts _ mm_X12_go_1) (fun _ hh => hh) rfl (by decide +kernel) rfl rfl (Nat.le_of_ble_eq_true rfl) dX12_go_194 (fun H locs hP _ hS => ?_)
                      have hP : va_P (dC, dI) vwCl (mw ar cy (up2 st112 0 5 (nI (g7 + 1))) sl6) H := hP
                      obtain ⟨st113, est113⟩ : ∃ y, y = up2 st112 0 5 (nI (g7 + 1)) := ⟨_, rfl⟩
                      have hG : MG [1, 2, 3, 6, 7, 8, 9, 10, 11, 12, 13, 14, 15, 16, 19, 20, 21, 22, 23] st st113 := by rw [est113]; exact hG.up (rn (n := (g7 + 1)) (by decide : mr 0 5 = 941) (by omega)) (pn (by decide : pcl 0 5 = 4) (by decide))
                      rw [← est113] at hP
                      exact W.vret hx hb hr (fun t ht hW => ⟨⟨(st113, sl6), rfl, ⟨hG, hL, ⟨(g7 + 1), (show TS st113 (g7 + 1) gb from ⟨by rw [est113, up2_same], by rw [est113, up2_ne (r := 0) (k := 5) (a := 0) (j := 3) _ _ (by omega), est112, up2_ne (r := 0) (k := 9) (a := 0) (j := 3) _ _ (by omega), est111, up2_ne (r := 0) (k := 7) (a := 0) (j := 3) _ _ (by omega), est9, up2_ne (r := 0) (k := 6) (a := 0) (j := 3) _ _ (by omega), hTg7.2.1], by omega, by omega⟩), by omega, fun _ => by omega⟩⟩, mB.of ht hP⟩, hS.F ht⟩) hS.2.2 dX12_go_197
                    · refine lv_iload_n hx hb dX12_go_168 rfl (lv_at hl 0 rfl) ?_
                      refine lv_bipush (v := 41) hx hb dX12_go_169 (by decide) ?_
                      refine lv_icmp_ne (tgt := 178) hx hb dX12_go_171 (by decide) (fun c29 => ?_) (fun c29 => ?_)
                      · refine lv_iconst (v := 1) hx hb dX12_go_178 (by decide) ?_
                        refine va_put (D := (dC, dI)) (ci := 11) (v := .int 1) (ty := .int) (C := RX12) (T := TX12) (N := 47) hx hb hts ii_X12_go tyX12 tyX12_ok nmX12 hown hK hP (mD hN _ _ _ _) hS 0 rfl rfl 7 (by decide) (hts _ mm_X12_go_6) (fun _ hh => hh) rfl (by decide +kernel) rfl rfl (Nat.le_of_ble_eq_true rfl) dX12_go_179 (fun H locs hP _ hS => ?_)
                        have hP : va_P (dC, dI) vwCl (mw ar cy (up2 st9 0 7 1) sl6) H := hP
                        obtain ⟨st114, est114⟩ : ∃ y, y = up2 st9 0 7 1 := ⟨_, rfl⟩
                        have hG : MG [1, 2, 3, 6, 7, 8, 9, 10, 11, 12, 13, 14, 15, 16, 19, 20, 21, 22, 23] st st114 := by rw [est114]; exact hG.up (rz (by decide : mr 0 7 = 0)) (pn (by decide : pcl 0 7 = 5) (by decide))
                        rw [← est114] at hP
                        refine lv_aload_n hx hb dX12_go_182 rfl (lv_at hl 1 rfl) ?_
                        refine lv_iload_n hx hb dX12_go_183 rfl (lv_at hl 0 rfl) ?_
                        refine va_put (D := (dC, dI)) (ci := 11) (v := .int z12) (ty := .int) (C := RX12) (T := TX12) (N := 47) hx hb hts ii_X12_go tyX12 tyX12_ok nmX12 hown hK hP (mD hN _ _ _ _) hS 0 rfl rfl 9 (by decide) (hts _ mm_X12_go_7) (fun _ hh => hh) rfl (by decide +kernel) rfl rfl (Nat.le_of_ble_eq_true rfl) dX12_go_184 (fun H locs hP _ hS => ?_)
                        have hP : va_P (dC, dI) vwCl (mw ar cy (up2 st114 0 9 z12) sl6) H := hP
                        obtain ⟨st115, est115⟩ : ∃ y, y = up2 st114 0 9 z12 := ⟨_, rfl⟩
                        have hG : MG [1, 2, 3, 6, 7, 8, 9, 10, 11, 12, 13, 14, 15, 16, 19, 20, 21, 22, 23] st st115 := by rw [est115]; exact hG.up (rz (by decide : mr 0 9 = 0)) (pn (by decide : pcl 0 9 = 0) (by decide))
                        rw [← est115] at hP
                        refine lv_aload_n hx hb dX12_go_187 rfl (lv_at hl 1 rfl) ?_
                        refine lv_dup hx hb dX12_go_188 rfl ?_
                        refine va_get (D := (dC, dI)) (ci := 11) (v := .int (st115 0 5)) (C := RX12) (T := TX12) (N := 47) hx hb hts ii_X12_go hown hK hP 0 rfl rfl 5 (by decide) (hts _ mm_X12_go_1) (fun _ hh => hh) rfl dX12_go_189 ?_
                        refine zz_top (v := (nI g7)) (by show st115 0 5 = _; rw [est115, up2_ne (r := 0) (k := 9) (a := 0) (j := 5) _ _ (by omega), est114, up2_ne (r := 0) (k := 7) (a := 0) (j := 5) _ _ (by omega), est9, up2_ne (r := 0) (k := 6) (a := 0) (j := 5) _ _ (by omega), hTg7.1]) ?_
                        refine lv_iconst (v := 1) hx hb dX12_go_192 (by decide) ?_
                        refine lv_iadd hx hb dX12_go_193 ?_
                        refine zz_top (v := nI (g7 + 1)) (nI_add g7 1) ?_
                        refine va_put (D := (dC, dI)) (ci := 11) (v := .int (nI (g7 + 1))) (ty := .int) (C := RX12) (T := TX12) (N := 47) hx hb hts ii_X12_go tyX12 tyX12_ok nmX12 hown hK hP (mD hN _ _ _ _) hS 0 rfl rfl 5 (by decide) (hts _ mm_X12_go_1) (fun _ hh => hh) rfl (by decide +kernel) rfl rfl (Nat.le_of_ble_eq_true rfl) dX12_go_194 (fun H locs hP _ hS => ?_)
                        have hP : va_P (dC, dI) vwCl (mw ar cy (up2 st115 0 5 (nI (g7 + 1))) sl6) H := hP
                        obtain ⟨st116, est116⟩ : ∃ y, y = up2 st115 0 5 (nI (g7 + 1)) := ⟨_, rfl⟩
                        have hG : MG [1, 2, 3, 6, 7, 8, 9, 10, 11, 12, 13, 14, 15, 16, 19, 20, 21, 22, 23] st st116 := by rw [est116]; exact hG.up (rn (n := (g7 + 1)) (by decide : mr 0 5 = 941) (by omega)) (pn (by decide : pcl 0 5 = 4) (by decide))
                        rw [← est116] at hP
                        exact W.vret hx hb hr (fun t ht hW => ⟨⟨(st116, sl6), rfl, ⟨hG, hL, ⟨(g7 + 1), (show TS st116 (g7 + 1) gb from ⟨by rw [est116, up2_same], by rw [est116, up2_ne (r := 0) (k := 5) (a := 0) (j := 3) _ _ (by omega), est115, up2_ne (r := 0) (k := 9) (a := 0) (j := 3) _ _ (by omega), est114, up2_ne (r := 0) (k := 7) (a := 0) (j := 3) _ _ (by omega), est9, up2_ne (r := 0) (k := 6) (a := 0) (j := 3) _ _ (by omega), hTg7.2.1], by omega, by omega⟩), by omega, fun (hh : st116 0 7 = 4) => absurd ((show st116 0 7 = 1 by rw [est116, up2_ne (r := 0) (k := 5) (a := 0) (j := 7) _ _ (by omega), est115, up2_ne (r := 0) (k := 9) (a := 0) (j := 7) _ _ (by omega), est114, up2_same]).symm.trans hh) (by decide)⟩⟩, mB.of ht hP⟩, hS.F ht⟩) hS.2.2 dX12_go_197
                      · refine lv_iconst (v := 4) hx hb dX12_go_174 (by decide) ?_
                        refine lv_goto (tgt := 179) hx hb dX12_go_175 (by decide) ?_
                        refine va_put (D := (dC, dI)) (ci := 11) (v := .int 4) (ty := .int) (C := RX12) (T := TX12) (N := 47) hx hb hts ii_X12_go tyX12 tyX12_ok nmX12 hown hK hP (mD hN _ _ _ _) hS 0 rfl rfl 7 (by decide) (hts _ mm_X12_go_6) (fun _ hh => hh) rfl (by decide +kernel) rfl rfl (Nat.le_of_ble_eq_true rfl) dX12_go_179 (fun H locs hP _ hS => ?_)
                        have hP : va_P (dC, dI) vwCl (mw ar cy (up2 st9 0 7 4) sl6) H := hP
                        obtain ⟨st117, est117⟩ : ∃ y, y = up2 st9 0 7 4 := ⟨_, rfl⟩
                        have hG : MG [1, 2, 3, 6, 7, 8, 9, 10, 11, 12, 13, 14, 15, 16, 19, 20, 21, 22, 23] st st117 := by rw [est117]; exact hG.up (rz (by decide : mr 0 7 = 0)) (pn (by decide : pcl 0 7 = 5) (by decide))
                        rw [← est117] at hP
                        refine lv_aload_n hx hb dX12_go_182 rfl (lv_at hl 1 rfl) ?_
                        refine lv_iload_n hx hb dX12_go_183 rfl (lv_at hl 0 rfl) ?_
                        refine va_put (D := (dC, dI)) (ci := 11) (v := .int z12) (ty := .int) (C := RX12) (T := TX12) (N := 47) hx hb hts ii_X12_go tyX12 tyX12_ok nmX12 hown hK hP (mD hN _ _ _ _) hS 0 rfl rfl 9 (by decide) (hts _ mm_X12_go_7) (fun _ hh => hh) rfl (by decide +kernel) rfl rfl (Nat.le_of_ble_eq_true rfl) dX12_go_184 (fun H locs hP _ hS => ?_)
                        have hP : va_P (dC, dI) vwCl (mw ar cy (up2 st117 0 9 z12) sl6) H := hP
                        obtain ⟨st118, est118⟩ : ∃ y, y = up2 st117 0 9 z12 := ⟨_, rfl⟩
                        have hG : MG [1, 2, 3, 6, 7, 8, 9, 10, 11, 12, 13, 14, 15, 16, 19, 20, 21, 22, 23] st st118 := by rw [est118]; exact hG.up (rz (by decide : mr 0 9 = 0)) (pn (by decide : pcl 0 9 = 0) (by decide))
                        rw [← est118] at hP
                        refine lv_aload_n hx hb dX12_go_187 rfl (lv_at hl 1 rfl) ?_
                        refine lv_dup hx hb dX12_go_188 rfl ?_
                        refine va_get (D := (dC, dI)) (ci := 11) (v := .int (st118 0 5)) (C := RX12) (T := TX12) (N := 47) hx hb hts ii_X12_go hown hK hP 0 rfl rfl 5 (by decide) (hts _ mm_X12_go_1) (fun _ hh => hh) rfl dX12_go_189 ?_
                        refine zz_top (v := (nI g7)) (by show st118 0 5 = _; rw [est118, up2_ne (r := 0) (k := 9) (a := 0) (j := 5) _ _ (by omega), est117, up2_ne (r := 0) (k := 7) (a := 0) (j := 5) _ _ (by omega), est9, up2_ne (r := 0) (k := 6) (a := 0) (j := 5) _ _ (by omega), hTg7.1]) ?_
                        refine lv_iconst (v := 1) hx hb dX12_go_192 (by decide) ?_
                        refine lv_iadd hx hb dX12_go_193 ?_
                        refine zz_top (v := nI (g7 + 1)) (nI_add g7 1) ?_
                        refine va_put (D := (dC, dI)) (ci := 11) (v := .int (nI (g7 + 1))) (ty := .int) (C := RX12) (T := TX12) (N := 47) hx hb hts ii_X12_go tyX12 tyX12_ok nmX12 hown hK hP (mD hN _ _ _ _) hS 0 rfl rfl 5 (by decide) (hts _ mm_X12_go_1) (fun _ hh => hh) rfl (by decide +kernel) rfl rfl (Nat.le_of_ble_eq_true rfl) dX12_go_194 (fun H locs hP _ hS => ?_)
                        have hP : va_P (dC, dI) vwCl (mw ar cy (up2 st118 0 5 (nI (g7 + 1))) sl6) H := hP
                        obtain ⟨st119, est119⟩ : ∃ y, y = up2 st118 0 5 (nI (g7 + 1)) := ⟨_, rfl⟩
                        have hG : MG [1, 2, 3, 6, 7, 8, 9, 10, 11, 12, 13, 14, 15, 16, 19, 20, 21, 22, 23] st st119 := by rw [est119]; exact hG.up (rn (n := (g7 + 1)) (by decide : mr 0 5 = 941) (by omega)) (pn (by decide : pcl 0 5 = 4) (by decide))
                        rw [← est119] at hP
                        exact W.vret hx hb hr (fun t ht hW => ⟨⟨(st119, sl6), rfl, ⟨hG, hL, ⟨(g7 + 1), (show TS st119 (g7 + 1) gb from ⟨by rw [est119, up2_same], by rw [est119, up2_ne (r := 0) (k := 5) (a := 0) (j := 3) _ _ (by omega), est118, up2_ne (r := 0) (k := 9) (a := 0) (j := 3) _ _ (by omega), est117, up2_ne (r := 0) (k := 7) (a := 0) (j := 3) _ _ (by omega), est9, up2_ne (r := 0) (k := 6) (a := 0) (j := 3) _ _ (by omega), hTg7.2.1], by omega, by omega⟩), by omega, fun _ => by omega⟩⟩, mB.of ht hP⟩, hS.F ht⟩) hS.2.2 dX12_go_197
      · have c1 : ¬ g7 < gb := fun hh => c1 ((nI_ltI (a := g7) (b := gb) (by omega) (by omega)).mpr hh)
        refine lv_aload_n hx hb dX12_go_107 rfl (lv_at hl 0 rfl) ?_
        refine lv_iconst (v := 0) hx hb dX12_go_108 (by decide) ?_
        refine va_put (D := (dC, dI)) (ci := 11) (v := .int 0) (ty := .int) (C := RX12) (T := TX12) (N := 47) hx hb hts ii_X12_go tyX12 tyX12_ok nmX12 hown hK hP (mD hN _ _ _ _) hS 0 rfl rfl 7 (by decide) (hts _ mm_X12_go_6) (fun _ hh => hh) rfl (by decide +kernel) rfl rfl (Nat.le_of_ble_eq_true rfl) dX12_go_109 (fun H locs hP _ hS => ?_)
        have hP : va_P (dC, dI) vwCl (mw ar cy (up2 st9 0 7 0) sl6) H := hP
        obtain ⟨st120, est120⟩ : ∃ y, y = up2 st9 0 7 0 := ⟨_, rfl⟩
        have hG : MG [1, 2, 3, 6, 7, 8, 9, 10, 11, 12, 13, 14, 15, 16, 19, 20, 21, 22, 23] st st120 := by rw [est120]; exact hG.up (rz (by decide : mr 0 7 = 0)) (pn (by decide : pcl 0 7 = 5) (by decide))
        rw [← est120] at hP
        exact W.vret hx hb hr (fun t ht hW => ⟨⟨(st120, sl6), rfl, ⟨hG, hL, ⟨g7, (show TS st120 g7 gb from ⟨by rw [est120, up2_ne (r := 0) (k := 7) (a := 0) (j := 5) _ _ (by omega), est9, up2_ne (r := 0) (k := 6) (a := 0) (j := 5) _ _ (by omega), hTg7.1], by rw [est120, up2_ne (r := 0) (k := 7) (a := 0) (j := 3) _ _ (by omega), est9, up2_ne (r := 0) (k := 6) (a := 0) (j := 3) _ _ (by omega), hTg7.2.1], by omega, by omega⟩), by omega, fun (hh : st120 0 7 = 4) => absurd ((show st120 0 7 = 0 by rw [est120, up2_same]).symm.trans hh) (by decide)⟩⟩, mB.of ht hP⟩, hS.F ht⟩) hS.2.2 dX12_go_112
    refine lv_icmp_le (tgt := 96) hx hb dX12_go_68 (by decide) (fun c30 => ?_) (fun c30 => ?_)
    · exact kj11 _ _ _ _ ⟨hP, hS, lv_sub hl [0] rfl, rfl⟩
    · refine lv_aload_n hx hb dX12_go_71 rfl (lv_at hl 0 rfl) ?_
      refine va_get (D := (dC, dI)) (ci := 11) (v := .int (st9 0 6)) (C := RX12) (T := TX12) (N := 47) hx hb hts ii_X12_go hown hK hP 0 rfl rfl 6 (by decide) (hts _ mm_X12_go_4) (fun _ hh => hh) rfl dX12_go_72 ?_
      refine zz_top (v := (nI g7)) (by show st9 0 6 = _; rw [est9, up2_same]) ?_
      refine lv_aload_n hx hb dX12_go_75 rfl (lv_at hl 0 rfl) ?_
      refine va_get (D := (dC, dI)) (ci := 11) (v := .int (st9 0 4)) (C := RX12) (T := TX12) (N := 47) hx hb hts ii_X12_go hown hK hP 0 rfl rfl 4 (by decide) (hts _ mm_X12_go_5) (fun _ hh => hh) rfl dX12_go_76 ?_
      refine zz_top (v := z10) (by show st9 0 4 = _; rw [← ez10]) ?_
      refine lv_icmp_lt (tgt := 96) hx hb dX12_go_79 (by decide) (fun c31 => ?_) (fun c31 => ?_)
      · exact kj11 _ _ _ _ ⟨hP, hS, lv_sub hl [0] rfl, rfl⟩
      · refine lv_aload_n hx hb dX12_go_82 rfl (lv_at hl 0 rfl) ?_
        refine lv_aload_n hx hb dX12_go_83 rfl (lv_at hl 0 rfl) ?_
        refine va_get (D := (dC, dI)) (ci := 11) (v := .int (st9 0 4)) (C := RX12) (T := TX12) (N := 47) hx hb hts ii_X12_go hown hK hP 0 rfl rfl 4 (by decide) (hts _ mm_X12_go_5) (fun _ hh => hh) rfl dX12_go_84 ?_
        refine zz_top (v := z10) (by show st9 0 4 = _; rw [← ez10]) ?_
        refine va_put (D := (dC, dI)) (ci := 11) (v := .int z10) (ty := .int) (C := RX12) (T := TX12) (N := 47) hx hb hts ii_X12_go tyX12 tyX12_ok nmX12 hown hK hP (mD hN _ _ _ _) hS 0 rfl rfl 6 (by decide) (hts _ mm_X12_go_4) (fun _ hh => hh) rfl (by decide +kernel) rfl rfl (Nat.le_of_ble_eq_true rfl) dX12_go_87 (fun H locs hP _ hS => ?_)
        have hP : va_P (dC, dI) vwCl (mw ar cy (up2 st9 0 6 z10) sl6) H := hP
        obtain ⟨st121, est121⟩ : ∃ y, y = up2 st9 0 6 z10 := ⟨_, rfl⟩
        have hG : MG [1, 2, 3, 6, 7, 8, 9, 10, 11, 12, 13, 14, 15, 16, 19, 20, 21, 22, 23] st st121 := by rw [est121]; exact hG.up (rz (by decide : mr 0 6 = 0)) (pn (by decide : pcl 0 6 = 17) (by decide))
        rw [← est121] at hP
        refine lv_aload_n hx hb dX12_go_90 rfl (lv_at hl 0 rfl) ?_
        refine lv_iconst (v := 1) hx hb dX12_go_91 (by decide) ?_
        refine va_put (D := (dC, dI)) (ci := 11) (v := .int 1) (ty := .int) (C := RX12) (T := TX12) (N := 47) hx hb hts ii_X12_go tyX12 tyX12_ok nmX12 hown hK hP (mD hN _ _ _ _) hS 0 rfl rfl 7 (by decide) (hts _ mm_X12_go_6) (fun _ hh => hh) rfl (by decide +kernel) rfl rfl (Nat.le_of_ble_eq_true rfl) dX12_go_92 (fun H locs hP _ hS => ?_)
        have hP : va_P (dC, dI) vwCl (mw ar cy (up2 st121 0 7 1) sl6) H := hP
        obtain ⟨st122, est122⟩ : ∃ y, y = up2 st121 0 7 1 := ⟨_, rfl⟩
        have hG : MG [1, 2, 3, 6, 7, 8, 9, 10, 11, 12, 13, 14, 15, 16, 19, 20, 21, 22, 23] st st122 := by rw [est122]; exact hG.up (rz (by decide : mr 0 7 = 0)) (pn (by decide : pcl 0 7 = 5) (by decide))
        rw [← est122] at hP
        exact W.vret hx hb hr (fun t ht hW => ⟨⟨(st122, sl6), rfl, ⟨hG, hL, ⟨g7, (show TS st122 g7 gb from ⟨by rw [est122, up2_ne (r := 0) (k := 7) (a := 0) (j := 5) _ _ (by omega), est121, up2_ne (r := 0) (k := 6) (a := 0) (j := 5) _ _ (by omega), est9, up2_ne (r := 0) (k := 6) (a := 0) (j := 5) _ _ (by omega), hTg7.1], by rw [est122, up2_ne (r := 0) (k := 7) (a := 0) (j := 3) _ _ (by omega), est121, up2_ne (r := 0) (k := 6) (a := 0) (j := 3) _ _ (by omega), est9, up2_ne (r := 0) (k := 6) (a := 0) (j := 3) _ _ (by omega), hTg7.2.1], by omega, by omega⟩), by omega, fun (hh : st122 0 7 = 4) => absurd ((show st122 0 7 = 1 by rw [est122, up2_same]).symm.trans hh) (by decide)⟩⟩, mB.of ht hP⟩, hS.F ht⟩) hS.2.2 dX12_go_95
  refine lv_icmp_ge (tgt := 52) hx hb dX12_go_8 (by decide) (fun c32 => ?_) (fun c32 => ?_)
  · have c32 : gb ≤ g3 := (nI_leI (a := gb) (b := g3) (by omega) (by omega)).mp c32
    exact kj8 _ _ _ _ ⟨st1, sl2, g3, ⟨by rw [hTg3.1], by rw [hTg3.2.1], by omega, by omega⟩, by omega, hP, hG, hL, hS, lv_sub hl [0] rfl, rfl⟩
  · have c32 : ¬ gb ≤ g3 := fun hh => c32 ((nI_leI (a := gb) (b := g3) (by omega) (by omega)).mpr hh)
    refine lv_aload_n hx hb dX12_go_11 rfl (lv_at hl 0 rfl) ?_
    refine va_get (D := (dC, dI)) (ci := 11) (v := .ref (ar 1)) (C := RX12) (T := TX12) (N := 47) hx hb hts ii_X12_go hown hK hP 0 rfl rfl 1 (by decide) (hts _ mm_X12_go_3) (fun _ hh => hh) rfl dX12_go_12 ?_
    refine lv_aload_n hx hb dX12_go_15 rfl (lv_at hl 0 rfl) ?_
    refine va_get (D := (dC, dI)) (ci := 11) (v := .int (st1 0 5)) (C := RX12) (T := TX12) (N := 47) hx hb hts ii_X12_go hown hK hP 0 rfl rfl 5 (by decide) (hts _ mm_X12_go_1) (fun _ hh => hh) rfl dX12_go_16 ?_
    refine zz_top (v := (nI g3)) (by show st1 0 5 = _; rw [hTg3.1]) ?_
    refine va_iald hx hb hK hP 1 0 rfl rfl (i := (nI g3)) (vp_in_nI (by omega) (by decide)) dX12_go_19 ?_
    refine lv_topi (fun z123 ez123 => ?_)
    refine lv_bipush (v := 32) hx hb dX12_go_20 (by decide) ?_
    refine lv_icmp_eq (tgt := 39) hx hb dX12_go_22 (by decide) (fun c33 => ?_) (fun c33 => ?_)
    · refine lv_aload_n hx hb dX12_go_39 rfl (lv_at hl 0 rfl) ?_
      refine lv_dup hx hb dX12_go_40 rfl ?_
      refine va_get (D := (dC, dI)) (ci := 11) (v := .int (st1 0 5)) (C := RX12) (T := TX12) (N := 47) hx hb hts ii_X12_go hown hK hP 0 rfl rfl 5 (by decide) (hts _ mm_X12_go_1) (fun _ hh => hh) rfl dX12_go_41 ?_
      refine zz_top (v := (nI g3)) (by show st1 0 5 = _; rw [hTg3.1]) ?_
      refine lv_iconst (v := 1) hx hb dX12_go_44 (by decide) ?_
      refine lv_iadd hx hb dX12_go_45 ?_
      refine zz_top (v := nI (g3 + 1)) (nI_add g3 1) ?_
      refine va_put (D := (dC, dI)) (ci := 11) (v := .int (nI (g3 + 1))) (ty := .int) (C := RX12) (T := TX12) (N := 47) hx hb hts ii_X12_go tyX12 tyX12_ok nmX12 hown hK hP (mD hN _ _ _ _) hS 0 rfl rfl 5 (by decide) (hts _ mm_X12_go_1) (fun _ hh => hh) rfl (by decide +kernel) rfl rfl (Nat.le_of_ble_eq_true rfl) dX12_go_46 (fun H locs hP _ hS => ?_)
      have hP : va_P (dC, dI) vwCl (mw ar cy (up2 st1 0 5 (nI (g3 + 1))) sl2) H := hP
      obtain ⟨st124, est124⟩ : ∃ y, y = up2 st1 0 5 (nI (g3 + 1)) := ⟨_, rfl⟩
      have hG : MG [1, 2, 3, 6, 7, 8, 9, 10, 11, 12, 13, 14, 15, 16, 19, 20, 21, 22, 23] st st124 := by rw [est124]; exact hG.up (rn (n := (g3 + 1)) (by decide : mr 0 5 = 941) (by omega)) (pn (by decide : pcl 0 5 = 4) (by decide))
      rw [← est124] at hP
      refine lv_goto (tgt := 0) hx hb dX12_go_49 (by decide) ?_
      exact ih4 (gb - (g3 + 1)) _ _ _ _ (by omega) ⟨st124, sl2, (g3 + 1), rfl, ⟨by rw [est124, up2_same], by rw [est124, up2_ne (r := 0) (k := 5) (a := 0) (j := 3) _ _ (by omega), hTg3.2.1], by omega, by omega⟩, by omega, hP, hG, hL, hS, lv_sub hl [0] rfl, rfl⟩
    · refine lv_aload_n hx hb dX12_go_25 rfl (lv_at hl 0 rfl) ?_
      refine va_get (D := (dC, dI)) (ci := 11) (v := .ref (ar 1)) (C := RX12) (T := TX12) (N := 47) hx hb hts ii_X12_go hown hK hP 0 rfl rfl 1 (by decide) (hts _ mm_X12_go_3) (fun _ hh => hh) rfl dX12_go_26 ?_
      refine lv_aload_n hx hb dX12_go_29 rfl (lv_at hl 0 rfl) ?_
      refine va_get (D := (dC, dI)) (ci := 11) (v := .int (st1 0 5)) (C := RX12) (T := TX12) (N := 47) hx hb hts ii_X12_go hown hK hP 0 rfl rfl 5 (by decide) (hts _ mm_X12_go_1) (fun _ hh => hh) rfl dX12_go_30 ?_
      refine zz_top (v := (nI g3)) (by show st1 0 5 = _; rw [hTg3.1]) ?_
      refine va_iald hx hb hK hP 1 0 rfl rfl (i := (nI g3)) (vp_in_nI (by omega) (by decide)) dX12_go_33 ?_
      refine lv_topi (fun z125 ez125 => ?_)
      refine lv_bipush (v := 10) hx hb dX12_go_34 (by decide) ?_
      refine lv_icmp_ne (tgt := 52) hx hb dX12_go_36 (by decide) (fun c34 => ?_) (fun c34 => ?_)
      · exact kj8 _ _ _ _ ⟨st1, sl2, g3, ⟨by rw [hTg3.1], by rw [hTg3.2.1], by omega, by omega⟩, by omega, hP, hG, hL, hS, lv_sub hl [0] rfl, rfl⟩
      · refine lv_aload_n hx hb dX12_go_39 rfl (lv_at hl 0 rfl) ?_
        refine lv_dup hx hb dX12_go_40 rfl ?_
        refine va_get (D := (dC, dI)) (ci := 11) (v := .int (st1 0 5)) (C := RX12) (T := TX12) (N := 47) hx hb hts ii_X12_go hown hK hP 0 rfl rfl 5 (by decide) (hts _ mm_X12_go_1) (fun _ hh => hh) rfl dX12_go_41 ?_
        refine zz_top (v := (nI g3)) (by show st1 0 5 = _; rw [hTg3.1]) ?_
        refine lv_iconst (v := 1) hx hb dX12_go_44 (by decide) ?_
        refine lv_iadd hx hb dX12_go_45 ?_
        refine zz_top (v := nI (g3 + 1)) (nI_add g3 1) ?_
        refine va_put (D := (dC, dI)) (ci := 11) (v := .int (nI (g3 + 1))) (ty := .int) (C := RX12) (T := TX12) (N := 47) hx hb hts ii_X12_go tyX12 tyX12_ok nmX12 hown hK hP (mD hN _ _ _ _) hS 0 rfl rfl 5 (by decide) (hts _ mm_X12_go_1) (fun _ hh => hh) rfl (by decide +kernel) rfl rfl (Nat.le_of_ble_eq_true rfl) dX12_go_46 (fun H locs hP _ hS => ?_)
        have hP : va_P (dC, dI) vwCl (mw ar cy (up2 st1 0 5 (nI (g3 + 1))) sl2) H := hP
        obtain ⟨st126, est126⟩ : ∃ y, y = up2 st1 0 5 (nI (g3 + 1)) := ⟨_, rfl⟩
        have hG : MG [1, 2, 3, 6, 7, 8, 9, 10, 11, 12, 13, 14, 15, 16, 19, 20, 21, 22, 23] st st126 := by rw [est126]; exact hG.up (rn (n := (g3 + 1)) (by decide : mr 0 5 = 941) (by omega)) (pn (by decide : pcl 0 5 = 4) (by decide))
        rw [← est126] at hP
        refine lv_goto (tgt := 0) hx hb dX12_go_49 (by decide) ?_
        exact ih4 (gb - (g3 + 1)) _ _ _ _ (by omega) ⟨st126, sl2, (g3 + 1), rfl, ⟨by rw [est126, up2_same], by rw [est126, up2_ne (r := 0) (k := 5) (a := 0) (j := 3) _ _ (by omega), hTg3.2.1], by omega, by omega⟩, by omega, hP, hG, hL, hS, lv_sub hl [0] rfl, rfl⟩
set_option maxHeartbeats 4000000 in
set_option maxRecDepth 100000 in
theorem m_spelt (l : Launch) (dC : Nat → ClassId) (dI : Nat → Nat → Nat) (ar : Nat → Nat) (cy : Nat → ClassId) (sz : Nat) (hN : MN ar) (st : Nat → Nat → Int32) (sl : Nat → Nat → Int64) (va : Int32) (vb : Int32) (vc : Int32) (vd : Int32) (ve : Int32) (vf : Int32) (vg : Int32) (hI : MI st) : Met l yX12_spelt wsX12_spelt ({ frames := 0, cells := 0, slots := 0, locals := 0 }) (va_Pc [.int va, .int vb, .int vc, .int vd, .int ve, .int vf, .int vg] (mPre dC dI ar cy sz st sl)) (va_Ql (fun (r : Int64) (x : MT) => x = (st, sl) ∧ (True)) (mB dC dI ar cy) (MA ar sz)) 0 0 (MA ar sz) := by
  refine Met.ofW (cc := cX12_spelt) (maxL := 9) (ret := (some .long)) (by decide) rfl ?_
  intro p e s m args below meth c s₁ B hml hv
  obtain ⟨rfl, hsz, hP, hK⟩ := hv
  have hx := B.exec
  have hb := B.bytes
  have hr := B.returns
  have hts := atoms_spec (ws := wsX12_spelt) B.pre
  have hown : s.vm.findClass RX12 = some m.cls := findClass_of_methodNamed B.named
  subst hsz
  have hS : va_S (MA ar s.heap.size) s.heap s.heap [] := va_S.rf
  have hG : MG [1, 2, 3, 4, 5, 6, 7, 8, 9, 10, 11, 12, 13, 14, 15, 16, 17, 19, 20, 21, 22, 23] st st := MG.rf hI
  have hl := lv_entry ([.int va, .int vb, .int vc, .int vd, .int ve, .int vf, .int vg]) (n := 9) (Nat.le_of_ble_eq_true rfl)
  rw [lg_entry_eq]
  generalize (lg_sl ([.int va, .int vb, .int vc, .int vd, .int ve, .int vf, .int vg]) ++ List.replicate (9 - (lg_sl ([.int va, .int vb, .int vc, .int vd, .int ve, .int vf, .int vg])).length) Slot.unset).toArray = ls at hl ⊢
  have hl : lv_has ls 9 [(0, .int va), (1, .int vb), (2, .int vc), (3, .int vd), (4, .int ve), (5, .int vf), (6, .int vg)] := hl
  clear hI
  refine lv_ldc2 (v := 27) hx hb hown (hts _ mm_X12_spelt_1) dX12_spelt_0 ?_
  refine lv_iload_n hx hb dX12_spelt_3 rfl (lv_at hl 0 rfl) ?_
  refine lv_i2l hx hb dX12_spelt_4 rfl ?_
  refine lv_topl (fun z1 ez1 => ?_)
  clear ez1
  refine lv_ldc2 (v := 96) hx hb hown (hts _ mm_X12_spelt_2) dX12_spelt_5 ?_
  refine lv_lsub hx hb dX12_spelt_8 ?_
  refine lv_topl (fun z2 ez2 => ?_)
  clear ez2
  refine lv_lmul hx hb dX12_spelt_9 ?_
  refine lv_topl (fun z3 ez3 => ?_)
  clear ez3
  refine lv_iload_n hx hb dX12_spelt_10 rfl (lv_at hl 1 rfl) ?_
  refine lv_i2l hx hb dX12_spelt_11 rfl ?_
  refine lv_topl (fun z4 ez4 => ?_)
  clear ez4
  refine lv_ladd hx hb dX12_spelt_12 ?_
  refine lv_topl (fun z5 ez5 => ?_)
  clear ez5
  refine lv_ldc2 (v := 96) hx hb hown (hts _ mm_X12_spelt_2) dX12_spelt_13 ?_
  refine lv_lsub hx hb dX12_spelt_16 ?_
  refine lv_topl (fun z6 ez6 => ?_)
  clear ez6
  refine lv_lstore (lv' := [(7, .long z6), (0, .int va), (1, .int vb), (2, .int vc), (3, .int vd), (4, .int ve), (5, .int vf), (6, .int vg)]) hx hb dX12_spelt_17 hl (by decide) rfl (fun ls hl => ?_)
  refine lv_iload_n hx hb dX12_spelt_19 rfl (lv_at hl 3 rfl) ?_
  refine zz_join (pcJ := 38) (fun stk H locs ls => ∃ z7 : Int64, va_P (dC, dI) vwCl (mw ar cy st sl) H ∧ va_S (MA ar s.heap.size) s.heap H locs ∧ lv_has ls 9 [(7, .long z7), (0, .int va), (1, .int vb), (2, .int vc), (3, .int vd), (4, .int ve), (5, .int vf), (6, .int vg)] ∧ stk = []) ?_ (fun kj8 => ?_)
  · rintro stk H locs ls ⟨z7, hP, hS, hl, rfl⟩
    refine lv_iload_n hx hb dX12_spelt_38 rfl (lv_at hl 4 rfl) ?_
    refine zz_join (pcJ := 57) (fun stk H locs ls => ∃ z9 : Int64, va_P (dC, dI) vwCl (mw ar cy st sl) H ∧ va_S (MA ar s.heap.size) s.heap H locs ∧ lv_has ls 9 [(7, .long z9), (0, .int va), (1, .int vb), (2, .int vc), (3, .int vd), (4, .int ve), (5, .int vf), (6, .int vg)] ∧ stk = []) ?_ (fun kj10 => ?_)
    · rintro stk H locs ls ⟨z9, hP, hS, hl, rfl⟩
      refine lv_iload hx hb dX12_spelt_57 (lv_at hl 5 rfl) ?_
      refine zz_join (pcJ := 78) (fun stk H locs ls => ∃ z11 : Int64, va_P (dC, dI) vwCl (mw ar cy st sl) H ∧ va_S (MA ar s.heap.size) s.heap H locs ∧ lv_has ls 9 [(7, .long z11), (0, .int va), (1, .int vb), (2, .int vc), (3, .int vd), (4, .int ve), (5, .int vf), (6, .int vg)] ∧ stk = []) ?_ (fun kj12 => ?_)
      · rintro stk H locs ls ⟨z11, hP, hS, hl, rfl⟩
        refine lv_iload hx hb dX12_spelt_78 (lv_at hl 6 rfl) ?_
        refine zz_join (pcJ := 99) (fun stk H locs ls => ∃ z13 : Int64, va_P (dC, dI) vwCl (mw ar cy st sl) H ∧ va_S (MA ar s.heap.size) s.heap H locs ∧ lv_has ls 9 [(7, .long z13), (0, .int va), (1, .int vb), (2, .int vc), (3, .int vd), (4, .int ve), (5, .int vf), (6, .int vg)] ∧ stk = []) ?_ (fun kj14 => ?_)
        · rintro stk H locs ls ⟨z13, hP, hS, hl, rfl⟩
          refine lv_iload hx hb dX12_spelt_99 (lv_at hl 7 rfl) ?_
          refine zz_join (pcJ := 120) (fun stk H locs ls => ∃ z15 : Int64, va_P (dC, dI) vwCl (mw ar cy st sl) H ∧ va_S (MA ar s.heap.size) s.heap H locs ∧ lv_has ls 9 [(7, .long z15), (0, .int va), (1, .int vb), (2, .int vc), (3, .int vd), (4, .int ve), (5, .int vf), (6, .int vg)] ∧ stk = []) ?_ (fun kj16 => ?_)
          · rintro stk H locs ls ⟨z15, hP, hS, hl, rfl⟩
            refine lv_lload hx hb dX12_spelt_120 (lv_at hl 0 rfl) ?_
            exact W.lret (v := z15) hx hb hr (fun t ht hW => ⟨⟨z15, (st, sl), rfl, ⟨rfl, trivial⟩, mB.of ht hP⟩, hS.F ht⟩) hS.2.2 dX12_spelt_122
          refine lv_if_le (tgt := 120) hx hb dX12_spelt_101 (by decide) (fun c1 => ?_) (fun c1 => ?_)
          · exact kj16 _ _ _ _ ⟨z13, hP, hS, lv_sub hl [0, 1, 2, 3, 4, 5, 6, 7] rfl, rfl⟩
          · refine lv_ldc2 (v := 27) hx hb hown (hts _ mm_X12_spelt_1) dX12_spelt_104 ?_
            refine lv_lload hx hb dX12_spelt_107 (lv_at hl 0 rfl) ?_
            refine lv_lmul hx hb dX12_spelt_109 ?_
            refine lv_topl (fun z17 ez17 => ?_)
            clear ez17
            refine lv_iload hx hb dX12_spelt_110 (lv_at hl 7 rfl) ?_
            refine lv_i2l hx hb dX12_spelt_112 rfl ?_
            refine lv_topl (fun z18 ez18 => ?_)
            clear ez18
            refine lv_ladd hx hb dX12_spelt_113 ?_
            refine lv_topl (fun z19 ez19 => ?_)
            clear ez19
            refine lv_ldc2 (v := 96) hx hb hown (hts _ mm_X12_spelt_2) dX12_spelt_114 ?_
            refine lv_lsub hx hb dX12_spelt_117 ?_
            refine lv_topl (fun z20 ez20 => ?_)
            clear ez20
            refine lv_lstore (lv' := [(7, .long z20), (0, .int va), (1, .int vb), (2, .int vc), (3, .int vd), (4, .int ve), (5, .int vf), (6, .int vg)]) hx hb dX12_spelt_118 hl (by decide) rfl (fun ls hl => ?_)
            exact kj16 _ _ _ _ ⟨z20, hP, hS, lv_sub hl [0, 1, 2, 3, 4, 5, 6, 7] rfl, rfl⟩
        refine lv_if_le (tgt := 99) hx hb dX12_spelt_80 (by decide) (fun c2 => ?_) (fun c2 => ?_)
        · exact kj14 _ _ _ _ ⟨z11, hP, hS, lv_sub hl [0, 1, 2, 3, 4, 5, 6, 7] rfl, rfl⟩
        · refine lv_ldc2 (v := 27) hx hb hown (hts _ mm_X12_spelt_1) dX12_spelt_83 ?_
          refine lv_lload hx hb dX12_spelt_86 (lv_at hl 0 rfl) ?_
          refine lv_lmul hx hb dX12_spelt_88 ?_
          refine lv_topl (fun z21 ez21 => ?_)
          clear ez21
          refine lv_iload hx hb dX12_spelt_89 (lv_at hl 6 rfl) ?_
          refine lv_i2l hx hb dX12_spelt_91 rfl ?_
          refine lv_topl (fun z22 ez22 => ?_)
          clear ez22
          refine lv_ladd hx hb dX12_spelt_92 ?_
          refine lv_topl (fun z23 ez23 => ?_)
          clear ez23
          refine lv_ldc2 (v := 96) hx hb hown (hts _ mm_X12_spelt_2) dX12_spelt_93 ?_
          refine lv_lsub hx hb dX12_spelt_96 ?_
          refine lv_topl (fun z24 ez24 => ?_)
          clear ez24
          refine lv_lstore (lv' := [(7, .long z24), (0, .int va), (1, .int vb), (2, .int vc), (3, .int vd), (4, .int ve), (5, .int vf), (6, .int vg)]) hx hb dX12_spelt_97 hl (by decide) rfl (fun ls hl => ?_)
          exact kj14 _ _ _ _ ⟨z24, hP, hS, lv_sub hl [0, 1, 2, 3, 4, 5, 6, 7] rfl, rfl⟩
      refine lv_if_le (tgt := 78) hx hb dX12_spelt_59 (by decide) (fun c3 => ?_) (fun c3 => ?_)
      · exact kj12 _ _ _ _ ⟨z9, hP, hS, lv_sub hl [0, 1, 2, 3, 4, 5, 6, 7] rfl, rfl⟩
      · refine lv_ldc2 (v := 27) hx hb hown (hts _ mm_X12_spelt_1) dX12_spelt_62 ?_
        refine lv_lload hx hb dX12_spelt_65 (lv_at hl 0 rfl) ?_
        refine lv_lmul hx hb dX12_spelt_67 ?_
        refine lv_topl (fun z25 ez25 => ?_)
        clear ez25
        refine lv_iload hx hb dX12_spelt_68 (lv_at hl 5 rfl) ?_
        refine lv_i2l hx hb dX12_spelt_70 rfl ?_
        refine lv_topl (fun z26 ez26 => ?_)
        clear ez26
        refine lv_ladd hx hb dX12_spelt_71 ?_
        refine lv_topl (fun z27 ez27 => ?_)
        clear ez27
        refine lv_ldc2 (v := 96) hx hb hown (hts _ mm_X12_spelt_2) dX12_spelt_72 ?_
        refine lv_lsub hx hb dX12_spelt_75 ?_
        refine lv_topl (fun z28 ez28 => ?_)
        clear ez28
        refine lv_lstore (lv' := [(7, .long z28), (0, .int va), (1, .int vb), (2, .int vc), (3, .int vd), (4, .int ve), (5, .int vf), (6, .int vg)]) hx hb dX12_spelt_76 hl (by decide) rfl (fun ls hl => ?_)
        exact kj12 _ _ _ _ ⟨z28, hP, hS, lv_sub hl [0, 1, 2, 3, 4, 5, 6, 7] rfl, rfl⟩
    refine lv_if_le (tgt := 57) hx hb dX12_spelt_39 (by decide) (fun c4 => ?_) (fun c4 => ?_)
    · exact kj10 _ _ _ _ ⟨z7, hP, hS, lv_sub hl [0, 1, 2, 3, 4, 5, 6, 7] rfl, rfl⟩
    · refine lv_ldc2 (v := 27) hx hb hown (hts _ mm_X12_spelt_1) dX12_spelt_42 ?_
      refine lv_lload hx hb dX12_spelt_45 (lv_at hl 0 rfl) ?_
      refine lv_lmul hx hb dX12_spelt_47 ?_
      refine lv_topl (fun z29 ez29 => ?_)
      clear ez29
      refine lv_iload_n hx hb dX12_spelt_48 rfl (lv_at hl 4 rfl) ?_
      refine lv_i2l hx hb dX12_spelt_49 rfl ?_
      refine lv_topl (fun z30 ez30 => ?_)
      clear ez30
      refine lv_ladd hx hb dX12_spelt_50 ?_
      refine lv_topl (fun z31 ez31 => ?_)
      clear ez31
      refine lv_ldc2 (v := 96) hx hb hown (hts _ mm_X12_spelt_2) dX12_spelt_51 ?_
      refine lv_lsub hx hb dX12_spelt_54 ?_
      refine lv_topl (fun z32 ez32 => ?_)
      clear ez32
      refine lv_lstore (lv' := [(7, .long z32), (0, .int va), (1, .int vb), (2, .int vc), (3, .int vd), (4, .int ve), (5, .int vf), (6, .int vg)]) hx hb dX12_spelt_55 hl (by decide) rfl (fun ls hl => ?_)
      exact kj10 _ _ _ _ ⟨z32, hP, hS, lv_sub hl [0, 1, 2, 3, 4, 5, 6, 7] rfl, rfl⟩
  refine lv_if_le (tgt := 38) hx hb dX12_spelt_20 (by decide) (fun c5 => ?_) (fun c5 => ?_)
  · exact kj8 _ _ _ _ ⟨z6, hP, hS, lv_sub hl [0, 1, 2, 3, 4, 5, 6, 7] rfl, rfl⟩
  · refine lv_ldc2 (v := 27) hx hb hown (hts _ mm_X12_spelt_1) dX12_spelt_23 ?_
    refine lv_lload hx hb dX12_spelt_26 (lv_at hl 0 rfl) ?_
    refine lv_lmul hx hb dX12_spelt_28 ?_
    refine lv_topl (fun z33 ez33 => ?_)
    clear ez33
    refine lv_iload_n hx hb dX12_spelt_29 rfl (lv_at hl 3 rfl) ?_
    refine lv_i2l hx hb dX12_spelt_30 rfl ?_
    refine lv_topl (fun z34 ez34 => ?_)
    clear ez34
    refine lv_ladd hx hb dX12_spelt_31 ?_
    refine lv_topl (fun z35 ez35 => ?_)
    clear ez35
    refine lv_ldc2 (v := 96) hx hb hown (hts _ mm_X12_spelt_2) dX12_spelt_32 ?_
    refine lv_lsub hx hb dX12_spelt_35 ?_
    refine lv_topl (fun z36 ez36 => ?_)
    clear ez36
    refine lv_lstore (lv' := [(7, .long z36), (0, .int va), (1, .int vb), (2, .int vc), (3, .int vd), (4, .int ve), (5, .int vf), (6, .int vg)]) hx hb dX12_spelt_36 hl (by decide) rfl (fun ls hl => ?_)
    exact kj8 _ _ _ _ ⟨z36, hP, hS, lv_sub hl [0, 1, 2, 3, 4, 5, 6, 7] rfl, rfl⟩
