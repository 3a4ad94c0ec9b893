set_option maxHeartbeats 4000000 in
set_option maxRecDepth 100000 in
theorem m_holds_20 (l : Launch) (dC : Nat → ClassId) (dI : Nat → Nat → Nat) (ar : Nat → Nat) (cy : Nat → ClassId) (sz : Nat) (hN : MN ar) (st : Nat → Nat → Int32) (sl : Nat → Nat → Int64) (va : Nat) (vb : Nat) (hva : va < 21) (hvb : vb < 8) (hI : MI st) (hNK : NKn st) : Met l yX12_holds wsX12_holds ({ frames := 24, cells := 0, slots := 0, locals := 628 }) (va_Pc [.ref (ar 0), .int (nI va), .int (nI vb)] (mPre dC dI ar cy sz st sl)) (va_Qi (fun (r : Int32) (x : MT) => x = (st, sl) ∧ ((r = 1) ∨ (r = 0))) (mB dC dI ar cy) (MA ar sz)) 0 0 (MA ar sz) := by
  refine Met.ofW (cc := cX12_holds) (maxL := 8) (ret := (some .boolean)) (by decide) rfl ?_
  intro p e s m args below meth c s₁ B hml hv
  obtain ⟨rfl, hsz, hP, hK⟩ := hv
  have hx := B.exec
  have hb := B.bytes
  have hr := B.returns
  have hts := atoms_spec (ws := wsX12_holds) B.pre
  have hown : s.vm.findClass RX12 = some m.cls := findClass_of_methodNamed B.named
  subst hsz
  have hS : va_S (MA ar s.heap.size) s.heap s.heap [] := va_S.rf
  have hG : MG [1, 2, 3, 4, 5, 6, 7, 8, 9, 10, 11, 12, 13, 14, 15, 16, 17, 19] st st := MG.rf hI
  have hl := lv_entry ([.ref (ar 0), .int (nI va), .int (nI vb)]) (n := 8) (Nat.le_of_ble_eq_true rfl)
  rw [lg_entry_eq]
  generalize (lg_sl ([.ref (ar 0), .int (nI va), .int (nI vb)]) ++ List.replicate (8 - (lg_sl ([.ref (ar 0), .int (nI va), .int (nI vb)])).length) Slot.unset).toArray = ls at hl ⊢
  have hl : lv_has ls 8 [(0, .ref (ar 0)), (1, .int (nI va)), (2, .int (nI vb))] := hl
  clear hI
  have hOK := hNK va (by omega)
  unfold nodeOK at hOK
  refine lv_sipush (v := 133) hx hb dX12_holds_0 (by decide) ?_
  refine lv_iconst (v := 4) hx hb dX12_holds_3 (by decide) ?_
  refine lv_iload_n hx hb dX12_holds_4 rfl (lv_at hl 1 rfl) ?_
  refine lv_imul hx hb dX12_holds_5 ?_
  refine zz_top (v := nI (4 * va)) (nI_mul 4 va) ?_
  refine lv_iadd hx hb dX12_holds_6 ?_
  refine zz_top (v := nI (133 + (4 * va))) (nI_add 133 (4 * va)) ?_
  refine lv_istore_n (lv' := [(3, .int (nI (133 + (4 * va)))), (0, .ref (ar 0)), (1, .int (nI va)), (2, .int (nI vb))]) hx hb dX12_holds_7 rfl hl (by decide) rfl (fun ls hl => ?_)
  refine lv_aload_n hx hb dX12_holds_8 rfl (lv_at hl 1 rfl) ?_
  refine va_get (D := (dC, dI)) (ci := 11) (v := .ref (ar 2)) (C := RX12) (T := TX12) (N := 47) hx hb hts ii_X12_holds hown hK hP 0 rfl rfl 14 (by decide) (hts _ mm_X12_holds_1) (fun _ hh => hh) rfl dX12_holds_9 ?_
  refine lv_iload_n hx hb dX12_holds_12 rfl (lv_at hl 0 rfl) ?_
  refine lv_iconst (v := 1) hx hb dX12_holds_13 (by decide) ?_
  refine lv_iadd hx hb dX12_holds_14 ?_
  refine zz_top (v := nI ((133 + (4 * va)) + 1)) (nI_add (133 + (4 * va)) 1) ?_
  refine va_iald hx hb hK hP 2 1 rfl rfl (i := (nI ((133 + (4 * va)) + 1))) (vp_in_nI (by omega) (by decide)) dX12_holds_15 ?_
  refine zz_top (v := st 2 ((133 + (4 * va)) + 1)) (by rw [nI_clamp (by omega)]) ?_
  refine lv_topi (fun z1 ez1 => ?_)
  refine lv_istore (lv' := [(4, .int z1), (3, .int (nI (133 + (4 * va)))), (0, .ref (ar 0)), (1, .int (nI va)), (2, .int (nI vb))]) hx hb dX12_holds_16 hl (by decide) rfl (fun ls hl => ?_)
  refine lv_aload_n hx hb dX12_holds_18 rfl (lv_at hl 2 rfl) ?_
  refine va_get (D := (dC, dI)) (ci := 11) (v := .ref (ar 2)) (C := RX12) (T := TX12) (N := 47) hx hb hts ii_X12_holds hown hK hP 0 rfl rfl 14 (by decide) (hts _ mm_X12_holds_1) (fun _ hh => hh) rfl dX12_holds_19 ?_
  refine lv_iload_n hx hb dX12_holds_22 rfl (lv_at hl 1 rfl) ?_
  refine lv_iconst (v := 2) hx hb dX12_holds_23 (by decide) ?_
  refine lv_iadd hx hb dX12_holds_24 ?_
  refine zz_top (v := nI ((133 + (4 * va)) + 2)) (nI_add (133 + (4 * va)) 2) ?_
  refine va_iald hx hb hK hP 2 1 rfl rfl (i := (nI ((133 + (4 * va)) + 2))) (vp_in_nI (by omega) (by decide)) dX12_holds_25 ?_
  refine zz_top (v := st 2 ((133 + (4 * va)) + 2)) (by rw [nI_clamp (by omega)]) ?_
  refine lv_topi (fun z2 ez2 => ?_)
  refine lv_istore (lv' := [(5, .int z2), (4, .int z1), (3, .int (nI (133 + (4 * va)))), (0, .ref (ar 0)), (1, .int (nI va)), (2, .int (nI vb))]) hx hb dX12_holds_26 hl (by decide) rfl (fun ls hl => ?_)
  refine lv_aload_n hx hb dX12_holds_28 rfl (lv_at hl 3 rfl) ?_
  refine va_get (D := (dC, dI)) (ci := 11) (v := .ref (ar 2)) (C := RX12) (T := TX12) (N := 47) hx hb hts ii_X12_holds hown hK hP 0 rfl rfl 14 (by decide) (hts _ mm_X12_holds_1) (fun _ hh => hh) rfl dX12_holds_29 ?_
  refine lv_iload_n hx hb dX12_holds_32 rfl (lv_at hl 2 rfl) ?_
  refine va_iald hx hb hK hP 2 1 rfl rfl (i := (nI (133 + (4 * va)))) (vp_in_nI (by omega) (by decide)) dX12_holds_33 ?_
  refine zz_top (v := st 2 (133 + (4 * va))) (by rw [nI_clamp (by omega)]) ?_
  refine lv_topi (fun z3 ez3 => ?_)
  by_cases cw4 : z3 = 1
  · subst cw4
    refine lv_lookup (off := 66) (tgt := 100) hx hb dX12_holds_34 (by decide) (by decide) (by decide) ?_
    obtain ⟨nx, hnx, enx⟩ := hOK.1 ez3.symm
    obtain rfl : z1 = nI nx := ez1.trans enx
    refine lv_aload_n hx hb dX12_holds_100 rfl (lv_at hl 3 rfl) ?_
    refine lv_iload hx hb dX12_holds_101 (lv_at hl 1 rfl) ?_
    refine lv_iload_n hx hb dX12_holds_103 rfl (lv_at hl 5 rfl) ?_
    refine va_calli (va_runV (As := [.int (nI nx), .int (nI vb)]) (rest := []) ⟨hx, hb, hml, hown, hts⟩ (m_holds_19 l dC dI ar cy _ hN st sl nx vb (by omega) (by omega) hG.1 (hNK)) (cwV 2 hts gX12_holds_X12_holds rfl rfl rfl (by decide +kernel) ⟨Nat.le_of_ble_eq_true rfl, Nat.le_of_ble_eq_true rfl⟩) ⟨fun a U g mk q => ⟨q.1, mPre.blind q.2⟩, va_recv hK hP (ci := 11) (q0 := 0) rfl rfl, fun U hU hW => ⟨rfl, mPre.of hP hK hU hW⟩⟩ rfl rfl hl.1 rfl (lv_room (Nat.le_of_ble_eq_true rfl)) dX12_holds_104 ⟨Nat.le_of_ble_eq_true rfl, Nat.le_of_ble_eq_true rfl⟩) hS (fun q _ h => MA.le hS.1 q h) (MA.le hS.1) (fun r5 x t H locs ht hvm hw hB _ _ hS => ?_)
    have hP := mB.at ht hB
    clear hB ht hvm
    obtain ⟨rfl, hw⟩ := hw
    have hP : va_P (dC, dI) vwCl (mw ar cy st sl) _ := hP
    rcases hw with rfl | rfl
    · refine lv_if_ne (tgt := 114) hx hb dX12_holds_107 (by decide) (fun _ => ?_) (fun cc => absurd cc (by decide))
      refine lv_iconst (v := 0) hx hb dX12_holds_114 (by decide) ?_
      exact W.zret (v := 0) hx hb hr rfl (fun t ht hW => ⟨⟨0, (st, sl), rfl, ⟨rfl, Or.inr (rfl)⟩, mB.of ht hP⟩, hS.F ht⟩) hS.2.2 dX12_holds_115
    · refine lv_if_ne (tgt := 114) hx hb dX12_holds_107 (by decide) (fun cc => absurd (by decide) cc) (fun _ => ?_)
      refine lv_iconst (v := 1) hx hb dX12_holds_110 (by decide) ?_
      refine lv_goto (tgt := 115) hx hb dX12_holds_111 (by decide) ?_
      exact W.zret (v := 1) hx hb hr rfl (fun t ht hW => ⟨⟨1, (st, sl), rfl, ⟨rfl, Or.inl (rfl)⟩, mB.of ht hP⟩, hS.F ht⟩) hS.2.2 dX12_holds_115
  by_cases cw6 : z3 = 2
  · subst cw6
    refine lv_lookup (off := 82) (tgt := 116) hx hb dX12_holds_34 (by decide) (by decide) (by decide) ?_
    obtain ⟨⟨nx, hnx, enx⟩, ny, hny, eny⟩ := hOK.2.1 (Or.inl ez3.symm)
    obtain rfl : z1 = nI nx := ez1.trans enx
    obtain rfl : z2 = nI ny := ez2.trans eny
    refine lv_aload_n hx hb dX12_holds_116 rfl (lv_at hl 3 rfl) ?_
    refine lv_iload hx hb dX12_holds_117 (lv_at hl 1 rfl) ?_
    refine lv_iload_n hx hb dX12_holds_119 rfl (lv_at hl 5 rfl) ?_
    refine va_calli (va_runV (As := [.int (nI nx), .int (nI vb)]) (rest := []) ⟨hx, hb, hml, hown, hts⟩ (m_holds_19 l dC dI ar cy _ hN st sl nx vb (by omega) (by omega) hG.1 (hNK)) (cwV 2 hts gX12_holds_X12_holds rfl rfl rfl (by decide +kernel) ⟨Nat.le_of_ble_eq_true rfl, Nat.le_of_ble_eq_true rfl⟩) ⟨fun a U g mk q => ⟨q.1, mPre.blind q.2⟩, va_recv hK hP (ci := 11) (q0 := 0) rfl rfl, fun U hU hW => ⟨rfl, mPre.of hP hK hU hW⟩⟩ rfl rfl hl.1 rfl (lv_room (Nat.le_of_ble_eq_true rfl)) dX12_holds_120 ⟨Nat.le_of_ble_eq_true rfl, Nat.le_of_ble_eq_true rfl⟩) hS (fun q _ h => MA.le hS.1 q h) (MA.le hS.1) (fun r7 x t H locs ht hvm hw hB _ _ hS => ?_)
    have hP := mB.at ht hB
    clear hB ht hvm
    obtain ⟨rfl, hw⟩ := hw
    have hP : va_P (dC, dI) vwCl (mw ar cy st sl) _ := hP
    rcases hw with rfl | rfl
    · refine lv_if_eq (tgt := 140) hx hb dX12_holds_123 (by decide) (fun cc => absurd cc (by decide)) (fun _ => ?_)
      refine lv_aload_n hx hb dX12_holds_126 rfl (lv_at hl 3 rfl) ?_
      refine lv_iload hx hb dX12_holds_127 (lv_at hl 0 rfl) ?_
      refine lv_iload_n hx hb dX12_holds_129 rfl (lv_at hl 5 rfl) ?_
      refine va_calli (va_runV (As := [.int (nI ny), .int (nI vb)]) (rest := []) ⟨hx, hb, hml, hown, hts⟩ (m_holds_19 l dC dI ar cy _ hN st sl ny vb (by omega) (by omega) hG.1 (hNK)) (cwV 2 hts gX12_holds_X12_holds rfl rfl rfl (by decide +kernel) ⟨Nat.le_of_ble_eq_true rfl, Nat.le_of_ble_eq_true rfl⟩) ⟨fun a U g mk q => ⟨q.1, mPre.blind q.2⟩, va_recv hK hP (ci := 11) (q0 := 0) rfl rfl, fun U hU hW => ⟨rfl, mPre.of hP hK hU hW⟩⟩ rfl rfl hl.1 rfl (lv_room (Nat.le_of_ble_eq_true rfl)) dX12_holds_130 ⟨Nat.le_of_ble_eq_true rfl, Nat.le_of_ble_eq_true rfl⟩) hS (fun q _ h => MA.le hS.1 q h) (MA.le hS.1) (fun r8 x t H locs ht hvm hw hB _ _ hS => ?_)
      have hP := mB.at ht hB
      clear hB ht hvm
      obtain ⟨rfl, hw⟩ := hw
      have hP : va_P (dC, dI) vwCl (mw ar cy st sl) _ := hP
      rcases hw with rfl | rfl
      · refine lv_if_eq (tgt := 140) hx hb dX12_holds_133 (by decide) (fun cc => absurd cc (by decide)) (fun _ => ?_)
        refine lv_iconst (v := 1) hx hb dX12_holds_136 (by decide) ?_
        refine lv_goto (tgt := 141) hx hb dX12_holds_137 (by decide) ?_
        exact W.zret (v := 1) hx hb hr rfl (fun t ht hW => ⟨⟨1, (st, sl), rfl, ⟨rfl, Or.inl (rfl)⟩, mB.of ht hP⟩, hS.F ht⟩) hS.2.2 dX12_holds_141
      · refine lv_if_eq (tgt := 140) hx hb dX12_holds_133 (by decide) (fun _ => ?_) (fun cc => absurd (by decide) cc)
        refine lv_iconst (v := 0) hx hb dX12_holds_140 (by decide) ?_
        exact W.zret (v := 0) hx hb hr rfl (fun t ht hW => ⟨⟨0, (st, sl), rfl, ⟨rfl, Or.inr (rfl)⟩, mB.of ht hP⟩, hS.F ht⟩) hS.2.2 dX12_holds_141
    · refine lv_if_eq (tgt := 140) hx hb dX12_holds_123 (by decide) (fun _ => ?_) (fun cc => absurd (by decide) cc)
      refine lv_iconst (v := 0) hx hb dX12_holds_140 (by decide) ?_
      exact W.zret (v := 0) hx hb hr rfl (fun t ht hW => ⟨⟨0, (st, sl), rfl, ⟨rfl, Or.inr (rfl)⟩, mB.of ht hP⟩, hS.F ht⟩) hS.2.2 dX12_holds_141
  by_cases cw9 : z3 = 3
  · subst cw9
    refine lv_lookup (off := 108) (tgt := 142) hx hb dX12_holds_34 (by decide) (by decide) (by decide) ?_
    obtain ⟨⟨nx, hnx, enx⟩, ny, hny, eny⟩ := hOK.2.1 (Or.inr ez3.symm)
    obtain rfl : z1 = nI nx := ez1.trans enx
    obtain rfl : z2 = nI ny := ez2.trans eny
    refine lv_aload_n hx hb dX12_holds_142 rfl (lv_at hl 3 rfl) ?_
    refine lv_iload hx hb dX12_holds_143 (lv_at hl 1 rfl) ?_
    refine lv_iload_n hx hb dX12_holds_145 rfl (lv_at hl 5 rfl) ?_
    refine va_calli (va_runV (As := [.int (nI nx), .int (nI vb)]) (rest := []) ⟨hx, hb, hml, hown, hts⟩ (m_holds_19 l dC dI ar cy _ hN st sl nx vb (by omega) (by omega) hG.1 (hNK)) (cwV 2 hts gX12_holds_X12_holds rfl rfl rfl (by decide +kernel) ⟨Nat.le_of_ble_eq_true rfl, Nat.le_of_ble_eq_true rfl⟩) ⟨fun a U g mk q => ⟨q.1, mPre.blind q.2⟩, va_recv hK hP (ci := 11) (q0 := 0) rfl rfl, fun U hU hW => ⟨rfl, mPre.of hP hK hU hW⟩⟩ rfl rfl hl.1 rfl (lv_room (Nat.le_of_ble_eq_true rfl)) dX12_holds_146 ⟨Nat.le_of_ble_eq_true rfl, Nat.le_of_ble_eq_true rfl⟩) hS (fun q _ h => MA.le hS.1 q h) (MA.le hS.1) (fun r10 x t H locs ht hvm hw hB _ _ hS => ?_)
    have hP := mB.at ht hB
    clear hB ht hvm
    obtain ⟨rfl, hw⟩ := hw
    have hP : va_P (dC, dI) vwCl (mw ar cy st sl) _ := hP
    rcases hw with rfl | rfl
    · refine lv_if_ne (tgt := 162) hx hb dX12_holds_149 (by decide) (fun _ => ?_) (fun cc => absurd cc (by decide))
      refine lv_iconst (v := 1) hx hb dX12_holds_162 (by decide) ?_
      refine lv_goto (tgt := 167) hx hb dX12_holds_163 (by decide) ?_
      exact W.zret (v := 1) hx hb hr rfl (fun t ht hW => ⟨⟨1, (st, sl), rfl, ⟨rfl, Or.inl (rfl)⟩, mB.of ht hP⟩, hS.F ht⟩) hS.2.2 dX12_holds_167
    · refine lv_if_ne (tgt := 162) hx hb dX12_holds_149 (by decide) (fun cc => absurd (by decide) cc) (fun _ => ?_)
      refine lv_aload_n hx hb dX12_holds_152 rfl (lv_at hl 3 rfl) ?_
      refine lv_iload hx hb dX12_holds_153 (lv_at hl 0 rfl) ?_
      refine lv_iload_n hx hb dX12_holds_155 rfl (lv_at hl 5 rfl) ?_
      refine va_calli (va_runV (As := [.int (nI ny), .int (nI vb)]) (rest := []) ⟨hx, hb, hml, hown, hts⟩ (m_holds_19 l dC dI ar cy _ hN st sl ny vb (by omega) (by omega) hG.1 (hNK)) (cwV 2 hts gX12_holds_X12_holds rfl rfl rfl (by decide +kernel) ⟨Nat.le_of_ble_eq_true rfl, Nat.le_of_ble_eq_true rfl⟩) ⟨fun a U g mk q => ⟨q.1, mPre.blind q.2⟩, va_recv hK hP (ci := 11) (q0 := 0) rfl rfl, fun U hU hW => ⟨rfl, mPre.of hP hK hU hW⟩⟩ rfl rfl hl.1 rfl (lv_room (Nat.le_of_ble_eq_true rfl)) dX12_holds_156 ⟨Nat.le_of_ble_eq_true rfl, Nat.le_of_ble_eq_true rfl⟩) hS (fun q _ h => MA.le hS.1 q h) (MA.le hS.1) (fun r11 x t H locs ht hvm hw hB _ _ hS => ?_)
      have hP := mB.at ht hB
      clear hB ht hvm
      obtain ⟨rfl, hw⟩ := hw
      have hP : va_P (dC, dI) vwCl (mw ar cy st sl) _ := hP
      rcases hw with rfl | rfl
      · refine lv_if_eq (tgt := 166) hx hb dX12_holds_159 (by decide) (fun cc => absurd cc (by decide)) (fun _ => ?_)
        refine lv_iconst (v := 1) hx hb dX12_holds_162 (by decide) ?_
        refine lv_goto (tgt := 167) hx hb dX12_holds_163 (by decide) ?_
        exact W.zret (v := 1) hx hb hr rfl (fun t ht hW => ⟨⟨1, (st, sl), rfl, ⟨rfl, Or.inl (rfl)⟩, mB.of ht hP⟩, hS.F ht⟩) hS.2.2 dX12_holds_167
      · refine lv_if_eq (tgt := 166) hx hb dX12_holds_159 (by decide) (fun _ => ?_) (fun cc => absurd (by decide) cc)
        refine lv_iconst (v := 0) hx hb dX12_holds_166 (by decide) ?_
        exact W.zret (v := 0) hx hb hr rfl (fun t ht hW => ⟨⟨0, (st, sl), rfl, ⟨rfl, Or.inr (rfl)⟩, mB.of ht hP⟩, hS.F ht⟩) hS.2.2 dX12_holds_167
  by_cases cw12 : z3 = 66
  · subst cw12
    refine lv_lookup (off := 134) (tgt := 168) hx hb dX12_holds_34 (by decide) (by decide) (by decide) ?_
    refine lv_aload_n hx hb dX12_holds_168 rfl (lv_at hl 3 rfl) ?_
    refine lv_iload_n hx hb dX12_holds_169 rfl (lv_at hl 5 rfl) ?_
    refine va_calli (va_runV (As := [.int (nI vb)]) (rest := []) ⟨hx, hb, hml, hown, hts⟩ (m_isAway l dC dI ar cy _ hN st sl vb (by omega) hG.1) (cwV 1 hts gX12_holds_X12_isAway rfl rfl rfl (by decide +kernel) ⟨Nat.le_of_ble_eq_true rfl, Nat.le_of_ble_eq_true rfl⟩) ⟨fun a U g mk q => ⟨q.1, mPre.blind q.2⟩, va_recv hK hP (ci := 11) (q0 := 0) rfl rfl, fun U hU hW => ⟨rfl, mPre.of hP hK hU hW⟩⟩ rfl rfl hl.1 rfl (lv_room (Nat.le_of_ble_eq_true rfl)) dX12_holds_170 ⟨Nat.le_of_ble_eq_true rfl, Nat.le_of_ble_eq_true rfl⟩) hS (fun q _ h => MA.le hS.1 q h) (MA.le hS.1) (fun r13 x t H locs ht hvm hw hB _ _ hS => ?_)
    have hP := mB.at ht hB
    clear hB ht hvm
    obtain ⟨rfl, hw⟩ := hw
    have hP : va_P (dC, dI) vwCl (mw ar cy st sl) _ := hP
    rcases hw with rfl | rfl
    · exact W.zret (v := 1) hx hb hr rfl (fun t ht hW => ⟨⟨1, (st, sl), rfl, ⟨rfl, Or.inl (rfl)⟩, mB.of ht hP⟩, hS.F ht⟩) hS.2.2 dX12_holds_173
    · exact W.zret (v := 0) hx hb hr rfl (fun t ht hW => ⟨⟨0, (st, sl), rfl, ⟨rfl, Or.inr (rfl)⟩, mB.of ht hP⟩, hS.F ht⟩) hS.2.2 dX12_holds_173
  by_cases cw14 : z3 = 67
  · subst cw14
    refine lv_lookup (off := 140) (tgt := 174) hx hb dX12_holds_34 (by decide) (by decide) (by decide) ?_
    refine lv_aload_n hx hb dX12_holds_174 rfl (lv_at hl 3 rfl) ?_
    refine lv_iload_n hx hb dX12_holds_175 rfl (lv_at hl 5 rfl) ?_
    refine va_calli (va_runV (As := [.int (nI vb)]) (rest := []) ⟨hx, hb, hml, hown, hts⟩ (m_dogsOf l dC dI ar cy _ hN st sl (nI vb)  hG.1) (cwV 1 hts gX12_holds_X12_dogsOf rfl rfl rfl (by decide +kernel) ⟨Nat.le_of_ble_eq_true rfl, Nat.le_of_ble_eq_true rfl⟩) ⟨fun a U g mk q => ⟨q.1, mPre.blind q.2⟩, va_recv hK hP (ci := 11) (q0 := 0) rfl rfl, fun U hU hW => ⟨rfl, mPre.of hP hK hU hW⟩⟩ rfl rfl hl.1 rfl (lv_room (Nat.le_of_ble_eq_true rfl)) dX12_holds_176 ⟨Nat.le_of_ble_eq_true rfl, Nat.le_of_ble_eq_true rfl⟩) hS (fun q _ h => MA.le hS.1 q h) (MA.le hS.1) (fun r15 x t H locs ht hvm hw hB _ _ hS => ?_)
    have hP := mB.at ht hB
    clear hB ht hvm
    obtain ⟨rfl, hw⟩ := hw
    have hP : va_P (dC, dI) vwCl (mw ar cy st sl) _ := hP
    clear hw
    refine lv_if_eq (tgt := 186) hx hb dX12_holds_179 (by decide) (fun c11 => ?_) (fun c11 => ?_)
    · refine lv_iconst (v := 0) hx hb dX12_holds_186 (by decide) ?_
      exact W.zret (v := 0) hx hb hr rfl (fun t ht hW => ⟨⟨0, (st, sl), rfl, ⟨rfl, Or.inr (rfl)⟩, mB.of ht hP⟩, hS.F ht⟩) hS.2.2 dX12_holds_187
    · refine lv_iconst (v := 1) hx hb dX12_holds_182 (by decide) ?_
      refine lv_goto (tgt := 187) hx hb dX12_holds_183 (by decide) ?_
      exact W.zret (v := 1) hx hb hr rfl (fun t ht hW => ⟨⟨1, (st, sl), rfl, ⟨rfl, Or.inl (rfl)⟩, mB.of ht hP⟩, hS.F ht⟩) hS.2.2 dX12_holds_187
  by_cases cw16 : z3 = 68
  · subst cw16
    refine lv_lookup (off := 154) (tgt := 188) hx hb dX12_holds_34 (by decide) (by decide) (by decide) ?_
    obtain ⟨nx, hnx, enx⟩ := hOK.2.2 ez3.symm
    obtain rfl : z1 = nI nx := ez1.trans enx
    refine lv_iload_n hx hb dX12_holds_188 rfl (lv_at hl 5 rfl) ?_
    refine lv_iload hx hb dX12_holds_189 (lv_at hl 1 rfl) ?_
    refine lv_icmp_eq (tgt := 208) hx hb dX12_holds_191 (by decide) (fun c12 => ?_) (fun c12 => ?_)
    · have c12 : vb = nx := (nI_eq (a := vb) (b := nx) (by omega) (by omega)).mp c12
      refine lv_iconst (v := 0) hx hb dX12_holds_208 (by decide) ?_
      exact W.zret (v := 0) hx hb hr rfl (fun t ht hW => ⟨⟨0, (st, sl), rfl, ⟨rfl, Or.inr (rfl)⟩, mB.of ht hP⟩, hS.F ht⟩) hS.2.2 dX12_holds_209
    · have c12 : ¬ vb = nx := fun hh => c12 ((nI_eq (a := vb) (b := nx) (by omega) (by omega)).mpr hh)
      refine lv_aload_n hx hb dX12_holds_194 rfl (lv_at hl 3 rfl) ?_
      refine lv_iload_n hx hb dX12_holds_195 rfl (lv_at hl 5 rfl) ?_
      refine lv_iload hx hb dX12_holds_196 (lv_at hl 1 rfl) ?_
      refine va_calli (va_runV (As := [.int (nI vb), .int (nI nx)]) (rest := []) ⟨hx, hb, hml, hown, hts⟩ (m_meetsIn l dC dI ar cy _ hN st sl vb nx (by omega) (by omega) hG.1) (cwV 2 hts gX12_holds_X12_meetsIn rfl rfl rfl (by decide +kernel) ⟨Nat.le_of_ble_eq_true rfl, Nat.le_of_ble_eq_true rfl⟩) ⟨fun a U g mk q => ⟨q.1, mPre.blind q.2⟩, va_recv hK hP (ci := 11) (q0 := 0) rfl rfl, fun U hU hW => ⟨rfl, mPre.of hP hK hU hW⟩⟩ rfl rfl hl.1 rfl (lv_room (Nat.le_of_ble_eq_true rfl)) dX12_holds_198 ⟨Nat.le_of_ble_eq_true rfl, Nat.le_of_ble_eq_true rfl⟩) hS (fun q _ h => MA.le hS.1 q h) (MA.le hS.1) (fun r17 x t H locs ht hvm hw hB _ _ hS => ?_)
      have hP := mB.at ht hB
      clear hB ht hvm
      obtain ⟨rfl, hw⟩ := hw
      have hP : va_P (dC, dI) vwCl (mw ar cy st sl) _ := hP
      clear hw
      refine lv_if_eq (tgt := 208) hx hb dX12_holds_201 (by decide) (fun c13 => ?_) (fun c13 => ?_)
      · refine lv_iconst (v := 0) hx hb dX12_holds_208 (by decide) ?_
        exact W.zret (v := 0) hx hb hr rfl (fun t ht hW => ⟨⟨0, (st, sl), rfl, ⟨rfl, Or.inr (rfl)⟩, mB.of ht hP⟩, hS.F ht⟩) hS.2.2 dX12_holds_209
      · refine lv_iconst (v := 1) hx hb dX12_holds_204 (by decide) ?_
        refine lv_goto (tgt := 209) hx hb dX12_holds_205 (by decide) ?_
        exact W.zret (v := 1) hx hb hr rfl (fun t ht hW => ⟨⟨1, (st, sl), rfl, ⟨rfl, Or.inl (rfl)⟩, mB.of ht hP⟩, hS.F ht⟩) hS.2.2 dX12_holds_209
  by_cases cw18 : z3 = 69
  · subst cw18
    refine lv_lookup (off := 176) (tgt := 210) hx hb dX12_holds_34 (by decide) (by decide) (by decide) ?_
    refine lv_aload_n hx hb dX12_holds_210 rfl (lv_at hl 3 rfl) ?_
    refine va_get (D := (dC, dI)) (ci := 11) (v := .ref (ar 2)) (C := RX12) (T := TX12) (N := 47) hx hb hts ii_X12_holds hown hK hP 0 rfl rfl 14 (by decide) (hts _ mm_X12_holds_1) (fun _ hh => hh) rfl dX12_holds_211 ?_
    refine lv_bipush (v := 71) hx hb dX12_holds_214 (by decide) ?_
    refine lv_iload_n hx hb dX12_holds_216 rfl (lv_at hl 5 rfl) ?_
    refine lv_iadd hx hb dX12_holds_217 ?_
    refine zz_top (v := nI (71 + vb)) (nI_add 71 vb) ?_
    refine va_iald hx hb hK hP 2 1 rfl rfl (i := (nI (71 + vb))) (vp_in_nI (by omega) (by decide)) dX12_holds_218 ?_
    obtain ⟨n19, hn19, en19⟩ := hG.1.at (r := 2) (k := (71 + vb)) (mr_2_71_79 (71 + vb) (by omega) (by omega)) (by decide)
    refine zz_top (v := nI n19) (by rw [nI_clamp (by omega)]; exact en19) ?_
    refine lv_iload hx hb dX12_holds_219 (lv_at hl 1 rfl) ?_
    refine lv_icmp_ne (tgt := 228) hx hb dX12_holds_221 (by decide) (fun c14 => ?_) (fun c14 => ?_)
    · refine lv_iconst (v := 0) hx hb dX12_holds_228 (by decide) ?_
      exact W.zret (v := 0) hx hb hr rfl (fun t ht hW => ⟨⟨0, (st, sl), rfl, ⟨rfl, Or.inr (rfl)⟩, mB.of ht hP⟩, hS.F ht⟩) hS.2.2 dX12_holds_229
    · refine lv_iconst (v := 1) hx hb dX12_holds_224 (by decide) ?_
      refine lv_goto (tgt := 229) hx hb dX12_holds_225 (by decide) ?_
      exact W.zret (v := 1) hx hb hr rfl (fun t ht hW => ⟨⟨1, (st, sl), rfl, ⟨rfl, Or.inl (rfl)⟩, mB.of ht hP⟩, hS.F ht⟩) hS.2.2 dX12_holds_229
  refine lv_lookup (off := 196) (tgt := 230) hx hb dX12_holds_34 (by decide) (by show Op.lookupswitch.offset [(1, 66), (2, 82), (3, 108), (66, 134), (67, 140), (68, 154), (69, 176)] 196 (z3).toInt = 196; rw [Op.lookupswitch.offset_cons, if_neg (fun hh => cw4 (Int32.toInt_inj.mp (by rw [← hh]; decide))), Op.lookupswitch.offset_cons, if_neg (fun hh => cw6 (Int32.toInt_inj.mp (by rw [← hh]; decide))), Op.lookupswitch.offset_cons, if_neg (fun hh => cw9 (Int32.toInt_inj.mp (by rw [← hh]; decide))), Op.lookupswitch.offset_cons, if_neg (fun hh => cw12 (Int32.toInt_inj.mp (by rw [← hh]; decide))), Op.lookupswitch.offset_cons, if_neg (fun hh => cw14 (Int32.toInt_inj.mp (by rw [← hh]; decide))), Op.lookupswitch.offset_cons, if_neg (fun hh => cw16 (Int32.toInt_inj.mp (by rw [← hh]; decide))), Op.lookupswitch.offset_cons, if_neg (fun hh => cw18 (Int32.toInt_inj.mp (by rw [← hh]; decide)))]; rfl) (by decide) ?_
  refine lv_aload_n hx hb dX12_holds_230 rfl (lv_at hl 3 rfl) ?_
  refine va_get (D := (dC, dI)) (ci := 11) (v := .ref (ar 2)) (C := RX12) (T := TX12) (N := 47) hx hb hts ii_X12_holds hown hK hP 0 rfl rfl 14 (by decide) (hts _ mm_X12_holds_1) (fun _ hh => hh) rfl dX12_holds_231 ?_
  refine lv_iload_n hx hb dX12_holds_234 rfl (lv_at hl 2 rfl) ?_
  refine va_iald hx hb hK hP 2 1 rfl rfl (i := (nI (133 + (4 * va)))) (vp_in_nI (by omega) (by decide)) dX12_holds_235 ?_
  refine zz_top (v := st 2 (133 + (4 * va))) (by rw [nI_clamp (by omega)]) ?_
  refine lv_topi (fun z20 ez20 => ?_)
  refine lv_bipush (v := 50) hx hb dX12_holds_236 (by decide) ?_
  refine lv_isub hx hb dX12_holds_238 ?_
  refine lv_topi (fun z21 ez21 => ?_)
  refine lv_istore (lv' := [(6, .int z21), (5, .int z2), (4, .int z1), (3, .int (nI (133 + (4 * va)))), (0, .ref (ar 0)), (1, .int (nI va)), (2, .int (nI vb))]) hx hb dX12_holds_239 hl (by decide) rfl (fun ls hl => ?_)
  refine lv_iload hx hb dX12_holds_241 (lv_at hl 0 rfl) ?_
  refine lv_bipush (v := 20) hx hb dX12_holds_243 (by decide) ?_
  refine lv_icmp_ne (tgt := 260) hx hb dX12_holds_245 (by decide) (fun c15 => ?_) (fun c15 => ?_)
  · refine lv_iload hx hb dX12_holds_260 (lv_at hl 0 rfl) ?_
    refine lv_bipush (v := 21) hx hb dX12_holds_262 (by decide) ?_
    refine lv_icmp_ne (tgt := 279) hx hb dX12_holds_264 (by decide) (fun c16 => ?_) (fun c16 => ?_)
    · refine lv_iload hx hb dX12_holds_279 (lv_at hl 0 rfl) ?_
      refine lv_bipush (v := 22) hx hb dX12_holds_281 (by decide) ?_
      refine lv_icmp_ne (tgt := 294) hx hb dX12_holds_283 (by decide) (fun c17 => ?_) (fun c17 => ?_)
      · refine lv_iload_n hx hb dX12_holds_294 rfl (lv_at hl 6 rfl) ?_
        refine lv_istore (lv' := [(7, .int (nI vb)), (6, .int z21), (5, .int z2), (4, .int z1), (3, .int (nI (133 + (4 * va)))), (0, .ref (ar 0)), (1, .int (nI va)), (2, .int (nI vb))]) hx hb dX12_holds_295 hl (by decide) rfl (fun ls hl => ?_)
        refine lv_aload_n hx hb dX12_holds_297 rfl (lv_at hl 5 rfl) ?_
        refine va_get (D := (dC, dI)) (ci := 11) (v := .ref (ar 2)) (C := RX12) (T := TX12) (N := 47) hx hb hts ii_X12_holds hown hK hP 0 rfl rfl 14 (by decide) (hts _ mm_X12_holds_1) (fun _ hh => hh) rfl dX12_holds_298 ?_
        refine lv_iload_n hx hb dX12_holds_301 rfl (lv_at hl 4 rfl) ?_
        refine lv_iconst (v := 3) hx hb dX12_holds_302 (by decide) ?_
        refine lv_iadd hx hb dX12_holds_303 ?_
        refine zz_top (v := nI ((133 + (4 * va)) + 3)) (nI_add (133 + (4 * va)) 3) ?_
        refine va_iald hx hb hK hP 2 1 rfl rfl (i := (nI ((133 + (4 * va)) + 3))) (vp_in_nI (by omega) (by decide)) dX12_holds_304 ?_
        refine zz_top (v := st 2 ((133 + (4 * va)) + 3)) (by rw [nI_clamp (by omega)]) ?_
        refine lv_topi (fun z22 ez22 => ?_)
        refine lv_bipush (v := 60) hx hb dX12_holds_305 (by decide) ?_
        refine lv_icmp_ne (tgt := 325) hx hb dX12_holds_307 (by decide) (fun c18 => ?_) (fun c18 => ?_)
        · refine lv_aload_n hx hb dX12_holds_325 rfl (lv_at hl 5 rfl) ?_
          refine va_get (D := (dC, dI)) (ci := 11) (v := .ref (ar 2)) (C := RX12) (T := TX12) (N := 47) hx hb hts ii_X12_holds hown hK hP 0 rfl rfl 14 (by decide) (hts _ mm_X12_holds_1) (fun _ hh => hh) rfl dX12_holds_326 ?_
          refine lv_iload_n hx hb dX12_holds_329 rfl (lv_at hl 4 rfl) ?_
          refine lv_iconst (v := 3) hx hb dX12_holds_330 (by decide) ?_
          refine lv_iadd hx hb dX12_holds_331 ?_
          refine zz_top (v := nI ((133 + (4 * va)) + 3)) (nI_add (133 + (4 * va)) 3) ?_
          refine va_iald hx hb hK hP 2 1 rfl rfl (i := (nI ((133 + (4 * va)) + 3))) (vp_in_nI (by omega) (by decide)) dX12_holds_332 ?_
          refine zz_top (v := st 2 ((133 + (4 * va)) + 3)) (by rw [nI_clamp (by omega)]) ?_
          refine lv_topi (fun z23 ez23 => ?_)
          refine lv_bipush (v := 61) hx hb dX12_holds_333 (by decide) ?_
          refine lv_icmp_ne (tgt := 353) hx hb dX12_holds_335 (by decide) (fun c19 => ?_) (fun c19 => ?_)
          · refine lv_iload hx hb dX12_holds_353 (lv_at hl 0 rfl) ?_
            refine lv_iload hx hb dX12_holds_355 (lv_at hl 2 rfl) ?_
            refine lv_icmp_le (tgt := 364) hx hb dX12_holds_357 (by decide) (fun c20 => ?_) (fun c20 => ?_)
            · refine lv_iconst (v := 0) hx hb dX12_holds_364 (by decide) ?_
              exact W.zret (v := 0) hx hb hr rfl (fun t ht hW => ⟨⟨0, (st, sl), rfl, ⟨rfl, Or.inr (rfl)⟩, mB.of ht hP⟩, hS.F ht⟩) hS.2.2 dX12_holds_365
            · refine lv_iconst (v := 1) hx hb dX12_holds_360 (by decide) ?_
              refine lv_goto (tgt := 365) hx hb dX12_holds_361 (by decide) ?_
              exact W.zret (v := 1) hx hb hr rfl (fun t ht hW => ⟨⟨1, (st, sl), rfl, ⟨rfl, Or.inl (rfl)⟩, mB.of ht hP⟩, hS.F ht⟩) hS.2.2 dX12_holds_365
          · refine lv_iload hx hb dX12_holds_338 (lv_at hl 0 rfl) ?_
            refine lv_iload hx hb dX12_holds_340 (lv_at hl 2 rfl) ?_
            refine lv_icmp_ne (tgt := 349) hx hb dX12_holds_342 (by decide) (fun c21 => ?_) (fun c21 => ?_)
            · refine lv_iconst (v := 0) hx hb dX12_holds_349 (by decide) ?_
              refine lv_goto (tgt := 365) hx hb dX12_holds_350 (by decide) ?_
              exact W.zret (v := 0) hx hb hr rfl (fun t ht hW => ⟨⟨0, (st, sl), rfl, ⟨rfl, Or.inr (rfl)⟩, mB.of ht hP⟩, hS.F ht⟩) hS.2.2 dX12_holds_365
            · refine lv_iconst (v := 1) hx hb dX12_holds_345 (by decide) ?_
              refine lv_goto (tgt := 365) hx hb dX12_holds_346 (by decide) ?_
              exact W.zret (v := 1) hx hb hr rfl (fun t ht hW => ⟨⟨1, (st, sl), rfl, ⟨rfl, Or.inl (rfl)⟩, mB.of ht hP⟩, hS.F ht⟩) hS.2.2 dX12_holds_365
        · refine lv_iload hx hb dX12_holds_310 (lv_at hl 0 rfl) ?_
          refine lv_iload hx hb dX12_holds_312 (lv_at hl 2 rfl) ?_
          refine lv_icmp_ge (tgt := 321) hx hb dX12_holds_314 (by decide) (fun c22 => ?_) (fun c22 => ?_)
          · refine lv_iconst (v := 0) hx hb dX12_holds_321 (by decide) ?_
            refine lv_goto (tgt := 365) hx hb dX12_holds_322 (by decide) ?_
            exact W.zret (v := 0) hx hb hr rfl (fun t ht hW => ⟨⟨0, (st, sl), rfl, ⟨rfl, Or.inr (rfl)⟩, mB.of ht hP⟩, hS.F ht⟩) hS.2.2 dX12_holds_365
          · refine lv_iconst (v := 1) hx hb dX12_holds_317 (by decide) ?_
            refine lv_goto (tgt := 365) hx hb dX12_holds_318 (by decide) ?_
            exact W.zret (v := 1) hx hb hr rfl (fun t ht hW => ⟨⟨1, (st, sl), rfl, ⟨rfl, Or.inl (rfl)⟩, mB.of ht hP⟩, hS.F ht⟩) hS.2.2 dX12_holds_365
      · refine lv_aload_n hx hb dX12_holds_286 rfl (lv_at hl 4 rfl) ?_
        refine lv_iload_n hx hb dX12_holds_287 rfl (lv_at hl 6 rfl) ?_
        refine va_calli (va_runV (As := [.int (nI vb)]) (rest := []) ⟨hx, hb, hml, hown, hts⟩ (m_goodOf l dC dI ar cy _ hN st sl vb (by omega) hG.1) (cwV 1 hts gX12_holds_X12_goodOf rfl rfl rfl (by decide +kernel) ⟨Nat.le_of_ble_eq_true rfl, Nat.le_of_ble_eq_true rfl⟩) ⟨fun a U g mk q => ⟨q.1, mPre.blind q.2⟩, va_recv hK hP (ci := 11) (q0 := 0) rfl rfl, fun U hU hW => ⟨rfl, mPre.of hP hK hU hW⟩⟩ rfl rfl hl.1 rfl (lv_room (Nat.le_of_ble_eq_true rfl)) dX12_holds_288 ⟨Nat.le_of_ble_eq_true rfl, Nat.le_of_ble_eq_true rfl⟩) hS (fun q _ h => MA.le hS.1 q h) (MA.le hS.1) (fun r24 x t H locs ht hvm hw hB _ _ hS => ?_)
        have hP := mB.at ht hB
        clear hB ht hvm
        obtain ⟨rfl, hw⟩ := hw
        have hP : va_P (dC, dI) vwCl (mw ar cy st sl) _ := hP
        clear hw
        refine lv_goto (tgt := 295) hx hb dX12_holds_291 (by decide) ?_
        refine lv_istore (lv' := [(7, .int r24), (6, .int z21), (5, .int z2), (4, .int z1), (3, .int (nI (133 + (4 * va)))), (0, .ref (ar 0)), (1, .int (nI va)), (2, .int (nI vb))]) hx hb dX12_holds_295 hl (by decide) rfl (fun ls hl => ?_)
        refine lv_aload_n hx hb dX12_holds_297 rfl (lv_at hl 5 rfl) ?_
        refine va_get (D := (dC, dI)) (ci := 11) (v := .ref (ar 2)) (C := RX12) (T := TX12) (N := 47) hx hb hts ii_X12_holds hown hK hP 0 rfl rfl 14 (by decide) (hts _ mm_X12_holds_1) (fun _ hh => hh) rfl dX12_holds_298 ?_
        refine lv_iload_n hx hb dX12_holds_301 rfl (lv_at hl 4 rfl) ?_
        refine lv_iconst (v := 3) hx hb dX12_holds_302 (by decide) ?_
        refine lv_iadd hx hb dX12_holds_303 ?_
        refine zz_top (v := nI ((133 + (4 * va)) + 3)) (nI_add (133 + (4 * va)) 3) ?_
        refine va_iald hx hb hK hP 2 1 rfl rfl (i := (nI ((133 + (4 * va)) + 3))) (vp_in_nI (by omega) (by decide)) dX12_holds_304 ?_
        refine zz_top (v := st 2 ((133 + (4 * va)) + 3)) (by rw [nI_clamp (by omega)]) ?_
        refine lv_topi (fun z25 ez25 => ?_)
        refine lv_bipush (v := 60) hx hb dX12_holds_305 (by decide) ?_
        refine lv_icmp_ne (tgt := 325) hx hb dX12_holds_307 (by decide) (fun c23 => ?_) (fun c23 => ?_)
        · refine lv_aload_n hx hb dX12_holds_325 rfl (lv_at hl 5 rfl) ?_
          refine va_get (D := (dC, dI)) (ci := 11) (v := .ref (ar 2)) (C := RX12) (T := TX12) (N := 47) hx hb hts ii_X12_holds hown hK hP 0 rfl rfl 14 (by decide) (hts _ mm_X12_holds_1) (fun _ hh => hh) rfl dX12_holds_326 ?_
          refine lv_iload_n hx hb dX12_holds_329 rfl (lv_at hl 4 rfl) ?_
          refine lv_iconst (v := 3) hx hb dX12_holds_330 (by decide) ?_
          refine lv_iadd hx hb dX12_holds_331 ?_
          refine zz_top (v := nI ((133 + (4 * va)) + 3)) (nI_add (133 + (4 * va)) 3) ?_
          refine va_iald hx hb hK hP 2 1 rfl rfl (i := (nI ((133 + (4 * va)) + 3))) (vp_in_nI (by omega) (by decide)) dX12_holds_332 ?_
          refine zz_top (v := st 2 ((133 + (4 * va)) + 3)) (by rw [nI_clamp (by omega)]) ?_
          refine lv_topi (fun z26 ez26 => ?_)
          refine lv_bipush (v := 61) hx hb dX12_holds_333 (by decide) ?_
          refine lv_icmp_ne (tgt := 353) hx hb dX12_holds_335 (by decide) (fun c24 => ?_) (fun c24 => ?_)
          · refine lv_iload hx hb dX12_holds_353 (lv_at hl 0 rfl) ?_
            refine lv_iload hx hb dX12_holds_355 (lv_at hl 2 rfl) ?_
            refine lv_icmp_le (tgt := 364) hx hb dX12_holds_357 (by decide) (fun c25 => ?_) (fun c25 => ?_)
            · refine lv_iconst (v := 0) hx hb dX12_holds_364 (by decide) ?_
              exact W.zret (v := 0) hx hb hr rfl (fun t ht hW => ⟨⟨0, (st, sl), rfl, ⟨rfl, Or.inr (rfl)⟩, mB.of ht hP⟩, hS.F ht⟩) hS.2.2 dX12_holds_365
            · refine lv_iconst (v := 1) hx hb dX12_holds_360 (by decide) ?_
              refine lv_goto (tgt := 365) hx hb dX12_holds_361 (by decide) ?_
              exact W.zret (v := 1) hx hb hr rfl (fun t ht hW => ⟨⟨1, (st, sl), rfl, ⟨rfl, Or.inl (rfl)⟩, mB.of ht hP⟩, hS.F ht⟩) hS.2.2 dX12_holds_365
          · refine lv_iload hx hb dX12_holds_338 (lv_at hl 0 rfl) ?_
            refine lv_iload hx hb dX12_holds_340 (lv_at hl 2 rfl) ?_
            refine lv_icmp_ne (tgt := 349) hx hb dX12_holds_342 (by decide) (fun c26 => ?_) (fun c26 => ?_)
            · refine lv_iconst (v := 0) hx hb dX12_holds_349 (by decide) ?_
              refine lv_goto (tgt := 365) hx hb dX12_holds_350 (by decide) ?_
              exact W.zret (v := 0) hx hb hr rfl (fun t ht hW => ⟨⟨0, (st, sl), rfl, ⟨rfl, Or.inr (rfl)⟩, mB.of ht hP⟩, hS.F ht⟩) hS.2.2 dX12_holds_365
            · refine lv_iconst (v := 1) hx hb dX12_holds_345 (by decide) ?_
              refine lv_goto (tgt := 365) hx hb dX12_holds_346 (by decide) ?_
              exact W.zret (v := 1) hx hb hr rfl (fun t ht hW => ⟨⟨1, (st, sl), rfl, ⟨rfl, Or.inl (rfl)⟩, mB.of ht hP⟩, hS.F ht⟩) hS.2.2 dX12_holds_365
        · refine lv_iload hx hb dX12_holds_310 (lv_at hl 0 rfl) ?_
          refine lv_iload hx hb dX12_holds_312 (lv_at hl 2 rfl) ?_
          refine lv_icmp_ge (tgt := 321) hx hb dX12_holds_314 (by decide) (fun c27 => ?_) (fun c27 => ?_)
          · refine lv_iconst (v := 0) hx hb dX12_holds_321 (by decide) ?_
            refine lv_goto (tgt := 365) hx hb dX12_holds_322 (by decide) ?_
            exact W.zret (v := 0) hx hb hr rfl (fun t ht hW => ⟨⟨0, (st, sl), rfl, ⟨rfl, Or.inr (rfl)⟩, mB.of ht hP⟩, hS.F ht⟩) hS.2.2 dX12_holds_365
          · refine lv_iconst (v := 1) hx hb dX12_holds_317 (by decide) ?_
            refine lv_goto (tgt := 365) hx hb dX12_holds_318 (by decide) ?_
            exact W.zret (v := 1) hx hb hr rfl (fun t ht hW => ⟨⟨1, (st, sl), rfl, ⟨rfl, Or.inl (rfl)⟩, mB.of ht hP⟩, hS.F ht⟩) hS.2.2 dX12_holds_365
    · refine lv_aload_n hx hb dX12_holds_267 rfl (lv_at hl 4 rfl) ?_
      refine va_get (D := (dC, dI)) (ci := 11) (v := .ref (ar 2)) (C := RX12) (T := TX12) (N := 47) hx hb hts ii_X12_holds hown hK hP 0 rfl rfl 14 (by decide) (hts _ mm_X12_holds_1) (fun _ hh => hh) rfl dX12_holds_268 ?_
      refine lv_bipush (v := 111) hx hb dX12_holds_271 (by decide) ?_
      refine lv_iload_n hx hb dX12_holds_273 rfl (lv_at hl 6 rfl) ?_
      refine lv_iadd hx hb dX12_holds_274 ?_
      refine zz_top (v := nI (111 + vb)) (nI_add 111 vb) ?_
      refine va_iald hx hb hK hP 2 1 rfl rfl (i := (nI (111 + vb))) (vp_in_nI (by omega) (by decide)) dX12_holds_275 ?_
      refine zz_top (v := st 2 (111 + vb)) (by rw [nI_clamp (by omega)]) ?_
      refine lv_topi (fun z27 ez27 => ?_)
      refine lv_goto (tgt := 295) hx hb dX12_holds_276 (by decide) ?_
      refine lv_istore (lv' := [(7, .int z27), (6, .int z21), (5, .int z2), (4, .int z1), (3, .int (nI (133 + (4 * va)))), (0, .ref (ar 0)), (1, .int (nI va)), (2, .int (nI vb))]) hx hb dX12_holds_295 hl (by decide) rfl (fun ls hl => ?_)
      refine lv_aload_n hx hb dX12_holds_297 rfl (lv_at hl 5 rfl) ?_
      refine va_get (D := (dC, dI)) (ci := 11) (v := .ref (ar 2)) (C := RX12) (T := TX12) (N := 47) hx hb hts ii_X12_holds hown hK hP 0 rfl rfl 14 (by decide) (hts _ mm_X12_holds_1) (fun _ hh => hh) rfl dX12_holds_298 ?_
      refine lv_iload_n hx hb dX12_holds_301 rfl (lv_at hl 4 rfl) ?_
      refine lv_iconst (v := 3) hx hb dX12_holds_302 (by decide) ?_
      refine lv_iadd hx hb dX12_holds_303 ?_
      refine zz_top (v := nI ((133 + (4 * va)) + 3)) (nI_add (133 + (4 * va)) 3) ?_
      refine va_iald hx hb hK hP 2 1 rfl rfl (i := (nI ((133 + (4 * va)) + 3))) (vp_in_nI (by omega) (by decide)) dX12_holds_304 ?_
      refine zz_top (v := st 2 ((133 + (4 * va)) + 3)) (by rw [nI_clamp (by omega)]) ?_
      refine lv_topi (fun z28 ez28 => ?_)
      refine lv_bipush (v := 60) hx hb dX12_holds_305 (by decide) ?_
      refine lv_icmp_ne (tgt := 325) hx hb dX12_holds_307 (by decide) (fun c28 => ?_) (fun c28 => ?_)
      · refine lv_aload_n hx hb dX12_holds_325 rfl (lv_at hl 5 rfl) ?_
        refine va_get (D := (dC, dI)) (ci := 11) (v := .ref (ar 2)) (C := RX12) (T := TX12) (N := 47) hx hb hts ii_X12_holds hown hK hP 0 rfl rfl 14 (by decide) (hts _ mm_X12_holds_1) (fun _ hh => hh) rfl dX12_holds_326 ?_
        refine lv_iload_n hx hb dX12_holds_329 rfl (lv_at hl 4 rfl) ?_
        refine lv_iconst (v := 3) hx hb dX12_holds_330 (by decide) ?_
        refine lv_iadd hx hb dX12_holds_331 ?_
        refine zz_top (v := nI ((133 + (4 * va)) + 3)) (nI_add (133 + (4 * va)) 3) ?_
        refine va_iald hx hb hK hP 2 1 rfl rfl (i := (nI ((133 + (4 * va)) + 3))) (vp_in_nI (by omega) (by decide)) dX12_holds_332 ?_
        refine zz_top (v := st 2 ((133 + (4 * va)) + 3)) (by rw [nI_clamp (by omega)]) ?_
        refine lv_topi (fun z29 ez29 => ?_)
        refine lv_bipush (v := 61) hx hb dX12_holds_333 (by decide) ?_
        refine lv_icmp_ne (tgt := 353) hx hb dX12_holds_335 (by decide) (fun c29 => ?_) (fun c29 => ?_)
        · refine lv_iload hx hb dX12_holds_353 (lv_at hl 0 rfl) ?_
          refine lv_iload hx hb dX12_holds_355 (lv_at hl 2 rfl) ?_
          refine lv_icmp_le (tgt := 364) hx hb dX12_holds_357 (by decide) (fun c30 => ?_) (fun c30 => ?_)
          · refine lv_iconst (v := 0) hx hb dX12_holds_364 (by decide) ?_
            exact W.zret (v := 0) hx hb hr rfl (fun t ht hW => ⟨⟨0, (st, sl), rfl, ⟨rfl, Or.inr (rfl)⟩, mB.of ht hP⟩, hS.F ht⟩) hS.2.2 dX12_holds_365
          · refine lv_iconst (v := 1) hx hb dX12_holds_360 (by decide) ?_
            refine lv_goto (tgt := 365) hx hb dX12_holds_361 (by decide) ?_
            exact W.zret (v := 1) hx hb hr rfl (fun t ht hW => ⟨⟨1, (st, sl), rfl, ⟨rfl, Or.inl (rfl)⟩, mB.of ht hP⟩, hS.F ht⟩) hS.2.2 dX12_holds_365
        · refine lv_iload hx hb dX12_holds_338 (lv_at hl 0 rfl) ?_
          refine lv_iload hx hb dX12_holds_340 (lv_at hl 2 rfl) ?_
          refine lv_icmp_ne (tgt := 349) hx hb dX12_holds_342 (by decide) (fun c31 => ?_) (fun c31 => ?_)
          · refine lv_iconst (v := 0) hx hb dX12_holds_349 (by decide) ?_
            refine lv_goto (tgt := 365) hx hb dX12_holds_350 (by decide) ?_
            exact W.zret (v := 0) hx hb hr rfl (fun t ht hW => ⟨⟨0, (st, sl), rfl, ⟨rfl, Or.inr (rfl)⟩, mB.of ht hP⟩, hS.F ht⟩) hS.2.2 dX12_holds_365
          · refine lv_iconst (v := 1) hx hb dX12_holds_345 (by decide) ?_
            refine lv_goto (tgt := 365) hx hb dX12_holds_346 (by decide) ?_
            exact W.zret (v := 1) hx hb hr rfl (fun t ht hW => ⟨⟨1, (st, sl), rfl, ⟨rfl, Or.inl (rfl)⟩, mB.of ht hP⟩, hS.F ht⟩) hS.2.2 dX12_holds_365
      · refine lv_iload hx hb dX12_holds_310 (lv_at hl 0 rfl) ?_
        refine lv_iload hx hb dX12_holds_312 (lv_at hl 2 rfl) ?_
        refine lv_icmp_ge (tgt := 321) hx hb dX12_holds_314 (by decide) (fun c32 => ?_) (fun c32 => ?_)
        · refine lv_iconst (v := 0) hx hb dX12_holds_321 (by decide) ?_
          refine lv_goto (tgt := 365) hx hb dX12_holds_322 (by decide) ?_
          exact W.zret (v := 0) hx hb hr rfl (fun t ht hW => ⟨⟨0, (st, sl), rfl, ⟨rfl, Or.inr (rfl)⟩, mB.of ht hP⟩, hS.F ht⟩) hS.2.2 dX12_holds_365
        · refine lv_iconst (v := 1) hx hb dX12_holds_317 (by decide) ?_
          refine lv_goto (tgt := 365) hx hb dX12_holds_318 (by decide) ?_
          exact W.zret (v := 1) hx hb hr rfl (fun t ht hW => ⟨⟨1, (st, sl), rfl, ⟨rfl, Or.inl (rfl)⟩, mB.of ht hP⟩, hS.F ht⟩) hS.2.2 dX12_holds_365
  · refine lv_aload_n hx hb dX12_holds_248 rfl (lv_at hl 4 rfl) ?_
    refine va_get (D := (dC, dI)) (ci := 11) (v := .ref (ar 2)) (C := RX12) (T := TX12) (N := 47) hx hb hts ii_X12_holds hown hK hP 0 rfl rfl 14 (by decide) (hts _ mm_X12_holds_1) (fun _ hh => hh) rfl dX12_holds_249 ?_
    refine lv_bipush (v := 103) hx hb dX12_holds_252 (by decide) ?_
    refine lv_iload_n hx hb dX12_holds_254 rfl (lv_at hl 6 rfl) ?_
    refine lv_iadd hx hb dX12_holds_255 ?_
    refine zz_top (v := nI (103 + vb)) (nI_add 103 vb) ?_
    refine va_iald hx hb hK hP 2 1 rfl rfl (i := (nI (103 + vb))) (vp_in_nI (by omega) (by decide)) dX12_holds_256 ?_
    refine zz_top (v := st 2 (103 + vb)) (by rw [nI_clamp (by omega)]) ?_
    refine lv_topi (fun z30 ez30 => ?_)
    refine lv_goto (tgt := 295) hx hb dX12_holds_257 (by decide) ?_
    refine lv_istore (lv' := [(7, .int z30), (6, .int z21), (5, .int z2), (4, .int z1), (3, .int (nI (133 + (4 * va)))), (0, .ref (ar 0)), (1, .int (nI va)), (2, .int (nI vb))]) hx hb dX12_holds_295 hl (by decide) rfl (fun ls hl => ?_)
    refine lv_aload_n hx hb dX12_holds_297 rfl (lv_at hl 5 rfl) ?_
    refine va_get (D := (dC, dI)) (ci := 11) (v := .ref (ar 2)) (C := RX12) (T := TX12) (N := 47) hx hb hts ii_X12_holds hown hK hP 0 rfl rfl 14 (by decide) (hts _ mm_X12_holds_1) (fun _ hh => hh) rfl dX12_holds_298 ?_
    refine lv_iload_n hx hb dX12_holds_301 rfl (lv_at hl 4 rfl) ?_
    refine lv_iconst (v := 3) hx hb dX12_holds_302 (by decide) ?_
    refine lv_iadd hx hb dX12_holds_303 ?_
    refine zz_top (v := nI ((133 + (4 * va)) + 3)) (nI_add (133 + (4 * va)) 3) ?_
    refine va_iald hx hb hK hP 2 1 rfl rfl (i := (nI ((133 + (4 * va)) + 3))) (vp_in_nI (by omega) (by decide)) dX12_holds_304 ?_
    refine zz_top (v := st 2 ((133 + (4 * va)) + 3)) (by rw [nI_clamp (by omega)]) ?_
    refine lv_topi (fun z31 ez31 => ?_)
    refine lv_bipush (v := 60) hx hb dX12_holds_305 (by decide) ?_
    refine lv_icmp_ne (tgt := 325) hx hb dX12_holds_307 (by decide) (fun c33 => ?_) (fun c33 => ?_)
    · refine lv_aload_n hx hb dX12_holds_325 rfl (lv_at hl 5 rfl) ?_
      refine va_get (D := (dC, dI)) (ci := 11) (v := .ref (ar 2)) (C := RX12) (T := TX12) (N := 47) hx hb hts ii_X12_holds hown hK hP 0 rfl rfl 14 (by decide) (hts _ mm_X12_holds_1) (fun _ hh => hh) rfl dX12_holds_326 ?_
      refine lv_iload_n hx hb dX12_holds_329 rfl (lv_at hl 4 rfl) ?_
      refine lv_iconst (v := 3) hx hb dX12_holds_330 (by decide) ?_
      refine lv_iadd hx hb dX12_holds_331 ?_
      refine zz_top (v := nI ((133 + (4 * va)) + 3)) (nI_add (133 + (4 * va)) 3) ?_
      refine va_iald hx hb hK hP 2 1 rfl rfl (i := (nI ((133 + (4 * va)) + 3))) (vp_in_nI (by omega) (by decide)) dX12_holds_332 ?_
      refine zz_top (v := st 2 ((133 + (4 * va)) + 3)) (by rw [nI_clamp (by omega)]) ?_
      refine lv_topi (fun z32 ez32 => ?_)
      refine lv_bipush (v := 61) hx hb dX12_holds_333 (by decide) ?_
      refine lv_icmp_ne (tgt := 353) hx hb dX12_holds_335 (by decide) (fun c34 => ?_) (fun c34 => ?_)
      · refine lv_iload hx hb dX12_holds_353 (lv_at hl 0 rfl) ?_
        refine lv_iload hx hb dX12_holds_355 (lv_at hl 2 rfl) ?_
        refine lv_icmp_le (tgt := 364) hx hb dX12_holds_357 (by decide) (fun c35 => ?_) (fun c35 => ?_)
        · refine lv_iconst (v := 0) hx hb dX12_holds_364 (by decide) ?_
          exact W.zret (v := 0) hx hb hr rfl (fun t ht hW => ⟨⟨0, (st, sl), rfl, ⟨rfl, Or.inr (rfl)⟩, mB.of ht hP⟩, hS.F ht⟩) hS.2.2 dX12_holds_365
        · refine lv_iconst (v := 1) hx hb dX12_holds_360 (by decide) ?_
          refine lv_goto (tgt := 365) hx hb dX12_holds_361 (by decide) ?_
          exact W.zret (v := 1) hx hb hr rfl (fun t ht hW => ⟨⟨1, (st, sl), rfl, ⟨rfl, Or.inl (rfl)⟩, mB.of ht hP⟩, hS.F ht⟩) hS.2.2 dX12_holds_365
      · refine lv_iload hx hb dX12_holds_338 (lv_at hl 0 rfl) ?_
        refine lv_iload hx hb dX12_holds_340 (lv_at hl 2 rfl) ?_
        refine lv_icmp_ne (tgt := 349) hx hb dX12_holds_342 (by decide) (fun c36 => ?_) (fun c36 => ?_)
        · refine lv_iconst (v := 0) hx hb dX12_holds_349 (by decide) ?_
          refine lv_goto (tgt := 365) hx hb dX12_holds_350 (by decide) ?_
          exact W.zret (v := 0) hx hb hr rfl (fun t ht hW => ⟨⟨0, (st, sl), rfl, ⟨rfl, Or.inr (rfl)⟩, mB.of ht hP⟩, hS.F ht⟩) hS.2.2 dX12_holds_365
        · refine lv_iconst (v := 1) hx hb dX12_holds_345 (by decide) ?_
          refine lv_goto (tgt := 365) hx hb dX12_holds_346 (by decide) ?_
          exact W.zret (v := 1) hx hb hr rfl (fun t ht hW => ⟨⟨1, (st, sl), rfl, ⟨rfl, Or.inl (rfl)⟩, mB.of ht hP⟩, hS.F ht⟩) hS.2.2 dX12_holds_365
    · refine lv_iload hx hb dX12_holds_310 (lv_at hl 0 rfl) ?_
      refine lv_iload hx hb dX12_holds_312 (lv_at hl 2 rfl) ?_
      refine lv_icmp_ge (tgt := 321) hx hb dX12_holds_314 (by decide) (fun c37 => ?_) (fun c37 => ?_)
      · refine lv_iconst (v := 0) hx hb dX12_holds_321 (by decide) ?_
        refine lv_goto (tgt := 365) hx hb dX12_holds_322 (by decide) ?_
        exact W.zret (v := 0) hx hb hr rfl (fun t ht hW => ⟨⟨0, (st, sl), rfl, ⟨rfl, Or.inr (rfl)⟩, mB.of ht hP⟩, hS.F ht⟩) hS.2.2 dX12_holds_365
      · refine lv_iconst (v := 1) hx hb dX12_holds_317 (by decide) ?_
        refine lv_goto (tgt := 365) hx hb dX12_holds_318 (by decide) ?_
        exact W.zret (v := 1) hx hb hr rfl (fun t ht hW => ⟨⟨1, (st, sl), rfl, ⟨rfl, Or.inl (rfl)⟩, mB.of ht hP⟩, hS.F ht⟩) hS.2.2 dX12_holds_365
set_option maxHeartbeats 4000000 in
set_option maxRecDepth 100000 in
theorem m_holds_21 (l : Launch) (dC : Nat → ClassId) (dI : Nat → Nat → Nat) (ar : Nat → Nat) (cy : Nat → ClassId) (sz : Nat) (hN : MN ar) (st : Nat → Nat → Int32) (sl : Nat → Nat → Int64) (va : Nat) (vb : Nat) (hva : va < 22) (hvb : vb < 8) (hI : MI st) (hNK : NKn st) : Met l yX12_holds wsX12_holds ({ frames := 25, cells := 0, slots := 0, locals := 655 }) (va_Pc [.ref (ar 0), .int (nI va), .int (nI vb)] (mPre dC dI ar cy sz st sl)) (va_Qi (fun (r : Int32) (x : MT) => x = (st, sl) ∧ ((r = 1) ∨ (r = 0))) (mB dC dI ar cy) (MA ar sz)) 0 0 (MA ar sz) := by
  refine Met.ofW (cc := cX12_holds) (maxL := 8) (ret := (some .boolean)) (by decide) rfl ?_
  intro p e s m args below meth c s₁ B hml hv
  obtain ⟨rfl, hsz, hP, hK⟩ := hv
  have hx := B.exec
  have hb := B.bytes
  have hr := B.returns
  have hts := atoms_spec (ws := wsX12_holds) B.pre
  have hown : s.vm.findClass RX12 = some m.cls := findClass_of_methodNamed B.named
  subst hsz
  have hS : va_S (MA ar s.heap.size) s.heap s.heap [] := va_S.rf
  have hG : MG [1, 2, 3, 4, 5, 6, 7, 8, 9, 10, 11, 12, 13, 14, 15, 16, 17, 19] st st := MG.rf hI
  have hl := lv_entry ([.ref (ar 0), .int (nI va), .int (nI vb)]) (n := 8) (Nat.le_of_ble_eq_true rfl)
  rw [lg_entry_eq]
  generalize (lg_sl ([.ref (ar 0), .int (nI va), .int (nI vb)]) ++ List.replicate (8 - (lg_sl ([.ref (ar 0), .int (nI va), .int (nI vb)])).length) Slot.unset).toArray = ls at hl ⊢
  have hl : lv_has ls 8 [(0, .ref (ar 0)), (1, .int (nI va)), (2, .int (nI vb))] := hl
  clear hI
  have hOK := hNK va (by omega)
  unfold nodeOK at hOK
  refine lv_sipush (v := 133) hx hb dX12_holds_0 (by decide) ?_
  refine lv_iconst (v := 4) hx hb dX12_holds_3 (by decide) ?_
  refine lv_iload_n hx hb dX12_holds_4 rfl (lv_at hl 1 rfl) ?_
  refine lv_imul hx hb dX12_holds_5 ?_
  refine zz_top (v := nI (4 * va)) (nI_mul 4 va) ?_
  refine lv_iadd hx hb dX12_holds_6 ?_
  refine zz_top (v := nI (133 + (4 * va))) (nI_add 133 (4 * va)) ?_
  refine lv_istore_n (lv' := [(3, .int (nI (133 + (4 * va)))), (0, .ref (ar 0)), (1, .int (nI va)), (2, .int (nI vb))]) hx hb dX12_holds_7 rfl hl (by decide) rfl (fun ls hl => ?_)
  refine lv_aload_n hx hb dX12_holds_8 rfl (lv_at hl 1 rfl) ?_
  refine va_get (D := (dC, dI)) (ci := 11) (v := .ref (ar 2)) (C := RX12) (T := TX12) (N := 47) hx hb hts ii_X12_holds hown hK hP 0 rfl rfl 14 (by decide) (hts _ mm_X12_holds_1) (fun _ hh => hh) rfl dX12_holds_9 ?_
  refine lv_iload_n hx hb dX12_holds_12 rfl (lv_at hl 0 rfl) ?_
  refine lv_iconst (v := 1) hx hb dX12_holds_13 (by decide) ?_
  refine lv_iadd hx hb dX12_holds_14 ?_
  refine zz_top (v := nI ((133 + (4 * va)) + 1)) (nI_add (133 + (4 * va)) 1) ?_
  refine va_iald hx hb hK hP 2 1 rfl rfl (i := (nI ((133 + (4 * va)) + 1))) (vp_in_nI (by omega) (by decide)) dX12_holds_15 ?_
  refine zz_top (v := st 2 ((133 + (4 * va)) + 1)) (by rw [nI_clamp (by omega)]) ?_
  refine lv_topi (fun z1 ez1 => ?_)
  refine lv_istore (lv' := [(4, .int z1), (3, .int (nI (133 + (4 * va)))), (0, .ref (ar 0)), (1, .int (nI va)), (2, .int (nI vb))]) hx hb dX12_holds_16 hl (by decide) rfl (fun ls hl => ?_)
  refine lv_aload_n hx hb dX12_holds_18 rfl (lv_at hl 2 rfl) ?_
  refine va_get (D := (dC, dI)) (ci := 11) (v := .ref (ar 2)) (C := RX12) (T := TX12) (N := 47) hx hb hts ii_X12_holds hown hK hP 0 rfl rfl 14 (by decide) (hts _ mm_X12_holds_1) (fun _ hh => hh) rfl dX12_holds_19 ?_
  refine lv_iload_n hx hb dX12_holds_22 rfl (lv_at hl 1 rfl) ?_
  refine lv_iconst (v := 2) hx hb dX12_holds_23 (by decide) ?_
  refine lv_iadd hx hb dX12_holds_24 ?_
  refine zz_top (v := nI ((133 + (4 * va)) + 2)) (nI_add (133 + (4 * va)) 2) ?_
  refine va_iald hx hb hK hP 2 1 rfl rfl (i := (nI ((133 + (4 * va)) + 2))) (vp_in_nI (by omega) (by decide)) dX12_holds_25 ?_
  refine zz_top (v := st 2 ((133 + (4 * va)) + 2)) (by rw [nI_clamp (by omega)]) ?_
  refine lv_topi (fun z2 ez2 => ?_)
  refine lv_istore (lv' := [(5, .int z2), (4, .int z1), (3, .int (nI (133 + (4 * va)))), (0, .ref (ar 0)), (1, .int (nI va)), (2, .int (nI vb))]) hx hb dX12_holds_26 hl (by decide) rfl (fun ls hl => ?_)
  refine lv_aload_n hx hb dX12_holds_28 rfl (lv_at hl 3 rfl) ?_
  refine va_get (D := (dC, dI)) (ci := 11) (v := .ref (ar 2)) (C := RX12) (T := TX12) (N := 47) hx hb hts ii_X12_holds hown hK hP 0 rfl rfl 14 (by decide) (hts _ mm_X12_holds_1) (fun _ hh => hh) rfl dX12_holds_29 ?_
  refine lv_iload_n hx hb dX12_holds_32 rfl (lv_at hl 2 rfl) ?_
  refine va_iald hx hb hK hP 2 1 rfl rfl (i := (nI (133 + (4 * va)))) (vp_in_nI (by omega) (by decide)) dX12_holds_33 ?_
  refine zz_top (v := st 2 (133 + (4 * va))) (by rw [nI_clamp (by omega)]) ?_
  refine lv_topi (fun z3 ez3 => ?_)
  by_cases cw4 : z3 = 1
  · subst cw4
    refine lv_lookup (off := 66) (tgt := 100) hx hb dX12_holds_34 (by decide) (by decide) (by decide) ?_
    obtain ⟨nx, hnx, enx⟩ := hOK.1 ez3.symm
    obtain rfl : z1 = nI nx := ez1.trans enx
    refine lv_aload_n hx hb dX12_holds_100 rfl (lv_at hl 3 rfl) ?_
    refine lv_iload hx hb dX12_holds_101 (lv_at hl 1 rfl) ?_
    refine lv_iload_n hx hb dX12_holds_103 rfl (lv_at hl 5 rfl) ?_
    refine va_calli (va_runV (As := [.int (nI nx), .int (nI vb)]) (rest := []) ⟨hx, hb, hml, hown, hts⟩ (m_holds_20 l dC dI ar cy _ hN st sl nx vb (by omega) (by omega) hG.1 (hNK)) (cwV 2 hts gX12_holds_X12_holds rfl rfl rfl (by decide +kernel) ⟨Nat.le_of_ble_eq_true rfl, Nat.le_of_ble_eq_true rfl⟩) ⟨fun a U g mk q => ⟨q.1, mPre.blind q.2⟩, va_recv hK hP (ci := 11) (q0 := 0) rfl rfl, fun U hU hW => ⟨rfl, mPre.of hP hK hU hW⟩⟩ rfl rfl hl.1 rfl (lv_room (Nat.le_of_ble_eq_true rfl)) dX12_holds_104 ⟨Nat.le_of_ble_eq_true rfl, Nat.le_of_ble_eq_true rfl⟩) hS (fun q _ h => MA.le hS.1 q h) (MA.le hS.1) (fun r5 x t H locs ht hvm hw hB _ _ hS => ?_)
    have hP := mB.at ht hB
    clear hB ht hvm
    obtain ⟨rfl, hw⟩ := hw
    have hP : va_P (dC, dI) vwCl (mw ar cy st sl) _ := hP
    rcases hw with rfl | rfl
    · refine lv_if_ne (tgt := 114) hx hb dX12_holds_107 (by decide) (fun _ => ?_) (fun cc => absurd cc (by decide))
      refine lv_iconst (v := 0) hx hb dX12_holds_114 (by decide) ?_
      exact W.zret (v := 0) hx hb hr rfl (fun t ht hW => ⟨⟨0, (st, sl), rfl, ⟨rfl, Or.inr (rfl)⟩, mB.of ht hP⟩, hS.F ht⟩) hS.2.2 dX12_holds_115
    · refine lv_if_ne (tgt := 114) hx hb dX12_holds_107 (by decide) (fun cc => absurd (by decide) cc) (fun _ => ?_)
      refine lv_iconst (v := 1) hx hb dX12_holds_110 (by decide) ?_
      refine lv_goto (tgt := 115) hx hb dX12_holds_111 (by decide) ?_
      exact W.zret (v := 1) hx hb hr rfl (fun t ht hW => ⟨⟨1, (st, sl), rfl, ⟨rfl, Or.inl (rfl)⟩, mB.of ht hP⟩, hS.F ht⟩) hS.2.2 dX12_holds_115
  by_cases cw6 : z3 = 2
  · subst cw6
    refine lv_lookup (off := 82) (tgt := 116) hx hb dX12_holds_34 (by decide) (by decide) (by decide) ?_
    obtain ⟨⟨nx, hnx, enx⟩, ny, hny, eny⟩ := hOK.2.1 (Or.inl ez3.symm)
    obtain rfl : z1 = nI nx := ez1.trans enx
    obtain rfl : z2 = nI ny := ez2.trans eny
    refine lv_aload_n hx hb dX12_holds_116 rfl (lv_at hl 3 rfl) ?_
    refine lv_iload hx hb dX12_holds_117 (lv_at hl 1 rfl) ?_
    refine lv_iload_n hx hb dX12_holds_119 rfl (lv_at hl 5 rfl) ?_
    refine va_calli (va_runV (As := [.int (nI nx), .int (nI vb)]) (rest := []) ⟨hx, hb, hml, hown, hts⟩ (m_holds_20 l dC dI ar cy _ hN st sl nx vb (by omega) (by omega) hG.1 (hNK)) (cwV 2 hts gX12_holds_X12_holds rfl rfl rfl (by decide +kernel) ⟨Nat.le_of_ble_eq_true rfl, Nat.le_of_ble_eq_true rfl⟩) ⟨fun a U g mk q => ⟨q.1, mPre.blind q.2⟩, va_recv hK hP (ci := 11) (q0 := 0) rfl rfl, fun U hU hW => ⟨rfl, mPre.of hP hK hU hW⟩⟩ rfl rfl hl.1 rfl (lv_room (Nat.le_of_ble_eq_true rfl)) dX12_holds_120 ⟨Nat.le_of_ble_eq_true rfl, Nat.le_of_ble_eq_true rfl⟩) hS (fun q _ h => MA.le hS.1 q h) (MA.le hS.1) (fun r7 x t H locs ht hvm hw hB _ _ hS => ?_)
    have hP := mB.at ht hB
    clear hB ht hvm
    obtain ⟨rfl, hw⟩ := hw
    have hP : va_P (dC, dI) vwCl (mw ar cy st sl) _ := hP
    rcases hw with rfl | rfl
    · refine lv_if_eq (tgt := 140) hx hb dX12_holds_123 (by decide) (fun cc => absurd cc (by decide)) (fun _ => ?_)
      refine lv_aload_n hx hb dX12_holds_126 rfl (lv_at hl 3 rfl) ?_
      refine lv_iload hx hb dX12_holds_127 (lv_at hl 0 rfl) ?_
      refine lv_iload_n hx hb dX12_holds_129 rfl (lv_at hl 5 rfl) ?_
      refine va_calli (va_runV (As := [.int (nI ny), .int (nI vb)]) (rest := []) ⟨hx, hb, hml, hown, hts⟩ (m_holds_20 l dC dI ar cy _ hN st sl ny vb (by omega) (by omega) hG.1 (hNK)) (cwV 2 hts gX12_holds_X12_holds rfl rfl rfl (by decide +kernel) ⟨Nat.le_of_ble_eq_true rfl, Nat.le_of_ble_eq_true rfl⟩) ⟨fun a U g mk q => ⟨q.1, mPre.blind q.2⟩, va_recv hK hP (ci := 11) (q0 := 0) rfl rfl, fun U hU hW => ⟨rfl, mPre.of hP hK hU hW⟩⟩ rfl rfl hl.1 rfl (lv_room (Nat.le_of_ble_eq_true rfl)) dX12_holds_130 ⟨Nat.le_of_ble_eq_true rfl, Nat.le_of_ble_eq_true rfl⟩) hS (fun q _ h => MA.le hS.1 q h) (MA.le hS.1) (fun r8 x t H locs ht hvm hw hB _ _ hS => ?_)
      have hP := mB.at ht hB
      clear hB ht hvm
      obtain ⟨rfl, hw⟩ := hw
      have hP : va_P (dC, dI) vwCl (mw ar cy st sl) _ := hP
      rcases hw with rfl | rfl
      · refine lv_if_eq (tgt := 140) hx hb dX12_holds_133 (by decide) (fun cc => absurd cc (by decide)) (fun _ => ?_)
        refine lv_iconst (v := 1) hx hb dX12_holds_136 (by decide) ?_
        refine lv_goto (tgt := 141) hx hb dX12_holds_137 (by decide) ?_
        exact W.zret (v := 1) hx hb hr rfl (fun t ht hW => ⟨⟨1, (st, sl), rfl, ⟨rfl, Or.inl (rfl)⟩, mB.of ht hP⟩, hS.F ht⟩) hS.2.2 dX12_holds_141
      · refine lv_if_eq (tgt := 140) hx hb dX12_holds_133 (by decide) (fun _ => ?_) (fun cc => absurd (by decide) cc)
        refine lv_iconst (v := 0) hx hb dX12_holds_140 (by decide) ?_
        exact W.zret (v := 0) hx hb hr rfl (fun t ht hW => ⟨⟨0, (st, sl), rfl, ⟨rfl, Or.inr (rfl)⟩, mB.of ht hP⟩, hS.F ht⟩) hS.2.2 dX12_holds_141
    · refine lv_if_eq (tgt := 140) hx hb dX12_holds_123 (by decide) (fun _ => ?_) (fun cc => absurd (by decide) cc)
      refine lv_iconst (v := 0) hx hb dX12_holds_140 (by decide) ?_
      exact W.zret (v := 0) hx hb hr rfl (fun t ht hW => ⟨⟨0, (st, sl), rfl, ⟨rfl, Or.inr (rfl)⟩, mB.of ht hP⟩, hS.F ht⟩) hS.2.2 dX12_holds_141
  by_cases cw9 : z3 = 3
  · subst cw9
    refine lv_lookup (off := 108) (tgt := 142) hx hb dX12_holds_34 (by decide) (by decide) (by decide) ?_
    obtain ⟨⟨nx, hnx, enx⟩, ny, hny, eny⟩ := hOK.2.1 (Or.inr ez3.symm)
    obtain rfl : z1 = nI nx := ez1.trans enx
    obtain rfl : z2 = nI ny := ez2.trans eny
    refine lv_aload_n hx hb dX12_holds_142 rfl (lv_at hl 3 rfl) ?_
    refine lv_iload hx hb dX12_holds_143 (lv_at hl 1 rfl) ?_
    refine lv_iload_n hx hb dX12_holds_145 rfl (lv_at hl 5 rfl) ?_
    refine va_calli (va_runV (As := [.int (nI nx), .int (nI vb)]) (rest := []) ⟨hx, hb, hml, hown, hts⟩ (m_holds_20 l dC dI ar cy _ hN st sl nx vb (by omega) (by omega) hG.1 (hNK)) (cwV 2 hts gX12_holds_X12_holds rfl rfl rfl (by decide +kernel) ⟨Nat.le_of_ble_eq_true rfl, Nat.le_of_ble_eq_true rfl⟩) ⟨fun a U g mk q => ⟨q.1, mPre.blind q.2⟩, va_recv hK hP (ci := 11) (q0 := 0) rfl rfl, fun U hU hW => ⟨rfl, mPre.of hP hK hU hW⟩⟩ rfl rfl hl.1 rfl (lv_room (Nat.le_of_ble_eq_true rfl)) dX12_holds_146 ⟨Nat.le_of_ble_eq_true rfl, Nat.le_of_ble_eq_true rfl⟩) hS (fun q _ h => MA.le hS.1 q h) (MA.le hS.1) (fun r10 x t H locs ht hvm hw hB _ _ hS => ?_)
    have hP := mB.at ht hB
    clear hB ht hvm
    obtain ⟨rfl, hw⟩ := hw
    have hP : va_P (dC, dI) vwCl (mw ar cy st sl) _ := hP
    rcases hw with rfl | rfl
    · refine lv_if_ne (tgt := 162) hx hb dX12_holds_149 (by decide) (fun _ => ?_) (fun cc => absurd cc (by decide))
      refine lv_iconst (v := 1) hx hb dX12_holds_162 (by decide) ?_
      refine lv_goto (tgt := 167) hx hb dX12_holds_163 (by decide) ?_
      exact W.zret (v := 1) hx hb hr rfl (fun t ht hW => ⟨⟨1, (st, sl), rfl, ⟨rfl, Or.inl (rfl)⟩, mB.of ht hP⟩, hS.F ht⟩) hS.2.2 dX12_holds_167
    · refine lv_if_ne (tgt := 162) hx hb dX12_holds_149 (by decide) (fun cc => absurd (by decide) cc) (fun _ => ?_)
      refine lv_aload_n hx hb dX12_holds_152 rfl (lv_at hl 3 rfl) ?_
      refine lv_iload hx hb dX12_holds_153 (lv_at hl 0 rfl) ?_
      refine lv_iload_n hx hb dX12_holds_155 rfl (lv_at hl 5 rfl) ?_
      refine va_calli (va_runV (As := [.int (nI ny), .int (nI vb)]) (rest := []) ⟨hx, hb, hml, hown, hts⟩ (m_holds_20 l dC dI ar cy _ hN st sl ny vb (by omega) (by omega) hG.1 (hNK)) (cwV 2 hts gX12_holds_X12_holds rfl rfl rfl (by decide +kernel) ⟨Nat.le_of_ble_eq_true rfl, Nat.le_of_ble_eq_true rfl⟩) ⟨fun a U g mk q => ⟨q.1, mPre.blind q.2⟩, va_recv hK hP (ci := 11) (q0 := 0) rfl rfl, fun U hU hW => ⟨rfl, mPre.of hP hK hU hW⟩⟩ rfl rfl hl.1 rfl (lv_room (Nat.le_of_ble_eq_true rfl)) dX12_holds_156 ⟨Nat.le_of_ble_eq_true rfl, Nat.le_of_ble_eq_true rfl⟩) hS (fun q _ h => MA.le hS.1 q h) (MA.le hS.1) (fun r11 x t H locs ht hvm hw hB _ _ hS => ?_)
      have hP := mB.at ht hB
      clear hB ht hvm
      obtain ⟨rfl, hw⟩ := hw
      have hP : va_P (dC, dI) vwCl (mw ar cy st sl) _ := hP
      rcases hw with rfl | rfl
      · refine lv_if_eq (tgt := 166) hx hb dX12_holds_159 (by decide) (fun cc => absurd cc (by decide)) (fun _ => ?_)
        refine lv_iconst (v := 1) hx hb dX12_holds_162 (by decide) ?_
        refine lv_goto (tgt := 167) hx hb dX12_holds_163 (by decide) ?_
        exact W.zret (v := 1) hx hb hr rfl (fun t ht hW => ⟨⟨1, (st, sl), rfl, ⟨rfl, Or.inl (rfl)⟩, mB.of ht hP⟩, hS.F ht⟩) hS.2.2 dX12_holds_167
      · refine lv_if_eq (tgt := 166) hx hb dX12_holds_159 (by decide) (fun _ => ?_) (fun cc => absurd (by decide) cc)
        refine lv_iconst (v := 0) hx hb dX12_holds_166 (by decide) ?_
        exact W.zret (v := 0) hx hb hr rfl (fun t ht hW => ⟨⟨0, (st, sl), rfl, ⟨rfl, Or.inr (rfl)⟩, mB.of ht hP⟩, hS.F ht⟩) hS.2.2 dX12_holds_167
  by_cases cw12 : z3 = 66
  · subst cw12
    refine lv_lookup (off := 134) (tgt := 168) hx hb dX12_holds_34 (by decide) (by decide) (by decide) ?_
    refine lv_aload_n hx hb dX12_holds_168 rfl (lv_at hl 3 rfl) ?_
    refine lv_iload_n hx hb dX12_holds_169 rfl (lv_at hl 5 rfl) ?_
    refine va_calli (va_runV (As := [.int (nI vb)]) (rest := []) ⟨hx, hb, hml, hown, hts⟩ (m_isAway l dC dI ar cy _ hN st sl vb (by omega) hG.1) (cwV 1 hts gX12_holds_X12_isAway rfl rfl rfl (by decide +kernel) ⟨Nat.le_of_ble_eq_true rfl, Nat.le_of_ble_eq_true rfl⟩) ⟨fun a U g mk q => ⟨q.1, mPre.blind q.2⟩, va_recv hK hP (ci := 11) (q0 := 0) rfl rfl, fun U hU hW => ⟨rfl, mPre.of hP hK hU hW⟩⟩ rfl rfl hl.1 rfl (lv_room (Nat.le_of_ble_eq_true rfl)) dX12_holds_170 ⟨Nat.le_of_ble_eq_true rfl, Nat.le_of_ble_eq_true rfl⟩) hS (fun q _ h => MA.le hS.1 q h) (MA.le hS.1) (fun r13 x t H locs ht hvm hw hB _ _ hS => ?_)
    have hP := mB.at ht hB
    clear hB ht hvm
    obtain ⟨rfl, hw⟩ := hw
    have hP : va_P (dC, dI) vwCl (mw ar cy st sl) _ := hP
    rcases hw with rfl | rfl
    · exact W.zret (v := 1) hx hb hr rfl (fun t ht hW => ⟨⟨1, (st, sl), rfl, ⟨rfl, Or.inl (rfl)⟩, mB.of ht hP⟩, hS.F ht⟩) hS.2.2 dX12_holds_173
    · exact W.zret (v := 0) hx hb hr rfl (fun t ht hW => ⟨⟨0, (st, sl), rfl, ⟨rfl, Or.inr (rfl)⟩, mB.of ht hP⟩, hS.F ht⟩) hS.2.2 dX12_holds_173
  by_cases cw14 : z3 = 67
  · subst cw14
    refine lv_lookup (off := 140) (tgt := 174) hx hb dX12_holds_34 (by decide) (by decide) (by decide) ?_
    refine lv_aload_n hx hb dX12_holds_174 rfl (lv_at hl 3 rfl) ?_
    refine lv_iload_n hx hb dX12_holds_175 rfl (lv_at hl 5 rfl) ?_
    refine va_calli (va_runV (As := [.int (nI vb)]) (rest := []) ⟨hx, hb, hml, hown, hts⟩ (m_dogsOf l dC dI ar cy _ hN st sl (nI vb)  hG.1) (cwV 1 hts gX12_holds_X12_dogsOf rfl rfl rfl (by decide +kernel) ⟨Nat.le_of_ble_eq_true rfl, Nat.le_of_ble_eq_true rfl⟩) ⟨fun a U g mk q => ⟨q.1, mPre.blind q.2⟩, va_recv hK hP (ci := 11) (q0 := 0) rfl rfl, fun U hU hW => ⟨rfl, mPre.of hP hK hU hW⟩⟩ rfl rfl hl.1 rfl (lv_room (Nat.le_of_ble_eq_true rfl)) dX12_holds_176 ⟨Nat.le_of_ble_eq_true rfl, Nat.le_of_ble_eq_true rfl⟩) hS (fun q _ h => MA.le hS.1 q h) (MA.le hS.1) (fun r15 x t H locs ht hvm hw hB _ _ hS => ?_)
    have hP := mB.at ht hB
    clear hB ht hvm
    obtain ⟨rfl, hw⟩ := hw
    have hP : va_P (dC, dI) vwCl (mw ar cy st sl) _ := hP
    clear hw
    refine lv_if_eq (tgt := 186) hx hb dX12_holds_179 (by decide) (fun c11 => ?_) (fun c11 => ?_)
    · refine lv_iconst (v := 0) hx hb dX12_holds_186 (by decide) ?_
      exact W.zret (v := 0) hx hb hr rfl (fun t ht hW => ⟨⟨0, (st, sl), rfl, ⟨rfl, Or.inr (rfl)⟩, mB.of ht hP⟩, hS.F ht⟩) hS.2.2 dX12_holds_187
    · refine lv_iconst (v := 1) hx hb dX12_holds_182 (by decide) ?_
      refine lv_goto (tgt := 187) hx hb dX12_holds_183 (by decide) ?_
      exact W.zret (v := 1) hx hb hr rfl (fun t ht hW => ⟨⟨1, (st, sl), rfl, ⟨rfl, Or.inl (rfl)⟩, mB.of ht hP⟩, hS.F ht⟩) hS.2.2 dX12_holds_187
  by_cases cw16 : z3 = 68
  · subst cw16
    refine lv_lookup (off := 154) (tgt := 188) hx hb dX12_holds_34 (by decide) (by decide) (by decide) ?_
    obtain ⟨nx, hnx, enx⟩ := hOK.2.2 ez3.symm
    obtain rfl : z1 = nI nx := ez1.trans enx
    refine lv_iload_n hx hb dX12_holds_188 rfl (lv_at hl 5 rfl) ?_
    refine lv_iload hx hb dX12_holds_189 (lv_at hl 1 rfl) ?_
    refine lv_icmp_eq (tgt := 208) hx hb dX12_holds_191 (by decide) (fun c12 => ?_) (fun c12 => ?_)
    · have c12 : vb = nx := (nI_eq (a := vb) (b := nx) (by omega) (by omega)).mp c12
      refine lv_iconst (v := 0) hx hb dX12_holds_208 (by decide) ?_
      exact W.zret (v := 0) hx hb hr rfl (fun t ht hW => ⟨⟨0, (st, sl), rfl, ⟨rfl, Or.inr (rfl)⟩, mB.of ht hP⟩, hS.F ht⟩) hS.2.2 dX12_holds_209
    · have c12 : ¬ vb = nx := fun hh => c12 ((nI_eq (a := vb) (b := nx) (by omega) (by omega)).mpr hh)
      refine lv_aload_n hx hb dX12_holds_194 rfl (lv_at hl 3 rfl) ?_
      refine lv_iload_n hx hb dX12_holds_195 rfl (lv_at hl 5 rfl) ?_
      refine lv_iload hx hb dX12_holds_196 (lv_at hl 1 rfl) ?_
      refine va_calli (va_runV (As := [.int (nI vb), .int (nI nx)]) (rest := []) ⟨hx, hb, hml, hown, hts⟩ (m_meetsIn l dC dI ar cy _ hN st sl vb nx (by omega) (by omega) hG.1) (cwV 2 hts gX12_holds_X12_meetsIn rfl rfl rfl (by decide +kernel) ⟨Nat.le_of_ble_eq_true rfl, Nat.le_of_ble_eq_true rfl⟩) ⟨fun a U g mk q => ⟨q.1, mPre.blind q.2⟩, va_recv hK hP (ci := 11) (q0 := 0) rfl rfl, fun U hU hW => ⟨rfl, mPre.of hP hK hU hW⟩⟩ rfl rfl hl.1 rfl (lv_room (Nat.le_of_ble_eq_true rfl)) dX12_holds_198 ⟨Nat.le_of_ble_eq_true rfl, Nat.le_of_ble_eq_true rfl⟩) hS (fun q _ h => MA.le hS.1 q h) (MA.le hS.1) (fun r17 x t H locs ht hvm hw hB _ _ hS => ?_)
      have hP := mB.at ht hB
      clear hB ht hvm
      obtain ⟨rfl, hw⟩ := hw
      have hP : va_P (dC, dI) vwCl (mw ar cy st sl) _ := hP
      clear hw
      refine lv_if_eq (tgt := 208) hx hb dX12_holds_201 (by decide) (fun c13 => ?_) (fun c13 => ?_)
      · refine lv_iconst (v := 0) hx hb dX12_holds_208 (by decide) ?_
        exact W.zret (v := 0) hx hb hr rfl (fun t ht hW => ⟨⟨0, (st, sl), rfl, ⟨rfl, Or.inr (rfl)⟩, mB.of ht hP⟩, hS.F ht⟩) hS.2.2 dX12_holds_209
      · refine lv_iconst (v := 1) hx hb dX12_holds_204 (by decide) ?_
        refine lv_goto (tgt := 209) hx hb dX12_holds_205 (by decide) ?_
        exact W.zret (v := 1) hx hb hr rfl (fun t ht hW => ⟨⟨1, (st, sl), rfl, ⟨rfl, Or.inl (rfl)⟩, mB.of ht hP⟩, hS.F ht⟩) hS.2.2 dX12_holds_209
  by_cases cw18 : z3 = 69
  · subst cw18
    refine lv_lookup (off := 176) (tgt := 210) hx hb dX12_holds_34 (by decide) (by decide) (by decide) ?_
    refine lv_aload_n hx hb dX12_holds_210 rfl (lv_at hl 3 rfl) ?_
    refine va_get (D := (dC, dI)) (ci := 11) (v := .ref (ar 2)) (C := RX12) (T := TX12) (N := 47) hx hb hts ii_X12_holds hown hK hP 0 rfl rfl 14 (by decide) (hts _ mm_X12_holds_1) (fun _ hh => hh) rfl dX12_holds_211 ?_
    refine lv_bipush (v := 71) hx hb dX12_holds_214 (by decide) ?_
    refine lv_iload_n hx hb dX12_holds_216 rfl (lv_at hl 5 rfl) ?_
    refine lv_iadd hx hb dX12_holds_217 ?_
    refine zz_top (v := nI (71 + vb)) (nI_add 71 vb) ?_
    refine va_iald hx hb hK hP 2 1 rfl rfl (i := (nI (71 + vb))) (vp_in_nI (by omega) (by decide)) dX12_holds_218 ?_
    obtain ⟨n19, hn19, en19⟩ := hG.1.at (r := 2) (k := (71 + vb)) (mr_2_71_79 (71 + vb) (by omega) (by omega)) (by decide)
    refine zz_top (v := nI n19) (by rw [nI_clamp (by omega)]; exact en19) ?_
    refine lv_iload hx hb dX12_holds_219 (lv_at hl 1 rfl) ?_
    refine lv_icmp_ne (tgt := 228) hx hb dX12_holds_221 (by decide) (fun c14 => ?_) (fun c14 => ?_)
    · refine lv_iconst (v := 0) hx hb dX12_holds_228 (by decide) ?_
      exact W.zret (v := 0) hx hb hr rfl (fun t ht hW => ⟨⟨0, (st, sl), rfl, ⟨rfl, Or.inr (rfl)⟩, mB.of ht hP⟩, hS.F ht⟩) hS.2.2 dX12_holds_229
    · refine lv_iconst (v := 1) hx hb dX12_holds_224 (by decide) ?_
      refine lv_goto (tgt := 229) hx hb dX12_holds_225 (by decide) ?_
      exact W.zret (v := 1) hx hb hr rfl (fun t ht hW => ⟨⟨1, (st, sl), rfl, ⟨rfl, Or.inl (rfl)⟩, mB.of ht hP⟩, hS.F ht⟩) hS.2.2 dX12_holds_229
  refine lv_lookup (off := 196) (tgt := 230) hx hb dX12_holds_34 (by decide) (by show Op.lookupswitch.offset [(1, 66), (2, 82), (3, 108), (66, 134), (67, 140), (68, 154), (69, 176)] 196 (z3).toInt = 196; rw [Op.lookupswitch.offset_cons, if_neg (fun hh => cw4 (Int32.toInt_inj.mp (by rw [← hh]; decide))), Op.lookupswitch.offset_cons, if_neg (fun hh => cw6 (Int32.toInt_inj.mp (by rw [← hh]; decide))), Op.lookupswitch.offset_cons, if_neg (fun hh => cw9 (Int32.toInt_inj.mp (by rw [← hh]; decide))), Op.lookupswitch.offset_cons, if_neg (fun hh => cw12 (Int32.toInt_inj.mp (by rw [← hh]; decide))), Op.lookupswitch.offset_cons, if_neg (fun hh => cw14 (Int32.toInt_inj.mp (by rw [← hh]; decide))), Op.lookupswitch.offset_cons, if_neg (fun hh => cw16 (Int32.toInt_inj.mp (by rw [← hh]; decide))), Op.lookupswitch.offset_cons, if_neg (fun hh => cw18 (Int32.toInt_inj.mp (by rw [← hh]; decide)))]; rfl) (by decide) ?_
  refine lv_aload_n hx hb dX12_holds_230 rfl (lv_at hl 3 rfl) ?_
  refine va_get (D := (dC, dI)) (ci := 11) (v := .ref (ar 2)) (C := RX12) (T := TX12) (N := 47) hx hb hts ii_X12_holds hown hK hP 0 rfl rfl 14 (by decide) (hts _ mm_X12_holds_1) (fun _ hh => hh) rfl dX12_holds_231 ?_
  refine lv_iload_n hx hb dX12_holds_234 rfl (lv_at hl 2 rfl) ?_
  refine va_iald hx hb hK hP 2 1 rfl rfl (i := (nI (133 + (4 * va)))) (vp_in_nI (by omega) (by decide)) dX12_holds_235 ?_
  refine zz_top (v := st 2 (133 + (4 * va))) (by rw [nI_clamp (by omega)]) ?_
  refine lv_topi (fun z20 ez20 => ?_)
  refine lv_bipush (v := 50) hx hb dX12_holds_236 (by decide) ?_
  refine lv_isub hx hb dX12_holds_238 ?_
  refine lv_topi (fun z21 ez21 => ?_)
  refine lv_istore (lv' := [(6, .int z21), (5, .int z2), (4, .int z1), (3, .int (nI (133 + (4 * va)))), (0, .ref (ar 0)), (1, .int (nI va)), (2, .int (nI vb))]) hx hb dX12_holds_239 hl (by decide) rfl (fun ls hl => ?_)
  refine lv_iload hx hb dX12_holds_241 (lv_at hl 0 rfl) ?_
  refine lv_bipush (v := 20) hx hb dX12_holds_243 (by decide) ?_
  refine lv_icmp_ne (tgt := 260) hx hb dX12_holds_245 (by decide) (fun c15 => ?_) (fun c15 => ?_)
  · refine lv_iload hx hb dX12_holds_260 (lv_at hl 0 rfl) ?_
    refine lv_bipush (v := 21) hx hb dX12_holds_262 (by decide) ?_
    refine lv_icmp_ne (tgt := 279) hx hb dX12_holds_264 (by decide) (fun c16 => ?_) (fun c16 => ?_)
    · refine lv_iload hx hb dX12_holds_279 (lv_at hl 0 rfl) ?_
      refine lv_bipush (v := 22) hx hb dX12_holds_281 (by decide) ?_
      refine lv_icmp_ne (tgt := 294) hx hb dX12_holds_283 (by decide) (fun c17 => ?_) (fun c17 => ?_)
      · refine lv_iload_n hx hb dX12_holds_294 rfl (lv_at hl 6 rfl) ?_
        refine lv_istore (lv' := [(7, .int (nI vb)), (6, .int z21), (5, .int z2), (4, .int z1), (3, .int (nI (133 + (4 * va)))), (0, .ref (ar 0)), (1, .int (nI va)), (2, .int (nI vb))]) hx hb dX12_holds_295 hl (by decide) rfl (fun ls hl => ?_)
        refine lv_aload_n hx hb dX12_holds_297 rfl (lv_at hl 5 rfl) ?_
        refine va_get (D := (dC, dI)) (ci := 11) (v := .ref (ar 2)) (C := RX12) (T := TX12) (N := 47) hx hb hts ii_X12_holds hown hK hP 0 rfl rfl 14 (by decide) (hts _ mm_X12_holds_1) (fun _ hh => hh) rfl dX12_holds_298 ?_
        refine lv_iload_n hx hb dX12_holds_301 rfl (lv_at hl 4 rfl) ?_
        refine lv_iconst (v := 3) hx hb dX12_holds_302 (by decide) ?_
        refine lv_iadd hx hb dX12_holds_303 ?_
        refine zz_top (v := nI ((133 + (4 * va)) + 3)) (nI_add (133 + (4 * va)) 3) ?_
        refine va_iald hx hb hK hP 2 1 rfl rfl (i := (nI ((133 + (4 * va)) + 3))) (vp_in_nI (by omega) (by decide)) dX12_holds_304 ?_
        refine zz_top (v := st 2 ((133 + (4 * va)) + 3)) (by rw [nI_clamp (by omega)]) ?_
        refine lv_topi (fun z22 ez22 => ?_)
        refine lv_bipush (v := 60) hx hb dX12_holds_305 (by decide) ?_
        refine lv_icmp_ne (tgt := 325) hx hb dX12_holds_307 (by decide) (fun c18 => ?_) (fun c18 => ?_)
        · refine lv_aload_n hx hb dX12_holds_325 rfl (lv_at hl 5 rfl) ?_
          refine va_get (D := (dC, dI)) (ci := 11) (v := .ref (ar 2)) (C := RX12) (T := TX12) (N := 47) hx hb hts ii_X12_holds hown hK hP 0 rfl rfl 14 (by decide) (hts _ mm_X12_holds_1) (fun _ hh => hh) rfl dX12_holds_326 ?_
          refine lv_iload_n hx hb dX12_holds_329 rfl (lv_at hl 4 rfl) ?_
          refine lv_iconst (v := 3) hx hb dX12_holds_330 (by decide) ?_
          refine lv_iadd hx hb dX12_holds_331 ?_
          refine zz_top (v := nI ((133 + (4 * va)) + 3)) (nI_add (133 + (4 * va)) 3) ?_
          refine va_iald hx hb hK hP 2 1 rfl rfl (i := (nI ((133 + (4 * va)) + 3))) (vp_in_nI (by omega) (by decide)) dX12_holds_332 ?_
          refine zz_top (v := st 2 ((133 + (4 * va)) + 3)) (by rw [nI_clamp (by omega)]) ?_
          refine lv_topi (fun z23 ez23 => ?_)
          refine lv_bipush (v := 61) hx hb dX12_holds_333 (by decide) ?_
          refine lv_icmp_ne (tgt := 353) hx hb dX12_holds_335 (by decide) (fun c19 => ?_) (fun c19 => ?_)
          · refine lv_iload hx hb dX12_holds_353 (lv_at hl 0 rfl) ?_
            refine lv_iload hx hb dX12_holds_355 (lv_at hl 2 rfl) ?_
            refine lv_icmp_le (tgt := 364) hx hb dX12_holds_357 (by decide) (fun c20 => ?_) (fun c20 => ?_)
            · refine lv_iconst (v := 0) hx hb dX12_holds_364 (by decide) ?_
              exact W.zret (v := 0) hx hb hr rfl (fun t ht hW => ⟨⟨0, (st, sl), rfl, ⟨rfl, Or.inr (rfl)⟩, mB.of ht hP⟩, hS.F ht⟩) hS.2.2 dX12_holds_365
            · refine lv_iconst (v := 1) hx hb dX12_holds_360 (by decide) ?_
              refine lv_goto (tgt := 365) hx hb dX12_holds_361 (by decide) ?_
              exact W.zret (v := 1) hx hb hr rfl (fun t ht hW => ⟨⟨1, (st, sl), rfl, ⟨rfl, Or.inl (rfl)⟩, mB.of ht hP⟩, hS.F ht⟩) hS.2.2 dX12_holds_365
          · refine lv_iload hx hb dX12_holds_338 (lv_at hl 0 rfl) ?_
            refine lv_iload hx hb dX12_holds_340 (lv_at hl 2 rfl) ?_
            refine lv_icmp_ne (tgt := 349) hx hb dX12_holds_342 (by decide) (fun c21 => ?_) (fun c21 => ?_)
            · refine lv_iconst (v := 0) hx hb dX12_holds_349 (by decide) ?_
              refine lv_goto (tgt := 365) hx hb dX12_holds_350 (by decide) ?_
              exact W.zret (v := 0) hx hb hr rfl (fun t ht hW => ⟨⟨0, (st, sl), rfl, ⟨rfl, Or.inr (rfl)⟩, mB.of ht hP⟩, hS.F ht⟩) hS.2.2 dX12_holds_365
            · refine lv_iconst (v := 1) hx hb dX12_holds_345 (by decide) ?_
              refine lv_goto (tgt := 365) hx hb dX12_holds_346 (by decide) ?_
              exact W.zret (v := 1) hx hb hr rfl (fun t ht hW => ⟨⟨1, (st, sl), rfl, ⟨rfl, Or.inl (rfl)⟩, mB.of ht hP⟩, hS.F ht⟩) hS.2.2 dX12_holds_365
        · refine lv_iload hx hb dX12_holds_310 (lv_at hl 0 rfl) ?_
          refine lv_iload hx hb dX12_holds_312 (lv_at hl 2 rfl) ?_
          refine lv_icmp_ge (tgt := 321) hx hb dX12_holds_314 (by decide) (fun c22 => ?_) (fun c22 => ?_)
          · refine lv_iconst (v := 0) hx hb dX12_holds_321 (by decide) ?_
            refine lv_goto (tgt := 365) hx hb dX12_holds_322 (by decide) ?_
            exact W.zret (v := 0) hx hb hr rfl (fun t ht hW => ⟨⟨0, (st, sl), rfl, ⟨rfl, Or.inr (rfl)⟩, mB.of ht hP⟩, hS.F ht⟩) hS.2.2 dX12_holds_365
          · refine lv_iconst (v := 1) hx hb dX12_holds_317 (by decide) ?_
            refine lv_goto (tgt := 365) hx hb dX12_holds_318 (by decide) ?_
            exact W.zret (v := 1) hx hb hr rfl (fun t ht hW => ⟨⟨1, (st, sl), rfl, ⟨rfl, Or.inl (rfl)⟩, mB.of ht hP⟩, hS.F ht⟩) hS.2.2 dX12_holds_365
      · refine lv_aload_n hx hb dX12_holds_286 rfl (lv_at hl 4 rfl) ?_
        refine lv_iload_n hx hb dX12_holds_287 rfl (lv_at hl 6 rfl) ?_
        refine va_calli (va_runV (As := [.int (nI vb)]) (rest := []) ⟨hx, hb, hml, hown, hts⟩ (m_goodOf l dC dI ar cy _ hN st sl vb (by omega) hG.1) (cwV 1 hts gX12_holds_X12_goodOf rfl rfl rfl (by decide +kernel) ⟨Nat.le_of_ble_eq_true rfl, Nat.le_of_ble_eq_true rfl⟩) ⟨fun a U g mk q => ⟨q.1, mPre.blind q.2⟩, va_recv hK hP (ci := 11) (q0 := 0) rfl rfl, fun U hU hW => ⟨rfl, mPre.of hP hK hU hW⟩⟩ rfl rfl hl.1 rfl (lv_room (Nat.le_of_ble_eq_true rfl)) dX12_holds_288 ⟨Nat.le_of_ble_eq_true rfl, Nat.le_of_ble_eq_true rfl⟩) hS (fun q _ h => MA.le hS.1 q h) (MA.le hS.1) (fun r24 x t H locs ht hvm hw hB _ _ hS => ?_)
        have hP := mB.at ht hB
        clear hB ht hvm
        obtain ⟨rfl, hw⟩ := hw
        have hP : va_P (dC, dI) vwCl (mw ar cy st sl) _ := hP
        clear hw
        refine lv_goto (tgt := 295) hx hb dX12_holds_291 (by decide) ?_
        refine lv_istore (lv' := [(7, .int r24), (6, .int z21), (5, .int z2), (4, .int z1), (3, .int (nI (133 + (4 * va)))), (0, .ref (ar 0)), (1, .int (nI va)), (2, .int (nI vb))]) hx hb dX12_holds_295 hl (by decide) rfl (fun ls hl => ?_)
        refine lv_aload_n hx hb dX12_holds_297 rfl (lv_at hl 5 rfl) ?_
        refine va_get (D := (dC, dI)) (ci := 11) (v := .ref (ar 2)) (C := RX12) (T := TX12) (N := 47) hx hb hts ii_X12_holds hown hK hP 0 rfl rfl 14 (by decide) (hts _ mm_X12_holds_1) (fun _ hh => hh) rfl dX12_holds_298 ?_
        refine lv_iload_n hx hb dX12_holds_301 rfl (lv_at hl 4 rfl) ?_
        refine lv_iconst (v := 3) hx hb dX12_holds_302 (by decide) ?_
        refine lv_iadd hx hb dX12_holds_303 ?_
        refine zz_top (v := nI ((133 + (4 * va)) + 3)) (nI_add (133 + (4 * va)) 3) ?_
        refine va_iald hx hb hK hP 2 1 rfl rfl (i := (nI ((133 + (4 * va)) + 3))) (vp_in_nI (by omega) (by decide)) dX12_holds_304 ?_
        refine zz_top (v := st 2 ((133 + (4 * va)) + 3)) (by rw [nI_clamp (by omega)]) ?_
        refine lv_topi (fun z25 ez25 => ?_)
        refine lv_bipush (v := 60) hx hb dX12_holds_305 (by decide) ?_
        refine lv_icmp_ne (tgt := 325) hx hb dX12_holds_307 (by decide) (fun c23 => ?_) (fun c23 => ?_)
        · refine lv_aload_n hx hb dX12_holds_325 rfl (lv_at hl 5 rfl) ?_
          refine va_get (D := (dC, dI)) (ci := 11) (v := .ref (ar 2)) (C := RX12) (T := TX12) (N := 47) hx hb hts ii_X12_holds hown hK hP 0 rfl rfl 14 (by decide) (hts _ mm_X12_holds_1) (fun _ hh => hh) rfl dX12_holds_326 ?_
          refine lv_iload_n hx hb dX12_holds_329 rfl (lv_at hl 4 rfl) ?_
          refine lv_iconst (v := 3) hx hb dX12_holds_330 (by decide) ?_
          refine lv_iadd hx hb dX12_holds_331 ?_
          refine zz_top (v := nI ((133 + (4 * va)) + 3)) (nI_add (133 + (4 * va)) 3) ?_
          refine va_iald hx hb hK hP 2 1 rfl rfl (i := (nI ((133 + (4 * va)) + 3))) (vp_in_nI (by omega) (by decide)) dX12_holds_332 ?_
          refine zz_top (v := st 2 ((133 + (4 * va)) + 3)) (by rw [nI_clamp (by omega)]) ?_
          refine lv_topi (fun z26 ez26 => ?_)
          refine lv_bipush (v := 61) hx hb dX12_holds_333 (by decide) ?_
          refine lv_icmp_ne (tgt := 353) hx hb dX12_holds_335 (by decide) (fun c24 => ?_) (fun c24 => ?_)
          · refine lv_iload hx hb dX12_holds_353 (lv_at hl 0 rfl) ?_
            refine lv_iload hx hb dX12_holds_355 (lv_at hl 2 rfl) ?_
            refine lv_icmp_le (tgt := 364) hx hb dX12_holds_357 (by decide) (fun c25 => ?_) (fun c25 => ?_)
            · refine lv_iconst (v := 0) hx hb dX12_holds_364 (by decide) ?_
              exact W.zret (v := 0) hx hb hr rfl (fun t ht hW => ⟨⟨0, (st, sl), rfl, ⟨rfl, Or.inr (rfl)⟩, mB.of ht hP⟩, hS.F ht⟩) hS.2.2 dX12_holds_365
            · refine lv_iconst (v := 1) hx hb dX12_holds_360 (by decide) ?_
              refine lv_goto (tgt := 365) hx hb dX12_holds_361 (by decide) ?_
              exact W.zret (v := 1) hx hb hr rfl (fun t ht hW => ⟨⟨1, (st, sl), rfl, ⟨rfl, Or.inl (rfl)⟩, mB.of ht hP⟩, hS.F ht⟩) hS.2.2 dX12_holds_365
          · refine lv_iload hx hb dX12_holds_338 (lv_at hl 0 rfl) ?_
            refine lv_iload hx hb dX12_holds_340 (lv_at hl 2 rfl) ?_
            refine lv_icmp_ne (tgt := 349) hx hb dX12_holds_342 (by decide) (fun c26 => ?_) (fun c26 => ?_)
            · refine lv_iconst (v := 0) hx hb dX12_holds_349 (by decide) ?_
              refine lv_goto (tgt := 365) hx hb dX12_holds_350 (by decide) ?_
              exact W.zret (v := 0) hx hb hr rfl (fun t ht hW => ⟨⟨0, (st, sl), rfl, ⟨rfl, Or.inr (rfl)⟩, mB.of ht hP⟩, hS.F ht⟩) hS.2.2 dX12_holds_365
            · refine lv_iconst (v := 1) hx hb dX12_holds_345 (by decide) ?_
              refine lv_goto (tgt := 365) hx hb dX12_holds_346 (by decide) ?_
              exact W.zret (v := 1) hx hb hr rfl (fun t ht hW => ⟨⟨1, (st, sl), rfl, ⟨rfl, Or.inl (rfl)⟩, mB.of ht hP⟩, hS.F ht⟩) hS.2.2 dX12_holds_365
        · refine lv_iload hx hb dX12_holds_310 (lv_at hl 0 rfl) ?_
          refine lv_iload hx hb dX12_holds_312 (lv_at hl 2 rfl) ?_
          refine lv_icmp_ge (tgt := 321) hx hb dX12_holds_314 (by decide) (fun c27 => ?_) (fun c27 => ?_)
          · refine lv_iconst (v := 0) hx hb dX12_holds_321 (by decide) ?_
            refine lv_goto (tgt := 365) hx hb dX12_holds_322 (by decide) ?_
            exact W.zret (v := 0) hx hb hr rfl (fun t ht hW => ⟨⟨0, (st, sl), rfl, ⟨rfl, Or.inr (rfl)⟩, mB.of ht hP⟩, hS.F ht⟩) hS.2.2 dX12_holds_365
          · refine lv_iconst (v := 1) hx hb dX12_holds_317 (by decide) ?_
            refine lv_goto (tgt := 365) hx hb dX12_holds_318 (by decide) ?_
            exact W.zret (v := 1) hx hb hr rfl (fun t ht hW => ⟨⟨1, (st, sl), rfl, ⟨rfl, Or.inl (rfl)⟩, mB.of ht hP⟩, hS.F ht⟩) hS.2.2 dX12_holds_365
    · refine lv_aload_n hx hb dX12_holds_267 rfl (lv_at hl 4 rfl) ?_
      refine va_get (D := (dC, dI)) (ci := 11) (v := .ref (ar 2)) (C := RX12) (T := TX12) (N := 47) hx hb hts ii_X12_holds hown hK hP 0 rfl rfl 14 (by decide) (hts _ mm_X12_holds_1) (fun _ hh => hh) rfl dX12_holds_268 ?_
      refine lv_bipush (v := 111) hx hb dX12_holds_271 (by decide) ?_
      refine lv_iload_n hx hb dX12_holds_273 rfl (lv_at hl 6 rfl) ?_
      refine lv_iadd hx hb dX12_holds_274 ?_
      refine zz_top (v := nI (111 + vb)) (nI_add 111 vb) ?_
      refine va_iald hx hb hK hP 2 1 rfl rfl (i := (nI (111 + vb))) (vp_in_nI (by omega) (by decide)) dX12_holds_275 ?_
      refine zz_top (v := st 2 (111 + vb)) (by rw [nI_clamp (by omega)]) ?_
      refine lv_topi (fun z27 ez27 => ?_)
      refine lv_goto (tgt := 295) hx hb dX12_holds_276 (by decide) ?_
      refine lv_istore (lv' := [(7, .int z27), (6, .int z21), (5, .int z2), (4, .int z1), (3, .int (nI (133 + (4 * va)))), (0, .ref (ar 0)), (1, .int (nI va)), (2, .int (nI vb))]) hx hb dX12_holds_295 hl (by decide) rfl (fun ls hl => ?_)
      refine lv_aload_n hx hb dX12_holds_297 rfl (lv_at hl 5 rfl) ?_
      refine va_get (D := (dC, dI)) (ci := 11) (v := .ref (ar 2)) (C := RX12) (T := TX12) (N := 47) hx hb hts ii_X12_holds hown hK hP 0 rfl rfl 14 (by decide) (hts _ mm_X12_holds_1) (fun _ hh => hh) rfl dX12_holds_298 ?_
      refine lv_iload_n hx hb dX12_holds_301 rfl (lv_at hl 4 rfl) ?_
      refine lv_iconst (v := 3) hx hb dX12_holds_302 (by decide) ?_
      refine lv_iadd hx hb dX12_holds_303 ?_
      refine zz_top (v := nI ((133 + (4 * va)) + 3)) (nI_add (133 + (4 * va)) 3) ?_
      refine va_iald hx hb hK hP 2 1 rfl rfl (i := (nI ((133 + (4 * va)) + 3))) (vp_in_nI (by omega) (by decide)) dX12_holds_304 ?_
      refine zz_top (v := st 2 ((133 + (4 * va)) + 3)) (by rw [nI_clamp (by omega)]) ?_
      refine lv_topi (fun z28 ez28 => ?_)
      refine lv_bipush (v := 60) hx hb dX12_holds_305 (by decide) ?_
      refine lv_icmp_ne (tgt := 325) hx hb dX12_holds_307 (by decide) (fun c28 => ?_) (fun c28 => ?_)
      · refine lv_aload_n hx hb dX12_holds_325 rfl (lv_at hl 5 rfl) ?_
        refine va_get (D := (dC, dI)) (ci := 11) (v := .ref (ar 2)) (C := RX12) (T := TX12) (N := 47) hx hb hts ii_X12_holds hown hK hP 0 rfl rfl 14 (by decide) (hts _ mm_X12_holds_1) (fun _ hh => hh) rfl dX12_holds_326 ?_
        refine lv_iload_n hx hb dX12_holds_329 rfl (lv_at hl 4 rfl) ?_
        refine lv_iconst (v := 3) hx hb dX12_holds_330 (by decide) ?_
        refine lv_iadd hx hb dX12_holds_331 ?_
        refine zz_top (v := nI ((133 + (4 * va)) + 3)) (nI_add (133 + (4 * va)) 3) ?_
        refine va_iald hx hb hK hP 2 1 rfl rfl (i := (nI ((133 + (4 * va)) + 3))) (vp_in_nI (by omega) (by decide)) dX12_holds_332 ?_
        refine zz_top (v := st 2 ((133 + (4 * va)) + 3)) (by rw [nI_clamp (by omega)]) ?_
        refine lv_topi (fun z29 ez29 => ?_)
        refine lv_bipush (v := 61) hx hb dX12_holds_333 (by decide) ?_
        refine lv_icmp_ne (tgt := 353) hx hb dX12_holds_335 (by decide) (fun c29 => ?_) (fun c29 => ?_)
        · refine lv_iload hx hb dX12_holds_353 (lv_at hl 0 rfl) ?_
          refine lv_iload hx hb dX12_holds_355 (lv_at hl 2 rfl) ?_
          refine lv_icmp_le (tgt := 364) hx hb dX12_holds_357 (by decide) (fun c30 => ?_) (fun c30 => ?_)
          · refine lv_iconst (v := 0) hx hb dX12_holds_364 (by decide) ?_
            exact W.zret (v := 0) hx hb hr rfl (fun t ht hW => ⟨⟨0, (st, sl), rfl, ⟨rfl, Or.inr (rfl)⟩, mB.of ht hP⟩, hS.F ht⟩) hS.2.2 dX12_holds_365
          · refine lv_iconst (v := 1) hx hb dX12_holds_360 (by decide) ?_
            refine lv_goto (tgt := 365) hx hb dX12_holds_361 (by decide) ?_
            exact W.zret (v := 1) hx hb hr rfl (fun t ht hW => ⟨⟨1, (st, sl), rfl, ⟨rfl, Or.inl (rfl)⟩, mB.of ht hP⟩, hS.F ht⟩) hS.2.2 dX12_holds_365
        · refine lv_iload hx hb dX12_holds_338 (lv_at hl 0 rfl) ?_
          refine lv_iload hx hb dX12_holds_340 (lv_at hl 2 rfl) ?_
          refine lv_icmp_ne (tgt := 349) hx hb dX12_holds_342 (by decide) (fun c31 => ?_) (fun c31 => ?_)
          · refine lv_iconst (v := 0) hx hb dX12_holds_349 (by decide) ?_
            refine lv_goto (tgt := 365) hx hb dX12_holds_350 (by decide) ?_
            exact W.zret (v := 0) hx hb hr rfl (fun t ht hW => ⟨⟨0, (st, sl), rfl, ⟨rfl, Or.inr (rfl)⟩, mB.of ht hP⟩, hS.F ht⟩) hS.2.2 dX12_holds_365
          · refine lv_iconst (v := 1) hx hb dX12_holds_345 (by decide) ?_
            refine lv_goto (tgt := 365) hx hb dX12_holds_346 (by decide) ?_
            exact W.zret (v := 1) hx hb hr rfl (fun t ht hW => ⟨⟨1, (st, sl), rfl, ⟨rfl, Or.inl (rfl)⟩, mB.of ht hP⟩, hS.F ht⟩) hS.2.2 dX12_holds_365
      · refine lv_iload hx hb dX12_holds_310 (lv_at hl 0 rfl) ?_
        refine lv_iload hx hb dX12_holds_312 (lv_at hl 2 rfl) ?_
        refine lv_icmp_ge (tgt := 321) hx hb dX12_holds_314 (by decide) (fun c32 => ?_) (fun c32 => ?_)
        · refine lv_iconst (v := 0) hx hb dX12_holds_321 (by decide) ?_
          refine lv_goto (tgt := 365) hx hb dX12_holds_322 (by decide) ?_
          exact W.zret (v := 0) hx hb hr rfl (fun t ht hW => ⟨⟨0, (st, sl), rfl, ⟨rfl, Or.inr (rfl)⟩, mB.of ht hP⟩, hS.F ht⟩) hS.2.2 dX12_holds_365
        · refine lv_iconst (v := 1) hx hb dX12_holds_317 (by decide) ?_
          refine lv_goto (tgt := 365) hx hb dX12_holds_318 (by decide) ?_
          exact W.zret (v := 1) hx hb hr rfl (fun t ht hW => ⟨⟨1, (st, sl), rfl, ⟨rfl, Or.inl (rfl)⟩, mB.of ht hP⟩, hS.F ht⟩) hS.2.2 dX12_holds_365
  · refine lv_aload_n hx hb dX12_holds_248 rfl (lv_at hl 4 rfl) ?_
    refine va_get (D := (dC, dI)) (ci := 11) (v := .ref (ar 2)) (C := RX12) (T := TX12) (N := 47) hx hb hts ii_X12_holds hown hK hP 0 rfl rfl 14 (by decide) (hts _ mm_X12_holds_1) (fun _ hh => hh) rfl dX12_holds_249 ?_
    refine lv_bipush (v := 103) hx hb dX12_holds_252 (by decide) ?_
    refine lv_iload_n hx hb dX12_holds_254 rfl (lv_at hl 6 rfl) ?_
    refine lv_iadd hx hb dX12_holds_255 ?_
    refine zz_top (v := nI (103 + vb)) (nI_add 103 vb) ?_
    refine va_iald hx hb hK hP 2 1 rfl rfl (i := (nI (103 + vb))) (vp_in_nI (by omega) (by decide)) dX12_holds_256 ?_
    refine zz_top (v := st 2 (103 + vb)) (by rw [nI_clamp (by omega)]) ?_
    refine lv_topi (fun z30 ez30 => ?_)
    refine lv_goto (tgt := 295) hx hb dX12_holds_257 (by decide) ?_
    refine lv_istore (lv' := [(7, .int z30), (6, .int z21), (5, .int z2), (4, .int z1), (3, .int (nI (133 + (4 * va)))), (0, .ref (ar 0)), (1, .int (nI va)), (2, .int (nI vb))]) hx hb dX12_holds_295 hl (by decide) rfl (fun ls hl => ?_)
    refine lv_aload_n hx hb dX12_holds_297 rfl (lv_at hl 5 rfl) ?_
    refine va_get (D := (dC, dI)) (ci := 11) (v := .ref (ar 2)) (C := RX12) (T := TX12) (N := 47) hx hb hts ii_X12_holds hown hK hP 0 rfl rfl 14 (by decide) (hts _ mm_X12_holds_1) (fun _ hh => hh) rfl dX12_holds_298 ?_
    refine lv_iload_n hx hb dX12_holds_301 rfl (lv_at hl 4 rfl) ?_
    refine lv_iconst (v := 3) hx hb dX12_holds_302 (by decide) ?_
    refine lv_iadd hx hb dX12_holds_303 ?_
    refine zz_top (v := nI ((133 + (4 * va)) + 3)) (nI_add (133 + (4 * va)) 3) ?_
    refine va_iald hx hb hK hP 2 1 rfl rfl (i := (nI ((133 + (4 * va)) + 3))) (vp_in_nI (by omega) (by decide)) dX12_holds_304 ?_
    refine zz_top (v := st 2 ((133 + (4 * va)) + 3)) (by rw [nI_clamp (by omega)]) ?_
    refine lv_topi (fun z31 ez31 => ?_)
    refine lv_bipush (v := 60) hx hb dX12_holds_305 (by decide) ?_
    refine lv_icmp_ne (tgt := 325) hx hb dX12_holds_307 (by decide) (fun c33 => ?_) (fun c33 => ?_)
    · refine lv_aload_n hx hb dX12_holds_325 rfl (lv_at hl 5 rfl) ?_
      refine va_get (D := (dC, dI)) (ci := 11) (v := .ref (ar 2)) (C := RX12) (T := TX12) (N := 47) hx hb hts ii_X12_holds hown hK hP 0 rfl rfl 14 (by decide) (hts _ mm_X12_holds_1) (fun _ hh => hh) rfl dX12_holds_326 ?_
      refine lv_iload_n hx hb dX12_holds_329 rfl (lv_at hl 4 rfl) ?_
      refine lv_iconst (v := 3) hx hb dX12_holds_330 (by decide) ?_
      refine lv_iadd hx hb dX12_holds_331 ?_
      refine zz_top (v := nI ((133 + (4 * va)) + 3)) (nI_add (133 + (4 * va)) 3) ?_
      refine va_iald hx hb hK hP 2 1 rfl rfl (i := (nI ((133 + (4 * va)) + 3))) (vp_in_nI (by omega) (by decide)) dX12_holds_332 ?_
      refine zz_top (v := st 2 ((133 + (4 * va)) + 3)) (by rw [nI_clamp (by omega)]) ?_
      refine lv_topi (fun z32 ez32 => ?_)
      refine lv_bipush (v := 61) hx hb dX12_holds_333 (by decide) ?_
      refine lv_icmp_ne (tgt := 353) hx hb dX12_holds_335 (by decide) (fun c34 => ?_) (fun c34 => ?_)
      · refine lv_iload hx hb dX12_holds_353 (lv_at hl 0 rfl) ?_
        refine lv_iload hx hb dX12_holds_355 (lv_at hl 2 rfl) ?_
        refine lv_icmp_le (tgt := 364) hx hb dX12_holds_357 (by decide) (fun c35 => ?_) (fun c35 => ?_)
        · refine lv_iconst (v := 0) hx hb dX12_holds_364 (by decide) ?_
          exact W.zret (v := 0) hx hb hr rfl (fun t ht hW => ⟨⟨0, (st, sl), rfl, ⟨rfl, Or.inr (rfl)⟩, mB.of ht hP⟩, hS.F ht⟩) hS.2.2 dX12_holds_365
        · refine lv_iconst (v := 1) hx hb dX12_holds_360 (by decide) ?_
          refine lv_goto (tgt := 365) hx hb dX12_holds_361 (by decide) ?_
          exact W.zret (v := 1) hx hb hr rfl (fun t ht hW => ⟨⟨1, (st, sl), rfl, ⟨rfl, Or.inl (rfl)⟩, mB.of ht hP⟩, hS.F ht⟩) hS.2.2 dX12_holds_365
      · refine lv_iload hx hb dX12_holds_338 (lv_at hl 0 rfl) ?_
        refine lv_iload hx hb dX12_holds_340 (lv_at hl 2 rfl) ?_
        refine lv_icmp_ne (tgt := 349) hx hb dX12_holds_342 (by decide) (fun c36 => ?_) (fun c36 => ?_)
        · refine lv_iconst (v := 0) hx hb dX12_holds_349 (by decide) ?_
          refine lv_goto (tgt := 365) hx hb dX12_holds_350 (by decide) ?_
          exact W.zret (v := 0) hx hb hr rfl (fun t ht hW => ⟨⟨0, (st, sl), rfl, ⟨rfl, Or.inr (rfl)⟩, mB.of ht hP⟩, hS.F ht⟩) hS.2.2 dX12_holds_365
        · refine lv_iconst (v := 1) hx hb dX12_holds_345 (by decide) ?_
          refine lv_goto (tgt := 365) hx hb dX12_holds_346 (by decide) ?_
          exact W.zret (v := 1) hx hb hr rfl (fun t ht hW => ⟨⟨1, (st, sl), rfl, ⟨rfl, Or.inl (rfl)⟩, mB.of ht hP⟩, hS.F ht⟩) hS.2.2 dX12_holds_365
    · refine lv_iload hx hb dX12_holds_310 (lv_at hl 0 rfl) ?_
      refine lv_iload hx hb dX12_holds_312 (lv_at hl 2 rfl) ?_
      refine lv_icmp_ge (tgt := 321) hx hb dX12_holds_314 (by decide) (fun c37 => ?_) (fun c37 => ?_)
      · refine lv_iconst (v := 0) hx hb dX12_holds_321 (by decide) ?_
        refine lv_goto (tgt := 365) hx hb dX12_holds_322 (by decide) ?_
        exact W.zret (v := 0) hx hb hr rfl (fun t ht hW => ⟨⟨0, (st, sl), rfl, ⟨rfl, Or.inr (rfl)⟩, mB.of ht hP⟩, hS.F ht⟩) hS.2.2 dX12_holds_365
      · refine lv_iconst (v := 1) hx hb dX12_holds_317 (by decide) ?_
        refine lv_goto (tgt := 365) hx hb dX12_holds_318 (by decide) ?_
        exact W.zret (v := 1) hx hb hr rfl (fun t ht hW => ⟨⟨1, (st, sl), rfl, ⟨rfl, Or.inl (rfl)⟩, mB.of ht hP⟩, hS.F ht⟩) hS.2.2 dX12_holds_365
