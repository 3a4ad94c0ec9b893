set_option maxHeartbeats 8000000 in
set_option maxRecDepth 100000 in
theorem m_holds (dp : Nat) : ∀ (l : Launch) (dC : Nat → ClassId) (dI : Nat → Nat → Nat) (ar : Nat → Nat) (cy : Nat → ClassId) (sz : Nat) (hN : MN ar) (st : Nat → Nat → Int32) (sl : Nat → Nat → Int64) (va : Nat) (vb : Nat) (hva : va < dp + 1) (hvb : vb < 8) (hI : MI st) (h60 : va < 60) (hNK : NKn st), Met l yX12_holds wsX12_holds ({ frames := dp + 4, cells := 0, slots := 0, locals := 27 * dp + 88 }) (va_Pc [.ref (ar 0), .int (nI va), .int (nI vb)] (mPre dC dI ar cy sz st sl)) (va_Qi (fun (r : Int32) (x : MT) => x = (st, sl) ∧ ((r = 1) ∨ (r = 0))) (mB dC dI ar cy) (MA ar sz)) 0 0 (MA ar sz) := by
  induction dp with
  | zero =>
    intro l dC dI ar cy sz hN st sl va vb hva hvb hI h60 hNK
    refine Met.ofW (cc := cX12_holds) (maxL := 8) (ret := (some .boolean)) (by decide) rfl ?_
    intro p e s m args below meth c s₁ B hml hv
    obtain ⟨rfl, hsz, hP, hK⟩ := hv
    have hx := B.exec
    have hb := B.bytes
    have hr := B.returns
    have hts := atoms_spec (ws := wsX12_holds) B.pre
    have hown : s.vm.findClass RX12 = some m.cls := findClass_of_methodNamed B.named
    subst hsz
    have hS : va_S (MA ar s.heap.size) s.heap s.heap [] := va_S.rf
    have hG : MG [1, 2, 3, 4, 5, 6, 7, 8, 9, 10, 11, 12, 13, 14, 15, 16, 17, 19, 20, 21, 22, 23] st st := MG.rf hI
    have hl := lv_entry ([.ref (ar 0), .int (nI va), .int (nI vb)]) (n := 8) (Nat.le_of_ble_eq_true rfl)
    rw [lg_entry_eq]
    generalize (lg_sl ([.ref (ar 0), .int (nI va), .int (nI vb)]) ++ List.replicate (8 - (lg_sl ([.ref (ar 0), .int (nI va), .int (nI vb)])).length) Slot.unset).toArray = ls at hl ⊢
    have hl : lv_has ls 8 [(0, .ref (ar 0)), (1, .int (nI va)), (2, .int (nI vb))] := hl
    clear hI
    have hOK := hNK va (by omega)
    unfold nodeOK at hOK
    refine lv_sipush (v := 133) hx hb dX12_holds_0 (by decide) ?_
    refine lv_iconst (v := 4) hx hb dX12_holds_3 (by decide) ?_
    refine lv_iload_n hx hb dX12_holds_4 rfl (lv_at hl 1 rfl) ?_
    refine lv_imul hx hb dX12_holds_5 ?_
    refine zz_top (v := nI (4 * va)) (nI_mul 4 va) ?_
    refine lv_iadd hx hb dX12_holds_6 ?_
    refine zz_top (v := nI (133 + (4 * va))) (nI_add 133 (4 * va)) ?_
    refine lv_istore_n (lv' := [(3, .int (nI (133 + (4 * va)))), (0, .ref (ar 0)), (1, .int (nI va)), (2, .int (nI vb))]) hx hb dX12_holds_7 rfl hl (by decide) rfl (fun ls hl => ?_)
    refine lv_aload_n hx hb dX12_holds_8 rfl (lv_at hl 1 rfl) ?_
    refine va_get (D := (dC, dI)) (ci := 11) (v := .ref (ar 2)) (C := RX12) (T := TX12) (N := 47) hx hb hts ii_X12_holds hown hK hP 0 rfl rfl 14 (by decide) (hts _ mm_X12_holds_1) (fun _ hh => hh) rfl dX12_holds_9 ?_
    refine lv_iload_n hx hb dX12_holds_12 rfl (lv_at hl 0 rfl) ?_
    refine lv_iconst (v := 1) hx hb dX12_holds_13 (by decide) ?_
    refine lv_iadd hx hb dX12_holds_14 ?_
    refine zz_top (v := nI ((133 + (4 * va)) + 1)) (nI_add (133 + (4 * va)) 1) ?_
    refine va_iald hx hb hK hP 2 1 rfl rfl (i := (nI ((133 + (4 * va)) + 1))) (vp_in_nI (by omega) (by decide)) dX12_holds_15 ?_
    refine zz_top (v := st 2 ((133 + (4 * va)) + 1)) (by rw [nI_clamp (by omega)]) ?_
    refine lv_topi (fun z1 ez1 => ?_)
    refine lv_istore (lv' := [(4, .int z1), (3, .int (nI (133 + (4 * va)))), (0, .ref (ar 0)), (1, .int (nI va)), (2, .int (nI vb))]) hx hb dX12_holds_16 hl (by decide) rfl (fun ls hl => ?_)
    refine lv_aload_n hx hb dX12_holds_18 rfl (lv_at hl 2 rfl) ?_
    refine va_get (D := (dC, dI)) (ci := 11) (v := .ref (ar 2)) (C := RX12) (T := TX12) (N := 47) hx hb hts ii_X12_holds hown hK hP 0 rfl rfl 14 (by decide) (hts _ mm_X12_holds_1) (fun _ hh => hh) rfl dX12_holds_19 ?_
    refine lv_iload_n hx hb dX12_holds_22 rfl (lv_at hl 1 rfl) ?_
    refine lv_iconst (v := 2) hx hb dX12_holds_23 (by decide) ?_
    refine lv_iadd hx hb dX12_holds_24 ?_
    refine zz_top (v := nI ((133 + (4 * va)) + 2)) (nI_add (133 + (4 * va)) 2) ?_
    refine va_iald hx hb hK hP 2 1 rfl rfl (i := (nI ((133 + (4 * va)) + 2))) (vp_in_nI (by omega) (by decide)) dX12_holds_25 ?_
    refine zz_top (v := st 2 ((133 + (4 * va)) + 2)) (by rw [nI_clamp (by omega)]) ?_
    refine lv_topi (fun z2 ez2 => ?_)
    refine lv_istore (lv' := [(5, .int z2), (4, .int z1), (3, .int (nI (133 + (4 * va)))), (0, .ref (ar 0)), (1, .int (nI va)), (2, .int (nI vb))]) hx hb dX12_holds_26 hl (by decide) rfl (fun ls hl => ?_)
    refine lv_aload_n hx hb dX12_holds_28 rfl (lv_at hl 3 rfl) ?_
    refine va_get (D := (dC, dI)) (ci := 11) (v := .ref (ar 2)) (C := RX12) (T := TX12) (N := 47) hx hb hts ii_X12_holds hown hK hP 0 rfl rfl 14 (by decide) (hts _ mm_X12_holds_1) (fun _ hh => hh) rfl dX12_holds_29 ?_
    refine lv_iload_n hx hb dX12_holds_32 rfl (lv_at hl 2 rfl) ?_
    refine va_iald hx hb hK hP 2 1 rfl rfl (i := (nI (133 + (4 * va)))) (vp_in_nI (by omega) (by decide)) dX12_holds_33 ?_
    refine zz_top (v := st 2 (133 + (4 * va))) (by rw [nI_clamp (by omega)]) ?_
    refine lv_topi (fun z3 ez3 => ?_)
    by_cases cw4 : z3 = 1
    · subst cw4
      refine lv_lookup (off := 66) (tgt := 100) hx hb dX12_holds_34 (by decide) (by decide) (by decide) ?_
      obtain ⟨nx, hnx, enx⟩ := hOK.1 ez3.symm
      exact absurd hnx (by omega)
    by_cases cw5 : z3 = 2
    · subst cw5
      refine lv_lookup (off := 82) (tgt := 116) hx hb dX12_holds_34 (by decide) (by decide) (by decide) ?_
      obtain ⟨⟨nx, hnx, enx⟩, ny, hny, eny⟩ := hOK.2.1 (Or.inl ez3.symm)
      exact absurd hnx (by omega)
    by_cases cw6 : z3 = 3
    · subst cw6
      refine lv_lookup (off := 108) (tgt := 142) hx hb dX12_holds_34 (by decide) (by decide) (by decide) ?_
      obtain ⟨⟨nx, hnx, enx⟩, ny, hny, eny⟩ := hOK.2.1 (Or.inr ez3.symm)
      exact absurd hnx (by omega)
    by_cases cw7 : z3 = 66
    · subst cw7
      refine lv_lookup (off := 134) (tgt := 168) hx hb dX12_holds_34 (by decide) (by decide) (by decide) ?_
      refine lv_aload_n hx hb dX12_holds_168 rfl (lv_at hl 3 rfl) ?_
      refine lv_iload_n hx hb dX12_holds_169 rfl (lv_at hl 5 rfl) ?_
      refine va_calli (va_runV (As := [.int (nI vb)]) (rest := []) ⟨hx, hb, hml, hown, hts⟩ (m_isAway l dC dI ar cy _ hN st sl vb (by omega) hG.1) (cwV 1 hts gX12_holds_X12_isAway rfl rfl rfl (by decide +kernel) ⟨Nat.le_of_ble_eq_true rfl, Nat.le_of_ble_eq_true rfl⟩) ⟨fun a U g mk q => ⟨q.1, mPre.blind q.2⟩, va_recv hK hP (ci := 11) (q0 := 0) rfl rfl, fun U hU hW => ⟨rfl, mPre.of hP hK hU hW⟩⟩ rfl rfl hl.1 rfl (lv_room (Nat.le_of_ble_eq_true rfl)) dX12_holds_170 ⟨Nat.le_of_ble_eq_true rfl, Nat.le_of_ble_eq_true rfl⟩) hS (fun q _ h => MA.le hS.1 q h) (MA.le hS.1) (fun r8 x t H locs ht hvm hw hB _ _ hS => ?_)
      have hP := mB.at ht hB
      clear hB ht hvm
      obtain ⟨rfl, hw⟩ := hw
      have hP : va_P (dC, dI) vwCl (mw ar cy st sl) _ := hP
      rcases hw with rfl | rfl
      · exact W.zret (v := 1) hx hb hr rfl (fun t ht hW => ⟨⟨1, (st, sl), rfl, ⟨rfl, Or.inl (rfl)⟩, mB.of ht hP⟩, hS.F ht⟩) hS.2.2 dX12_holds_173
      · exact W.zret (v := 0) hx hb hr rfl (fun t ht hW => ⟨⟨0, (st, sl), rfl, ⟨rfl, Or.inr (rfl)⟩, mB.of ht hP⟩, hS.F ht⟩) hS.2.2 dX12_holds_173
    by_cases cw9 : z3 = 67
    · subst cw9
      refine lv_lookup (off := 140) (tgt := 174) hx hb dX12_holds_34 (by decide) (by decide) (by decide) ?_
      refine lv_aload_n hx hb dX12_holds_174 rfl (lv_at hl 3 rfl) ?_
      refine lv_iload_n hx hb dX12_holds_175 rfl (lv_at hl 5 rfl) ?_
      refine va_calli (va_runV (As := [.int (nI vb)]) (rest := []) ⟨hx, hb, hml, hown, hts⟩ (m_dogsOf l dC dI ar cy _ hN st sl (nI vb)  hG.1) (cwV 1 hts gX12_holds_X12_dogsOf rfl rfl rfl (by decide +kernel) ⟨Nat.le_of_ble_eq_true rfl, Nat.le_of_ble_eq_true rfl⟩) ⟨fun a U g mk q => ⟨q.1, mPre.blind q.2⟩, va_recv hK hP (ci := 11) (q0 := 0) rfl rfl, fun U hU hW => ⟨rfl, mPre.of hP hK hU hW⟩⟩ rfl rfl hl.1 rfl (lv_room (Nat.le_of_ble_eq_true rfl)) dX12_holds_176 ⟨Nat.le_of_ble_eq_true rfl, Nat.le_of_ble_eq_true rfl⟩) hS (fun q _ h => MA.le hS.1 q h) (MA.le hS.1) (fun r10 x t H locs ht hvm hw hB _ _ hS => ?_)
      have hP := mB.at ht hB
      clear hB ht hvm
      obtain ⟨rfl, hw⟩ := hw
      have hP : va_P (dC, dI) vwCl (mw ar cy st sl) _ := hP
      clear hw
      refine lv_if_eq (tgt := 186) hx hb dX12_holds_179 (by decide) (fun c1 => ?_) (fun c1 => ?_)
      · refine lv_iconst (v := 0) hx hb dX12_holds_186 (by decide) ?_
        exact W.zret (v := 0) hx hb hr rfl (fun t ht hW => ⟨⟨0, (st, sl), rfl, ⟨rfl, Or.inr (rfl)⟩, mB.of ht hP⟩, hS.F ht⟩) hS.2.2 dX12_holds_187
      · refine lv_iconst (v := 1) hx hb dX12_holds_182 (by decide) ?_
        refine lv_goto (tgt := 187) hx hb dX12_holds_183 (by decide) ?_
        exact W.zret (v := 1) hx hb hr rfl (fun t ht hW => ⟨⟨1, (st, sl), rfl, ⟨rfl, Or.inl (rfl)⟩, mB.of ht hP⟩, hS.F ht⟩) hS.2.2 dX12_holds_187
    by_cases cw11 : z3 = 68
    · subst cw11
      refine lv_lookup (off := 154) (tgt := 188) hx hb dX12_holds_34 (by decide) (by decide) (by decide) ?_
      obtain ⟨nx, hnx, enx⟩ := hOK.2.2 ez3.symm
      obtain rfl : z1 = nI nx := ez1.trans enx
      refine lv_iload_n hx hb dX12_holds_188 rfl (lv_at hl 5 rfl) ?_
      refine lv_iload hx hb dX12_holds_189 (lv_at hl 1 rfl) ?_
      refine lv_icmp_eq (tgt := 208) hx hb dX12_holds_191 (by decide) (fun c2 => ?_) (fun c2 => ?_)
      · have c2 : vb = nx := (nI_eq (a := vb) (b := nx) (by omega) (by omega)).mp c2
        refine lv_iconst (v := 0) hx hb dX12_holds_208 (by decide) ?_
        exact W.zret (v := 0) hx hb hr rfl (fun t ht hW => ⟨⟨0, (st, sl), rfl, ⟨rfl, Or.inr (rfl)⟩, mB.of ht hP⟩, hS.F ht⟩) hS.2.2 dX12_holds_209
      · have c2 : ¬ vb = nx := fun hh => c2 ((nI_eq (a := vb) (b := nx) (by omega) (by omega)).mpr hh)
        refine lv_aload_n hx hb dX12_holds_194 rfl (lv_at hl 3 rfl) ?_
        refine lv_iload_n hx hb dX12_holds_195 rfl (lv_at hl 5 rfl) ?_
        refine lv_iload hx hb dX12_holds_196 (lv_at hl 1 rfl) ?_
        refine va_calli (va_runV (As := [.int (nI vb), .int (nI nx)]) (rest := []) ⟨hx, hb, hml, hown, hts⟩ (m_meetsIn l dC dI ar cy _ hN st sl vb nx (by omega) (by omega) hG.1) (cwV 2 hts gX12_holds_X12_meetsIn rfl rfl rfl (by decide +kernel) ⟨Nat.le_of_ble_eq_true rfl, Nat.le_of_ble_eq_true rfl⟩) ⟨fun a U g mk q => ⟨q.1, mPre.blind q.2⟩, va_recv hK hP (ci := 11) (q0 := 0) rfl rfl, fun U hU hW => ⟨rfl, mPre.of hP hK hU hW⟩⟩ rfl rfl hl.1 rfl (lv_room (Nat.le_of_ble_eq_true rfl)) dX12_holds_198 ⟨Nat.le_of_ble_eq_true rfl, Nat.le_of_ble_eq_true rfl⟩) hS (fun q _ h => MA.le hS.1 q h) (MA.le hS.1) (fun r12 x t H locs ht hvm hw hB _ _ hS => ?_)
        have hP := mB.at ht hB
        clear hB ht hvm
        obtain ⟨rfl, hw⟩ := hw
        have hP : va_P (dC, dI) vwCl (mw ar cy st sl) _ := hP
        clear hw
        refine lv_if_eq (tgt := 208) hx hb dX12_holds_201 (by decide) (fun c3 => ?_) (fun c3 => ?_)
        · refine lv_iconst (v := 0) hx hb dX12_holds_208 (by decide) ?_
          exact W.zret (v := 0) hx hb hr rfl (fun t ht hW => ⟨⟨0, (st, sl), rfl, ⟨rfl, Or.inr (rfl)⟩, mB.of ht hP⟩, hS.F ht⟩) hS.2.2 dX12_holds_209
        · refine lv_iconst (v := 1) hx hb dX12_holds_204 (by decide) ?_
          refine lv_goto (tgt := 209) hx hb dX12_holds_205 (by decide) ?_
          exact W.zret (v := 1) hx hb hr rfl (fun t ht hW => ⟨⟨1, (st, sl), rfl, ⟨rfl, Or.inl (rfl)⟩, mB.of ht hP⟩, hS.F ht⟩) hS.2.2 dX12_holds_209
    by_cases cw13 : z3 = 69
    · subst cw13
      refine lv_lookup (off := 176) (tgt := 210) hx hb dX12_holds_34 (by decide) (by decide) (by decide) ?_
      refine lv_aload_n hx hb dX12_holds_210 rfl (lv_at hl 3 rfl) ?_
      refine va_get (D := (dC, dI)) (ci := 11) (v := .ref (ar 2)) (C := RX12) (T := TX12) (N := 47) hx hb hts ii_X12_holds hown hK hP 0 rfl rfl 14 (by decide) (hts _ mm_X12_holds_1) (fun _ hh => hh) rfl dX12_holds_211 ?_
      refine lv_bipush (v := 71) hx hb dX12_holds_214 (by decide) ?_
      refine lv_iload_n hx hb dX12_holds_216 rfl (lv_at hl 5 rfl) ?_
      refine lv_iadd hx hb dX12_holds_217 ?_
      refine zz_top (v := nI (71 + vb)) (nI_add 71 vb) ?_
      refine va_iald hx hb hK hP 2 1 rfl rfl (i := (nI (71 + vb))) (vp_in_nI (by omega) (by decide)) dX12_holds_218 ?_
      obtain ⟨n14, hn14, en14⟩ := hG.1.at (r := 2) (k := (71 + vb)) (mr_2_71_79 (71 + vb) (by omega) (by omega)) (by decide)
      refine zz_top (v := nI n14) (by rw [nI_clamp (by omega)]; exact en14) ?_
      refine lv_iload hx hb dX12_holds_219 (lv_at hl 1 rfl) ?_
      refine lv_icmp_ne (tgt := 228) hx hb dX12_holds_221 (by decide) (fun c4 => ?_) (fun c4 => ?_)
      · refine lv_iconst (v := 0) hx hb dX12_holds_228 (by decide) ?_
        exact W.zret (v := 0) hx hb hr rfl (fun t ht hW => ⟨⟨0, (st, sl), rfl, ⟨rfl, Or.inr (rfl)⟩, mB.of ht hP⟩, hS.F ht⟩) hS.2.2 dX12_holds_229
      · refine lv_iconst (v := 1) hx hb dX12_holds_224 (by decide) ?_
        refine lv_goto (tgt := 229) hx hb dX12_holds_225 (by decide) ?_
        exact W.zret (v := 1) hx hb hr rfl (fun t ht hW => ⟨⟨1, (st, sl), rfl, ⟨rfl, Or.inl (rfl)⟩, mB.of ht hP⟩, hS.F ht⟩) hS.2.2 dX12_holds_229
    refine lv_lookup (off := 196) (tgt := 230) hx hb dX12_holds_34 (by decide) (by show Op.lookupswitch.offset [(1, 66), (2, 82), (3, 108), (66, 134), (67, 140), (68, 154), (69, 176)] 196 (z3).toInt = 196; rw [Op.lookupswitch.offset_cons, if_neg (fun hh => cw4 (Int32.toInt_inj.mp (by rw [← hh]; decide))), Op.lookupswitch.offset_cons, if_neg (fun hh => cw5 (Int32.toInt_inj.mp (by rw [← hh]; decide))), Op.lookupswitch.offset_cons, if_neg (fun hh => cw6 (Int32.toInt_inj.mp (by rw [← hh]; decide))), Op.lookupswitch.offset_cons, if_neg (fun hh => cw7 (Int32.toInt_inj.mp (by rw [← hh]; decide))), Op.lookupswitch.offset_cons, if_neg (fun hh => cw9 (Int32.toInt_inj.mp (by rw [← hh]; decide))), Op.lookupswitch.offset_cons, if_neg (fun hh => cw11 (Int32.toInt_inj.mp (by rw [← hh]; decide))), Op.lookupswitch.offset_cons, if_neg (fun hh => cw13 (Int32.toInt_inj.mp (by rw [← hh]; decide)))]; rfl) (by decide) ?_
    refine lv_aload_n hx hb dX12_holds_230 rfl (lv_at hl 3 rfl) ?_
    refine va_get (D := (dC, dI)) (ci := 11) (v := .ref (ar 2)) (C := RX12) (T := TX12) (N := 47) hx hb hts ii_X12_holds hown hK hP 0 rfl rfl 14 (by decide) (hts _ mm_X12_holds_1) (fun _ hh => hh) rfl dX12_holds_231 ?_
    refine lv_iload_n hx hb dX12_holds_234 rfl (lv_at hl 2 rfl) ?_
    refine va_iald hx hb hK hP 2 1 rfl rfl (i := (nI (133 + (4 * va)))) (vp_in_nI (by omega) (by decide)) dX12_holds_235 ?_
    refine zz_top (v := st 2 (133 + (4 * va))) (by rw [nI_clamp (by omega)]) ?_
    refine lv_topi (fun z15 ez15 => ?_)
    refine lv_bipush (v := 50) hx hb dX12_holds_236 (by decide) ?_
    refine lv_isub hx hb dX12_holds_238 ?_
    refine lv_topi (fun z16 ez16 => ?_)
    refine lv_istore (lv' := [(6, .int z16), (5, .int z2), (4, .int z1), (3, .int (nI (133 + (4 * va)))), (0, .ref (ar 0)), (1, .int (nI va)), (2, .int (nI vb))]) hx hb dX12_holds_239 hl (by decide) rfl (fun ls hl => ?_)
    refine lv_iload hx hb dX12_holds_241 (lv_at hl 0 rfl) ?_
    refine lv_bipush (v := 20) hx hb dX12_holds_243 (by decide) ?_
    refine lv_icmp_ne (tgt := 260) hx hb dX12_holds_245 (by decide) (fun c5 => ?_) (fun c5 => ?_)
    · refine lv_iload hx hb dX12_holds_260 (lv_at hl 0 rfl) ?_
      refine lv_bipush (v := 21) hx hb dX12_holds_262 (by decide) ?_
      refine lv_icmp_ne (tgt := 279) hx hb dX12_holds_264 (by decide) (fun c6 => ?_) (fun c6 => ?_)
      · refine lv_iload hx hb dX12_holds_279 (lv_at hl 0 rfl) ?_
        refine lv_bipush (v := 22) hx hb dX12_holds_281 (by decide) ?_
        refine lv_icmp_ne (tgt := 294) hx hb dX12_holds_283 (by decide) (fun c7 => ?_) (fun c7 => ?_)
        · refine lv_iload_n hx hb dX12_holds_294 rfl (lv_at hl 6 rfl) ?_
          refine lv_istore (lv' := [(7, .int (nI vb)), (6, .int z16), (5, .int z2), (4, .int z1), (3, .int (nI (133 + (4 * va)))), (0, .ref (ar 0)), (1, .int (nI va)), (2, .int (nI vb))]) hx hb dX12_holds_295 hl (by decide) rfl (fun ls hl => ?_)
          refine lv_aload_n hx hb dX12_holds_297 rfl (lv_at hl 5 rfl) ?_
          refine va_get (D := (dC, dI)) (ci := 11) (v := .ref (ar 2)) (C := RX12) (T := TX12) (N := 47) hx hb hts ii_X12_holds hown hK hP 0 rfl rfl 14 (by decide) (hts _ mm_X12_holds_1) (fun _ hh => hh) rfl dX12_holds_298 ?_
          refine lv_iload_n hx hb dX12_holds_301 rfl (lv_at hl 4 rfl) ?_
          refine lv_iconst (v := 3) hx hb dX12_holds_302 (by decide) ?_
          refine lv_iadd hx hb dX12_holds_303 ?_
          refine zz_top (v := nI ((133 + (4 * va)) + 3)) (nI_add (133 + (4 * va)) 3) ?_
          refine va_iald hx hb hK hP 2 1 rfl rfl (i := (nI ((133 + (4 * va)) + 3))) (vp_in_nI (by omega) (by decide)) dX12_holds_304 ?_
          refine zz_top (v := st 2 ((133 + (4 * va)) + 3)) (by rw [nI_clamp (by omega)]) ?_
          refine lv_topi (fun z17 ez17 => ?_)
          refine lv_bipush (v := 60) hx hb dX12_holds_305 (by decide) ?_
          refine lv_icmp_ne (tgt := 325) hx hb dX12_holds_307 (by decide) (fun c8 => ?_) (fun c8 => ?_)
          · refine lv_aload_n hx hb dX12_holds_325 rfl (lv_at hl 5 rfl) ?_
            refine va_get (D := (dC, dI)) (ci := 11) (v := .ref (ar 2)) (C := RX12) (T := TX12) (N := 47) hx hb hts ii_X12_holds hown hK hP 0 rfl rfl 14 (by decide) (hts _ mm_X12_holds_1) (fun _ hh => hh) rfl dX12_holds_326 ?_
            refine lv_iload_n hx hb dX12_holds_329 rfl (lv_at hl 4 rfl) ?_
            refine lv_iconst (v := 3) hx hb dX12_holds_330 (by decide) ?_
            refine lv_iadd hx hb dX12_holds_331 ?_
            refine zz_top (v := nI ((133 + (4 * va)) + 3)) (nI_add (133 + (4 * va)) 3) ?_
            refine va_iald hx hb hK hP 2 1 rfl rfl (i := (nI ((133 + (4 * va)) + 3))) (vp_in_nI (by omega) (by decide)) dX12_holds_332 ?_
            refine zz_top (v := st 2 ((133 + (4 * va)) + 3)) (by rw [nI_clamp (by omega)]) ?_
            refine lv_topi (fun z18 ez18 => ?_)
            refine lv_bipush (v := 61) hx hb dX12_holds_333 (by decide) ?_
            refine lv_icmp_ne (tgt := 353) hx hb dX12_holds_335 (by decide) (fun c9 => ?_) (fun c9 => ?_)
            · refine lv_iload hx hb dX12_holds_353 (lv_at hl 0 rfl) ?_
              refine lv_iload hx hb dX12_holds_355 (lv_at hl 2 rfl) ?_
              refine lv_icmp_le (tgt := 364) hx hb dX12_holds_357 (by decide) (fun c10 => ?_) (fun c10 => ?_)
              · refine lv_iconst (v := 0) hx hb dX12_holds_364 (by decide) ?_
                exact W.zret (v := 0) hx hb hr rfl (fun t ht hW => ⟨⟨0, (st, sl), rfl, ⟨rfl, Or.inr (rfl)⟩, mB.of ht hP⟩, hS.F ht⟩) hS.2.2 dX12_holds_365
              · refine lv_iconst (v := 1) hx hb dX12_holds_360 (by decide) ?_
                refine lv_goto (tgt := 365) hx hb dX12_holds_361 (by decide) ?_
                exact W.zret (v := 1) hx hb hr rfl (fun t ht hW => ⟨⟨1, (st, sl), rfl, ⟨rfl, Or.inl (rfl)⟩, mB.of ht hP⟩, hS.F ht⟩) hS.2.2 dX12_holds_365
            · refine lv_iload hx hb dX12_holds_338 (lv_at hl 0 rfl) ?_
              refine lv_iload hx hb dX12_holds_340 (lv_at hl 2 rfl) ?_
              refine lv_icmp_ne (tgt := 349) hx hb dX12_holds_342 (by decide) (fun c11 => ?_) (fun c11 => ?_)
              · refine lv_iconst (v := 0) hx hb dX12_holds_349 (by decide) ?_
                refine lv_goto (tgt := 365) hx hb dX12_holds_350 (by decide) ?_
                exact W.zret (v := 0) hx hb hr rfl (fun t ht hW => ⟨⟨0, (st, sl), rfl, ⟨rfl, Or.inr (rfl)⟩, mB.of ht hP⟩, hS.F ht⟩) hS.2.2 dX12_holds_365
              · refine lv_iconst (v := 1) hx hb dX12_holds_345 (by decide) ?_
                refine lv_goto (tgt := 365) hx hb dX12_holds_346 (by decide) ?_
                exact W.zret (v := 1) hx hb hr rfl (fun t ht hW => ⟨⟨1, (st, sl), rfl, ⟨rfl, Or.inl (rfl)⟩, mB.of ht hP⟩, hS.F ht⟩) hS.2.2 dX12_holds_365
          · refine lv_iload hx hb dX12_holds_310 (lv_at hl 0 rfl) ?_
            refine lv_iload hx hb dX12_holds_312 (lv_at hl 2 rfl) ?_
            refine lv_icmp_ge (tgt := 321) hx hb dX12_holds_314 (by decide) (fun c12 => ?_) (fun c12 => ?_)
            · refine lv_iconst (v := 0) hx hb dX12_holds_321 (by decide) ?_
              refine lv_goto (tgt := 365) hx hb dX12_holds_322 (by decide) ?_
              exact W.zret (v := 0) hx hb hr rfl (fun t ht hW => ⟨⟨0, (st, sl), rfl, ⟨rfl, Or.inr (rfl)⟩, mB.of ht hP⟩, hS.F ht⟩) hS.2.2 dX12_holds_365
            · refine lv_iconst (v := 1) hx hb dX12_holds_317 (by decide) ?_
              refine lv_goto (tgt := 365) hx hb dX12_holds_318 (by decide) ?_
              exact W.zret (v := 1) hx hb hr rfl (fun t ht hW => ⟨⟨1, (st, sl), rfl, ⟨rfl, Or.inl (rfl)⟩, mB.of ht hP⟩, hS.F ht⟩) hS.2.2 dX12_holds_365
        · refine lv_aload_n hx hb dX12_holds_286 rfl (lv_at hl 4 rfl) ?_
          refine lv_iload_n hx hb dX12_holds_287 rfl (lv_at hl 6 rfl) ?_
          refine va_calli (va_runV (As := [.int (nI vb)]) (rest := []) ⟨hx, hb, hml, hown, hts⟩ (m_goodOf l dC dI ar cy _ hN st sl vb (by omega) hG.1) (cwV 1 hts gX12_holds_X12_goodOf rfl rfl rfl (by decide +kernel) ⟨Nat.le_of_ble_eq_true rfl, Nat.le_of_ble_eq_true rfl⟩) ⟨fun a U g mk q => ⟨q.1, mPre.blind q.2⟩, va_recv hK hP (ci := 11) (q0 := 0) rfl rfl, fun U hU hW => ⟨rfl, mPre.of hP hK hU hW⟩⟩ rfl rfl hl.1 rfl (lv_room (Nat.le_of_ble_eq_true rfl)) dX12_holds_288 ⟨Nat.le_of_ble_eq_true rfl, Nat.le_of_ble_eq_true rfl⟩) hS (fun q _ h => MA.le hS.1 q h) (MA.le hS.1) (fun r19 x t H locs ht hvm hw hB _ _ hS => ?_)
          have hP := mB.at ht hB
          clear hB ht hvm
          obtain ⟨rfl, hw⟩ := hw
          have hP : va_P (dC, dI) vwCl (mw ar cy st sl) _ := hP
          clear hw
          refine lv_goto (tgt := 295) hx hb dX12_holds_291 (by decide) ?_
          refine lv_istore (lv' := [(7, .int r19), (6, .int z16), (5, .int z2), (4, .int z1), (3, .int (nI (133 + (4 * va)))), (0, .ref (ar 0)), (1, .int (nI va)), (2, .int (nI vb))]) hx hb dX12_holds_295 hl (by decide) rfl (fun ls hl => ?_)
          refine lv_aload_n hx hb dX12_holds_297 rfl (lv_at hl 5 rfl) ?_
          refine va_get (D := (dC, dI)) (ci := 11) (v := .ref (ar 2)) (C := RX12) (T := TX12) (N := 47) hx hb hts ii_X12_holds hown hK hP 0 rfl rfl 14 (by decide) (hts _ mm_X12_holds_1) (fun _ hh => hh) rfl dX12_holds_298 ?_
          refine lv_iload_n hx hb dX12_holds_301 rfl (lv_at hl 4 rfl) ?_
          refine lv_iconst (v := 3) hx hb dX12_holds_302 (by decide) ?_
          refine lv_iadd hx hb dX12_holds_303 ?_
          refine zz_top (v := nI ((133 + (4 * va)) + 3)) (nI_add (133 + (4 * va)) 3) ?_
          refine va_iald hx hb hK hP 2 1 rfl rfl (i := (nI ((133 + (4 * va)) + 3))) (vp_in_nI (by omega) (by decide)) dX12_holds_304 ?_
          refine zz_top (v := st 2 ((133 + (4 * va)) + 3)) (by rw [nI_clamp (by omega)]) ?_
          refine lv_topi (fun z20 ez20 => ?_)
          refine lv_bipush (v := 60) hx hb dX12_holds_305 (by decide) ?_
          refine lv_icmp_ne (tgt := 325) hx hb dX12_holds_307 (by decide) (fun c13 => ?_) (fun c13 => ?_)
          · refine lv_aload_n hx hb dX12_holds_325 rfl (lv_at hl 5 rfl) ?_
            refine va_get (D := (dC, dI)) (ci := 11) (v := .ref (ar 2)) (C := RX12) (T := TX12) (N := 47) hx hb hts ii_X12_holds hown hK hP 0 rfl rfl 14 (by decide) (hts _ mm_X12_holds_1) (fun _ hh => hh) rfl dX12_holds_326 ?_
            refine lv_iload_n hx hb dX12_holds_329 rfl (lv_at hl 4 rfl) ?_
            refine lv_iconst (v := 3) hx hb dX12_holds_330 (by decide) ?_
            refine lv_iadd hx hb dX12_holds_331 ?_
            refine zz_top (v := nI ((133 + (4 * va)) + 3)) (nI_add (133 + (4 * va)) 3) ?_
            refine va_iald hx hb hK hP 2 1 rfl rfl (i := (nI ((133 + (4 * va)) + 3))) (vp_in_nI (by omega) (by decide)) dX12_holds_332 ?_
            refine zz_top (v := st 2 ((133 + (4 * va)) + 3)) (by rw [nI_clamp (by omega)]) ?_
            refine lv_topi (fun z21 ez21 => ?_)
            refine lv_bipush (v := 61) hx hb dX12_holds_333 (by decide) ?_
            refine lv_icmp_ne (tgt := 353) hx hb dX12_holds_335 (by decide) (fun c14 => ?_) (fun c14 => ?_)
            · refine lv_iload hx hb dX12_holds_353 (lv_at hl 0 rfl) ?_
              refine lv_iload hx hb dX12_holds_355 (lv_at hl 2 rfl) ?_
              refine lv_icmp_le (tgt := 364) hx hb dX12_holds_357 (by decide) (fun c15 => ?_) (fun c15 => ?_)
              · refine lv_iconst (v := 0) hx hb dX12_holds_364 (by decide) ?_
                exact W.zret (v := 0) hx hb hr rfl (fun t ht hW => ⟨⟨0, (st, sl), rfl, ⟨rfl, Or.inr (rfl)⟩, mB.of ht hP⟩, hS.F ht⟩) hS.2.2 dX12_holds_365
              · refine lv_iconst (v := 1) hx hb dX12_holds_360 (by decide) ?_
                refine lv_goto (tgt := 365) hx hb dX12_holds_361 (by decide) ?_
                exact W.zret (v := 1) hx hb hr rfl (fun t ht hW => ⟨⟨1, (st, sl), rfl, ⟨rfl, Or.inl (rfl)⟩, mB.of ht hP⟩, hS.F ht⟩) hS.2.2 dX12_holds_365
            · refine lv_iload hx hb dX12_holds_338 (lv_at hl 0 rfl) ?_
              refine lv_iload hx hb dX12_holds_340 (lv_at hl 2 rfl) ?_
              refine lv_icmp_ne (tgt := 349) hx hb dX12_holds_342 (by decide) (fun c16 => ?_) (fun c16 => ?_)
              · refine lv_iconst (v := 0) hx hb dX12_holds_349 (by decide) ?_
                refine lv_goto (tgt := 365) hx hb dX12_holds_350 (by decide) ?_
                exact W.zret (v := 0) hx hb hr rfl (fun t ht hW => ⟨⟨0, (st, sl), rfl, ⟨rfl, Or.inr (rfl)⟩, mB.of ht hP⟩, hS.F ht⟩) hS.2.2 dX12_holds_365
              · refine lv_iconst (v := 1) hx hb dX12_holds_345 (by decide) ?_
                refine lv_goto (tgt := 365) hx hb dX12_holds_346 (by decide) ?_
                exact W.zret (v := 1) hx hb hr rfl (fun t ht hW => ⟨⟨1, (st, sl), rfl, ⟨rfl, Or.inl (rfl)⟩, mB.of ht hP⟩, hS.F ht⟩) hS.2.2 dX12_holds_365
          · refine lv_iload hx hb dX12_holds_310 (lv_at hl 0 rfl) ?_
            refine lv_iload hx hb dX12_holds_312 (lv_at hl 2 rfl) ?_
            refine lv_icmp_ge (tgt := 321) hx hb dX12_holds_314 (by decide) (fun c17 => ?_) (fun c17 => ?_)
            · refine lv_iconst (v := 0) hx hb dX12_holds_321 (by decide) ?_
              refine lv_goto (tgt := 365) hx hb dX12_holds_322 (by decide) ?_
              exact W.zret (v := 0) hx hb hr rfl (fun t ht hW => ⟨⟨0, (st, sl), rfl, ⟨rfl, Or.inr (rfl)⟩, mB.of ht hP⟩, hS.F ht⟩) hS.2.2 dX12_holds_365
            · refine lv_iconst (v := 1) hx hb dX12_holds_317 (by decide) ?_
              refine lv_goto (tgt := 365) hx hb dX12_holds_318 (by decide) ?_
              exact W.zret (v := 1) hx hb hr rfl (fun t ht hW => ⟨⟨1, (st, sl), rfl, ⟨rfl, Or.inl (rfl)⟩, mB.of ht hP⟩, hS.F ht⟩) hS.2.2 dX12_holds_365
      · refine lv_aload_n hx hb dX12_holds_267 rfl (lv_at hl 4 rfl) ?_
        refine va_get (D := (dC, dI)) (ci := 11) (v := .ref (ar 2)) (C := RX12) (T := TX12) (N := 47) hx hb hts ii_X12_holds hown hK hP 0 rfl rfl 14 (by decide) (hts _ mm_X12_holds_1) (fun _ hh => hh) rfl dX12_holds_268 ?_
        refine lv_bipush (v := 111) hx hb dX12_holds_271 (by decide) ?_
        refine lv_iload_n hx hb dX12_holds_273 rfl (lv_at hl 6 rfl) ?_
        refine lv_iadd hx hb dX12_holds_274 ?_
        refine zz_top (v := nI (111 + vb)) (nI_add 111 vb) ?_
        refine va_iald hx hb hK hP 2 1 rfl rfl (i := (nI (111 + vb))) (vp_in_nI (by omega) (by decide)) dX12_holds_275 ?_
        refine zz_top (v := st 2 (111 + vb)) (by rw [nI_clamp (by omega)]) ?_
        refine lv_topi (fun z22 ez22 => ?_)
        refine lv_goto (tgt := 295) hx hb dX12_holds_276 (by decide) ?_
        refine lv_istore (lv' := [(7, .int z22), (6, .int z16), (5, .int z2), (4, .int z1), (3, .int (nI (133 + (4 * va)))), (0, .ref (ar 0)), (1, .int (nI va)), (2, .int (nI vb))]) hx hb dX12_holds_295 hl (by decide) rfl (fun ls hl => ?_)
        refine lv_aload_n hx hb dX12_holds_297 rfl (lv_at hl 5 rfl) ?_
        refine va_get (D := (dC, dI)) (ci := 11) (v := .ref (ar 2)) (C := RX12) (T := TX12) (N := 47) hx hb hts ii_X12_holds hown hK hP 0 rfl rfl 14 (by decide) (hts _ mm_X12_holds_1) (fun _ hh => hh) rfl dX12_holds_298 ?_
        refine lv_iload_n hx hb dX12_holds_301 rfl (lv_at hl 4 rfl) ?_
        refine lv_iconst (v := 3) hx hb dX12_holds_302 (by decide) ?_
        refine lv_iadd hx hb dX12_holds_303 ?_
        refine zz_top (v := nI ((133 + (4 * va)) + 3)) (nI_add (133 + (4 * va)) 3) ?_
        refine va_iald hx hb hK hP 2 1 rfl rfl (i := (nI ((133 + (4 * va)) + 3))) (vp_in_nI (by omega) (by decide)) dX12_holds_304 ?_
        refine zz_top (v := st 2 ((133 + (4 * va)) + 3)) (by rw [nI_clamp (by omega)]) ?_
        refine lv_topi (fun z23 ez23 => ?_)
        refine lv_bipush (v := 60) hx hb dX12_holds_305 (by decide) ?_
        refine lv_icmp_ne (tgt := 325) hx hb dX12_holds_307 (by decide) (fun c18 => ?_) (fun c18 => ?_)
        · refine lv_aload_n hx hb dX12_holds_325 rfl (lv_at hl 5 rfl) ?_
          refine va_get (D := (dC, dI)) (ci := 11) (v := .ref (ar 2)) (C := RX12) (T := TX12) (N := 47) hx hb hts ii_X12_holds hown hK hP 0 rfl rfl 14 (by decide) (hts _ mm_X12_holds_1) (fun _ hh => hh) rfl dX12_holds_326 ?_
          refine lv_iload_n hx hb dX12_holds_329 rfl (lv_at hl 4 rfl) ?_
          refine lv_iconst (v := 3) hx hb dX12_holds_330 (by decide) ?_
          refine lv_iadd hx hb dX12_holds_331 ?_
          refine zz_top (v := nI ((133 + (4 * va)) + 3)) (nI_add (133 + (4 * va)) 3) ?_
          refine va_iald hx hb hK hP 2 1 rfl rfl (i := (nI ((133 + (4 * va)) + 3))) (vp_in_nI (by omega) (by decide)) dX12_holds_332 ?_
          refine zz_top (v := st 2 ((133 + (4 * va)) + 3)) (by rw [nI_clamp (by omega)]) ?_
          refine lv_topi (fun z24 ez24 => ?_)
          refine lv_bipush (v := 61) hx hb dX12_holds_333 (by decide) ?_
          refine lv_icmp_ne (tgt := 353) hx hb dX12_holds_335 (by decide) (fun c19 => ?_) (fun c19 => ?_)
          · refine lv_iload hx hb dX12_holds_353 (lv_at hl 0 rfl) ?_
            refine lv_iload hx hb dX12_holds_355 (lv_at hl 2 rfl) ?_
            refine lv_icmp_le (tgt := 364) hx hb dX12_holds_357 (by decide) (fun c20 => ?_) (fun c20 => ?_)
            · refine lv_iconst (v := 0) hx hb dX12_holds_364 (by decide) ?_
              exact W.zret (v := 0) hx hb hr rfl (fun t ht hW => ⟨⟨0, (st, sl), rfl, ⟨rfl, Or.inr (rfl)⟩, mB.of ht hP⟩, hS.F ht⟩) hS.2.2 dX12_holds_365
            · refine lv_iconst (v := 1) hx hb dX12_holds_360 (by decide) ?_
              refine lv_goto (tgt := 365) hx hb dX12_holds_361 (by decide) ?_
              exact W.zret (v := 1) hx hb hr rfl (fun t ht hW => ⟨⟨1, (st, sl), rfl, ⟨rfl, Or.inl (rfl)⟩, mB.of ht hP⟩, hS.F ht⟩) hS.2.2 dX12_holds_365
          · refine lv_iload hx hb dX12_holds_338 (lv_at hl 0 rfl) ?_
            refine lv_iload hx hb dX12_holds_340 (lv_at hl 2 rfl) ?_
            refine lv_icmp_ne (tgt := 349) hx hb dX12_holds_342 (by decide) (fun c21 => ?_) (fun c21 => ?_)
            · refine lv_iconst (v := 0) hx hb dX12_holds_349 (by decide) ?_
              refine lv_goto (tgt := 365) hx hb dX12_holds_350 (by decide) ?_
              exact W.zret (v := 0) hx hb hr rfl (fun t ht hW => ⟨⟨0, (st, sl), rfl, ⟨rfl, Or.inr (rfl)⟩, mB.of ht hP⟩, hS.F ht⟩) hS.2.2 dX12_holds_365
            · refine lv_iconst (v := 1) hx hb dX12_holds_345 (by decide) ?_
              refine lv_goto (tgt := 365) hx hb dX12_holds_346 (by decide) ?_
              exact W.zret (v := 1) hx hb hr rfl (fun t ht hW => ⟨⟨1, (st, sl), rfl, ⟨rfl, Or.inl (rfl)⟩, mB.of ht hP⟩, hS.F ht⟩) hS.2.2 dX12_holds_365
        · refine lv_iload hx hb dX12_holds_310 (lv_at hl 0 rfl) ?_
          refine lv_iload hx hb dX12_holds_312 (lv_at hl 2 rfl) ?_
          refine lv_icmp_ge (tgt := 321) hx hb dX12_holds_314 (by decide) (fun c22 => ?_) (fun c22 => ?_)
          · refine lv_iconst (v := 0) hx hb dX12_holds_321 (by decide) ?_
            refine lv_goto (tgt := 365) hx hb dX12_holds_322 (by decide) ?_
            exact W.zret (v := 0) hx hb hr rfl (fun t ht hW => ⟨⟨0, (st, sl), rfl, ⟨rfl, Or.inr (rfl)⟩, mB.of ht hP⟩, hS.F ht⟩) hS.2.2 dX12_holds_365
          · refine lv_iconst (v := 1) hx hb dX12_holds_317 (by decide) ?_
            refine lv_goto (tgt := 365) hx hb dX12_holds_318 (by decide) ?_
            exact W.zret (v := 1) hx hb hr rfl (fun t ht hW => ⟨⟨1, (st, sl), rfl, ⟨rfl, Or.inl (rfl)⟩, mB.of ht hP⟩, hS.F ht⟩) hS.2.2 dX12_holds_365
    · refine lv_aload_n hx hb dX12_holds_248 rfl (lv_at hl 4 rfl) ?_
      refine va_get (D := (dC, dI)) (ci := 11) (v := .ref (ar 2)) (C := RX12) (T := TX12) (N := 47) hx hb hts ii_X12_holds hown hK hP 0 rfl rfl 14 (by decide) (hts _ mm_X12_holds_1) (fun _ hh => hh) rfl dX12_holds_249 ?_
      refine lv_bipush (v := 103) hx hb dX12_holds_252 (by decide) ?_
      refine lv_iload_n hx hb dX12_holds_254 rfl (lv_at hl 6 rfl) ?_
      refine lv_iadd hx hb dX12_holds_255 ?_
      refine zz_top (v := nI (103 + vb)) (nI_add 103 vb) ?_
      refine va_iald hx hb hK hP 2 1 rfl rfl (i := (nI (103 + vb))) (vp_in_nI (by omega) (by decide)) dX12_holds_256 ?_
      refine zz_top (v := st 2 (103 + vb)) (by rw [nI_clamp (by omega)]) ?_
      refine lv_topi (fun z25 ez25 => ?_)
      refine lv_goto (tgt := 295) hx hb dX12_holds_257 (by decide) ?_
      refine lv_istore (lv' := [(7, .int z25), (6, .int z16), (5, .int z2), (4, .int z1), (3, .int (nI (133 + (4 * va)))), (0, .ref (ar 0)), (1, .int (nI va)), (2, .int (nI vb))]) hx hb dX12_holds_295 hl (by decide) rfl (fun ls hl => ?_)
      refine lv_aload_n hx hb dX12_holds_297 rfl (lv_at hl 5 rfl) ?_
      refine va_get (D := (dC, dI)) (ci := 11) (v := .ref (ar 2)) (C := RX12) (T := TX12) (N := 47) hx hb hts ii_X12_holds hown hK hP 0 rfl rfl 14 (by decide) (hts _ mm_X12_holds_1) (fun _ hh => hh) rfl dX12_holds_298 ?_
      refine lv_iload_n hx hb dX12_holds_301 rfl (lv_at hl 4 rfl) ?_
      refine lv_iconst (v := 3) hx hb dX12_holds_302 (by decide) ?_
      refine lv_iadd hx hb dX12_holds_303 ?_
      refine zz_top (v := nI ((133 + (4 * va)) + 3)) (nI_add (133 + (4 * va)) 3) ?_
      refine va_iald hx hb hK hP 2 1 rfl rfl (i := (nI ((133 + (4 * va)) + 3))) (vp_in_nI (by omega) (by decide)) dX12_holds_304 ?_
      refine zz_top (v := st 2 ((133 + (4 * va)) + 3)) (by rw [nI_clamp (by omega)]) ?_
      refine lv_topi (fun z26 ez26 => ?_)
      refine lv_bipush (v := 60) hx hb dX12_holds_305 (by decide) ?_
      refine lv_icmp_ne (tgt := 325) hx hb dX12_holds_307 (by decide) (fun c23 => ?_) (fun c23 => ?_)
      · refine lv_aload_n hx hb dX12_holds_325 rfl (lv_at hl 5 rfl) ?_
        refine va_get (D := (dC, dI)) (ci := 11) (v := .ref (ar 2)) (C := RX12) (T := TX12) (N := 47) hx hb hts ii_X12_holds hown hK hP 0 rfl rfl 14 (by decide) (hts _ mm_X12_holds_1) (fun _ hh => hh) rfl dX12_holds_326 ?_
        refine lv_iload_n hx hb dX12_holds_329 rfl (lv_at hl 4 rfl) ?_
        refine lv_iconst (v := 3) hx hb dX12_holds_330 (by decide) ?_
        refine lv_iadd hx hb dX12_holds_331 ?_
        refine zz_top (v := nI ((133 + (4 * va)) + 3)) (nI_add (133 + (4 * va)) 3) ?_
        refine va_iald hx hb hK hP 2 1 rfl rfl (i := (nI ((133 + (4 * va)) + 3))) (vp_in_nI (by omega) (by decide)) dX12_holds_332 ?_
        refine zz_top (v := st 2 ((133 + (4 * va)) + 3)) (by rw [nI_clamp (by omega)]) ?_
        refine lv_topi (fun z27 ez27 => ?_)
        refine lv_bipush (v := 61) hx hb dX12_holds_333 (by decide) ?_
        refine lv_icmp_ne (tgt := 353) hx hb dX12_holds_335 (by decide) (fun c24 => ?_) (fun c24 => ?_)
        · refine lv_iload hx hb dX12_holds_353 (lv_at hl 0 rfl) ?_
          refine lv_iload hx hb dX12_holds_355 (lv_at hl 2 rfl) ?_
          refine lv_icmp_le (tgt := 364) hx hb dX12_holds_357 (by decide) (fun c25 => ?_) (fun c25 => ?_)
          · refine lv_iconst (v := 0) hx hb dX12_holds_364 (by decide) ?_
            exact W.zret (v := 0) hx hb hr rfl (fun t ht hW => ⟨⟨0, (st, sl), rfl, ⟨rfl, Or.inr (rfl)⟩, mB.of ht hP⟩, hS.F ht⟩) hS.2.2 dX12_holds_365
          · refine lv_iconst (v := 1) hx hb dX12_holds_360 (by decide) ?_
            refine lv_goto (tgt := 365) hx hb dX12_holds_361 (by decide) ?_
            exact W.zret (v := 1) hx hb hr rfl (fun t ht hW => ⟨⟨1, (st, sl), rfl, ⟨rfl, Or.inl (rfl)⟩, mB.of ht hP⟩, hS.F ht⟩) hS.2.2 dX12_holds_365
        · refine lv_iload hx hb dX12_holds_338 (lv_at hl 0 rfl) ?_
          refine lv_iload hx hb dX12_holds_340 (lv_at hl 2 rfl) ?_
          refine lv_icmp_ne (tgt := 349) hx hb dX12_holds_342 (by decide) (fun c26 => ?_) (fun c26 => ?_)
          · refine lv_iconst (v := 0) hx hb dX12_holds_349 (by decide) ?_
            refine lv_goto (tgt := 365) hx hb dX12_holds_350 (by decide) ?_
            exact W.zret (v := 0) hx hb hr rfl (fun t ht hW => ⟨⟨0, (st, sl), rfl, ⟨rfl, Or.inr (rfl)⟩, mB.of ht hP⟩, hS.F ht⟩) hS.2.2 dX12_holds_365
          · refine lv_iconst (v := 1) hx hb dX12_holds_345 (by decide) ?_
            refine lv_goto (tgt := 365) hx hb dX12_holds_346 (by decide) ?_
            exact W.zret (v := 1) hx hb hr rfl (fun t ht hW => ⟨⟨1, (st, sl), rfl, ⟨rfl, Or.inl (rfl)⟩, mB.of ht hP⟩, hS.F ht⟩) hS.2.2 dX12_holds_365
      · refine lv_iload hx hb dX12_holds_310 (lv_at hl 0 rfl) ?_
        refine lv_iload hx hb dX12_holds_312 (lv_at hl 2 rfl) ?_
        refine lv_icmp_ge (tgt := 321) hx hb dX12_holds_314 (by decide) (fun c27 => ?_) (fun c27 => ?_)
        · refine lv_iconst (v := 0) hx hb dX12_holds_321 (by decide) ?_
          refine lv_goto (tgt := 365) hx hb dX12_holds_322 (by decide) ?_
          exact W.zret (v := 0) hx hb hr rfl (fun t ht hW => ⟨⟨0, (st, sl), rfl, ⟨rfl, Or.inr (rfl)⟩, mB.of ht hP⟩, hS.F ht⟩) hS.2.2 dX12_holds_365
        · refine lv_iconst (v := 1) hx hb dX12_holds_317 (by decide) ?_
          refine lv_goto (tgt := 365) hx hb dX12_holds_318 (by decide) ?_
          exact W.zret (v := 1) hx hb hr rfl (fun t ht hW => ⟨⟨1, (st, sl), rfl, ⟨rfl, Or.inl (rfl)⟩, mB.of ht hP⟩, hS.F ht⟩) hS.2.2 dX12_holds_365
  | succ dp ih =>
    intro l dC dI ar cy sz hN st sl va vb hva hvb hI h60 hNK
    refine Met.ofW (cc := cX12_holds) (maxL := 8) (ret := (some .boolean)) (by decide) rfl ?_
    intro p e s m args below meth c s₁ B hml hv
    obtain ⟨rfl, hsz, hP, hK⟩ := hv
    have hx := B.exec
    have hb := B.bytes
    have hr := B.returns
    have hts := atoms_spec (ws := wsX12_holds) B.pre
    have hown : s.vm.findClass RX12 = some m.cls := findClass_of_methodNamed B.named
    subst hsz
    have hS : va_S (MA ar s.heap.size) s.heap s.heap [] := va_S.rf
    have hG : MG [1, 2, 3, 4, 5, 6, 7, 8, 9, 10, 11, 12, 13, 14, 15, 16, 17, 19, 20, 21, 22, 23] st st := MG.rf hI
    have hl := lv_entry ([.ref (ar 0), .int (nI va), .int (nI vb)]) (n := 8) (Nat.le_of_ble_eq_true rfl)
    rw [lg_entry_eq]
    generalize (lg_sl ([.ref (ar 0), .int (nI va), .int (nI vb)]) ++ List.replicate (8 - (lg_sl ([.ref (ar 0), .int (nI va), .int (nI vb)])).length) Slot.unset).toArray = ls at hl ⊢
    have hl : lv_has ls 8 [(0, .ref (ar 0)), (1, .int (nI va)), (2, .int (nI vb))] := hl
    clear hI
    have hOK := hNK va (by omega)
    unfold nodeOK at hOK
    refine lv_sipush (v := 133) hx hb dX12_holds_0 (by decide) ?_
    refine lv_iconst (v := 4) hx hb dX12_holds_3 (by decide) ?_
    refine lv_iload_n hx hb dX12_holds_4 rfl (lv_at hl 1 rfl) ?_
    refine lv_imul hx hb dX12_holds_5 ?_
    refine zz_top (v := nI (4 * va)) (nI_mul 4 va) ?_
    refine lv_iadd hx hb dX12_holds_6 ?_
    refine zz_top (v := nI (133 + (4 * va))) (nI_add 133 (4 * va)) ?_
    refine lv_istore_n (lv' := [(3, .int (nI (133 + (4 * va)))), (0, .ref (ar 0)), (1, .int (nI va)), (2, .int (nI vb))]) hx hb dX12_holds_7 rfl hl (by decide) rfl (fun ls hl => ?_)
    refine lv_aload_n hx hb dX12_holds_8 rfl (lv_at hl 1 rfl) ?_
    refine va_get (D := (dC, dI)) (ci := 11) (v := .ref (ar 2)) (C := RX12) (T := TX12) (N := 47) hx hb hts ii_X12_holds hown hK hP 0 rfl rfl 14 (by decide) (hts _ mm_X12_holds_1) (fun _ hh => hh) rfl dX12_holds_9 ?_
    refine lv_iload_n hx hb dX12_holds_12 rfl (lv_at hl 0 rfl) ?_
    refine lv_iconst (v := 1) hx hb dX12_holds_13 (by decide) ?_
    refine lv_iadd hx hb dX12_holds_14 ?_
    refine zz_top (v := nI ((133 + (4 * va)) + 1)) (nI_add (133 + (4 * va)) 1) ?_
    refine va_iald hx hb hK hP 2 1 rfl rfl (i := (nI ((133 + (4 * va)) + 1))) (vp_in_nI (by omega) (by decide)) dX12_holds_15 ?_
    refine zz_top (v := st 2 ((133 + (4 * va)) + 1)) (by rw [nI_clamp (by omega)]) ?_
    refine lv_topi (fun z1 ez1 => ?_)
    refine lv_istore (lv' := [(4, .int z1), (3, .int (nI (133 + (4 * va)))), (0, .ref (ar 0)), (1, .int (nI va)), (2, .int (nI vb))]) hx hb dX12_holds_16 hl (by decide) rfl (fun ls hl => ?_)
    refine lv_aload_n hx hb dX12_holds_18 rfl (lv_at hl 2 rfl) ?_
    refine va_get (D := (dC, dI)) (ci := 11) (v := .ref (ar 2)) (C := RX12) (T := TX12) (N := 47) hx hb hts ii_X12_holds hown hK hP 0 rfl rfl 14 (by decide) (hts _ mm_X12_holds_1) (fun _ hh => hh) rfl dX12_holds_19 ?_
    refine lv_iload_n hx hb dX12_holds_22 rfl (lv_at hl 1 rfl) ?_
    refine lv_iconst (v := 2) hx hb dX12_holds_23 (by decide) ?_
    refine lv_iadd hx hb dX12_holds_24 ?_
    refine zz_top (v := nI ((133 + (4 * va)) + 2)) (nI_add (133 + (4 * va)) 2) ?_
    refine va_iald hx hb hK hP 2 1 rfl rfl (i := (nI ((133 + (4 * va)) + 2))) (vp_in_nI (by omega) (by decide)) dX12_holds_25 ?_
    refine zz_top (v := st 2 ((133 + (4 * va)) + 2)) (by rw [nI_clamp (by omega)]) ?_
    refine lv_topi (fun z2 ez2 => ?_)
    refine lv_istore (lv' := [(5, .int z2), (4, .int z1), (3, .int (nI (133 + (4 * va)))), (0, .ref (ar 0)), (1, .int (nI va)), (2, .int (nI vb))]) hx hb dX12_holds_26 hl (by decide) rfl (fun ls hl => ?_)
    refine lv_aload_n hx hb dX12_holds_28 rfl (lv_at hl 3 rfl) ?_
    refine va_get (D := (dC, dI)) (ci := 11) (v := .ref (ar 2)) (C := RX12) (T := TX12) (N := 47) hx hb hts ii_X12_holds hown hK hP 0 rfl rfl 14 (by decide) (hts _ mm_X12_holds_1) (fun _ hh => hh) rfl dX12_holds_29 ?_
    refine lv_iload_n hx hb dX12_holds_32 rfl (lv_at hl 2 rfl) ?_
    refine va_iald hx hb hK hP 2 1 rfl rfl (i := (nI (133 + (4 * va)))) (vp_in_nI (by omega) (by decide)) dX12_holds_33 ?_
    refine zz_top (v := st 2 (133 + (4 * va))) (by rw [nI_clamp (by omega)]) ?_
    refine lv_topi (fun z3 ez3 => ?_)
    by_cases cw4 : z3 = 1
    · subst cw4
      refine lv_lookup (off := 66) (tgt := 100) hx hb dX12_holds_34 (by decide) (by decide) (by decide) ?_
      obtain ⟨nx, hnx, enx⟩ := hOK.1 ez3.symm
      obtain rfl : z1 = nI nx := ez1.trans enx
      refine lv_aload_n hx hb dX12_holds_100 rfl (lv_at hl 3 rfl) ?_
      refine lv_iload hx hb dX12_holds_101 (lv_at hl 1 rfl) ?_
      refine lv_iload_n hx hb dX12_holds_103 rfl (lv_at hl 5 rfl) ?_
      refine va_calli (va_runV (As := [.int (nI nx), .int (nI vb)]) (rest := []) ⟨hx, hb, hml, hown, hts⟩ (ih l dC dI ar cy _ hN st sl nx vb (by omega) (by omega) hG.1 (by omega) (hNK)) (cwV 2 hts gX12_holds_X12_holds rfl rfl rfl (by decide +kernel) ⟨by show dp + 4 + 1 ≤ dp + 1 + 4; omega, by show 8 + (8 + 11) + (27 * dp + 88) ≤ 27 * (dp + 1) + 88; omega⟩) ⟨fun a U g mk q => ⟨q.1, mPre.blind q.2⟩, va_recv hK hP (ci := 11) (q0 := 0) rfl rfl, fun U hU hW => ⟨rfl, mPre.of hP hK hU hW⟩⟩ rfl rfl hl.1 rfl (lv_room (Nat.le_of_ble_eq_true rfl)) dX12_holds_104 ⟨Nat.le_of_ble_eq_true rfl, Nat.le_of_ble_eq_true rfl⟩) hS (fun q _ h => MA.le hS.1 q h) (MA.le hS.1) (fun r5 x t H locs ht hvm hw hB _ _ hS => ?_)
      have hP := mB.at ht hB
      clear hB ht hvm
      obtain ⟨rfl, hw⟩ := hw
      have hP : va_P (dC, dI) vwCl (mw ar cy st sl) _ := hP
      rcases hw with rfl | rfl
      · refine lv_if_ne (tgt := 114) hx hb dX12_holds_107 (by decide) (fun _ => ?_) (fun cc => absurd cc (by decide))
        refine lv_iconst (v := 0) hx hb dX12_holds_114 (by decide) ?_
        exact W.zret (v := 0) hx hb hr rfl (fun t ht hW => ⟨⟨0, (st, sl), rfl, ⟨rfl, Or.inr (rfl)⟩, mB.of ht hP⟩, hS.F ht⟩) hS.2.2 dX12_holds_115
      · refine lv_if_ne (tgt := 114) hx hb dX12_holds_107 (by decide) (fun cc => absurd (by decide) cc) (fun _ => ?_)
        refine lv_iconst (v := 1) hx hb dX12_holds_110 (by decide) ?_
        refine lv_goto (tgt := 115) hx hb dX12_holds_111 (by decide) ?_
        exact W.zret (v := 1) hx hb hr rfl (fun t ht hW => ⟨⟨1, (st, sl), rfl, ⟨rfl, Or.inl (rfl)⟩, mB.of ht hP⟩, hS.F ht⟩) hS.2.2 dX12_holds_115
    by_cases cw6 : z3 = 2
    · subst cw6
      refine lv_lookup (off := 82) (tgt := 116) hx hb dX12_holds_34 (by decide) (by decide) (by decide) ?_
      obtain ⟨⟨nx, hnx, enx⟩, ny, hny, eny⟩ := hOK.2.1 (Or.inl ez3.symm)
      obtain rfl : z1 = nI nx := ez1.trans enx
      obtain rfl : z2 = nI ny := ez2.trans eny
      refine lv_aload_n hx hb dX12_holds_116 rfl (lv_at hl 3 rfl) ?_
      refine lv_iload hx hb dX12_holds_117 (lv_at hl 1 rfl) ?_
      refine lv_iload_n hx hb dX12_holds_119 rfl (lv_at hl 5 rfl) ?_
      refine va_calli (va_runV (As := [.int (nI nx), .int (nI vb)]) (rest := []) ⟨hx, hb, hml, hown, hts⟩ (ih l dC dI ar cy _ hN st sl nx vb (by omega) (by omega) hG.1 (by omega) (hNK)) (cwV 2 hts gX12_holds_X12_holds rfl rfl rfl (by decide +kernel) ⟨by show dp + 4 + 1 ≤ dp + 1 + 4; omega, by show 8 + (8 + 11) + (27 * dp + 88) ≤ 27 * (dp + 1) + 88; omega⟩) ⟨fun a U g mk q => ⟨q.1, mPre.blind q.2⟩, va_recv hK hP (ci := 11) (q0 := 0) rfl rfl, fun U hU hW => ⟨rfl, mPre.of hP hK hU hW⟩⟩ rfl rfl hl.1 rfl (lv_room (Nat.le_of_ble_eq_true rfl)) dX12_holds_120 ⟨Nat.le_of_ble_eq_true rfl, Nat.le_of_ble_eq_true rfl⟩) hS (fun q _ h => MA.le hS.1 q h) (MA.le hS.1) (fun r7 x t H locs ht hvm hw hB _ _ hS => ?_)
      have hP := mB.at ht hB
      clear hB ht hvm
      obtain ⟨rfl, hw⟩ := hw
      have hP : va_P (dC, dI) vwCl (mw ar cy st sl) _ := hP
      rcases hw with rfl | rfl
      · refine lv_if_eq (tgt := 140) hx hb dX12_holds_123 (by decide) (fun cc => absurd cc (by decide)) (fun _ => ?_)
        refine lv_aload_n hx hb dX12_holds_126 rfl (lv_at hl 3 rfl) ?_
        refine lv_iload hx hb dX12_holds_127 (lv_at hl 0 rfl) ?_
        refine lv_iload_n hx hb dX12_holds_129 rfl (lv_at hl 5 rfl) ?_
        refine va_calli (va_runV (As := [.int (nI ny), .int (nI vb)]) (rest := []) ⟨hx, hb, hml, hown, hts⟩ (ih l dC dI ar cy _ hN st sl ny vb (by omega) (by omega) hG.1 (by omega) (hNK)) (cwV 2 hts gX12_holds_X12_holds rfl rfl rfl (by decide +kernel) ⟨by show dp + 4 + 1 ≤ dp + 1 + 4; omega, by show 8 + (8 + 11) + (27 * dp + 88) ≤ 27 * (dp + 1) + 88; omega⟩) ⟨fun a U g mk q => ⟨q.1, mPre.blind q.2⟩, va_recv hK hP (ci := 11) (q0 := 0) rfl rfl, fun U hU hW => ⟨rfl, mPre.of hP hK hU hW⟩⟩ rfl rfl hl.1 rfl (lv_room (Nat.le_of_ble_eq_true rfl)) dX12_holds_130 ⟨Nat.le_of_ble_eq_true rfl, Nat.le_of_ble_eq_true rfl⟩) hS (fun q _ h => MA.le hS.1 q h) (MA.le hS.1) (fun r8 x t H locs ht hvm hw hB _ _ hS => ?_)
        have hP := mB.at ht hB
        clear hB ht hvm
        obtain ⟨rfl, hw⟩ := hw
        have hP : va_P (dC, dI) vwCl (mw ar cy st sl) _ := hP
        rcases hw with rfl | rfl
        · refine lv_if_eq (tgt := 140) hx hb dX12_holds_133 (by decide) (fun cc => absurd cc (by decide)) (fun _ => ?_)
          refine lv_iconst (v := 1) hx hb dX12_holds_136 (by decide) ?_
          refine lv_goto (tgt := 141) hx hb dX12_holds_137 (by decide) ?_
          exact W.zret (v := 1) hx hb hr rfl (fun t ht hW => ⟨⟨1, (st, sl), rfl, ⟨rfl, Or.inl (rfl)⟩, mB.of ht hP⟩, hS.F ht⟩) hS.2.2 dX12_holds_141
        · refine lv_if_eq (tgt := 140) hx hb dX12_holds_133 (by decide) (fun _ => ?_) (fun cc => absurd (by decide) cc)
          refine lv_iconst (v := 0) hx hb dX12_holds_140 (by decide) ?_
          exact W.zret (v := 0) hx hb hr rfl (fun t ht hW => ⟨⟨0, (st, sl), rfl, ⟨rfl, Or.inr (rfl)⟩, mB.of ht hP⟩, hS.F ht⟩) hS.2.2 dX12_holds_141
      · refine lv_if_eq (tgt := 140) hx hb dX12_holds_123 (by decide) (fun _ => ?_) (fun cc => absurd (by decide) cc)
        refine lv_iconst (v := 0) hx hb dX12_holds_140 (by decide) ?_
        exact W.zret (v := 0) hx hb hr rfl (fun t ht hW => ⟨⟨0, (st, sl), rfl, ⟨rfl, Or.inr (rfl)⟩, mB.of ht hP⟩, hS.F ht⟩) hS.2.2 dX12_holds_141
    by_cases cw9 : z3 = 3
    · subst cw9
      refine lv_lookup (off := 108) (tgt := 142) hx hb dX12_holds_34 (by decide) (by decide) (by decide) ?_
      obtain ⟨⟨nx, hnx, enx⟩, ny, hny, eny⟩ := hOK.2.1 (Or.inr ez3.symm)
      obtain rfl : z1 = nI nx := ez1.trans enx
      obtain rfl : z2 = nI ny := ez2.trans eny
      refine lv_aload_n hx hb dX12_holds_142 rfl (lv_at hl 3 rfl) ?_
      refine lv_iload hx hb dX12_holds_143 (lv_at hl 1 rfl) ?_
      refine lv_iload_n hx hb dX12_holds_145 rfl (lv_at hl 5 rfl) ?_
      refine va_calli (va_runV (As := [.int (nI nx), .int (nI vb)]) (rest := []) ⟨hx, hb, hml, hown, hts⟩ (ih l dC dI ar cy _ hN st sl nx vb (by omega) (by omega) hG.1 (by omega) (hNK)) (cwV 2 hts gX12_holds_X12_holds rfl rfl rfl (by decide +kernel) ⟨by show dp + 4 + 1 ≤ dp + 1 + 4; omega, by show 8 + (8 + 11) + (27 * dp + 88) ≤ 27 * (dp + 1) + 88; omega⟩) ⟨fun a U g mk q => ⟨q.1, mPre.blind q.2⟩, va_recv hK hP (ci := 11) (q0 := 0) rfl rfl, fun U hU hW => ⟨rfl, mPre.of hP hK hU hW⟩⟩ rfl rfl hl.1 rfl (lv_room (Nat.le_of_ble_eq_true rfl)) dX12_holds_146 ⟨Nat.le_of_ble_eq_true rfl, Nat.le_of_ble_eq_true rfl⟩) hS (fun q _ h => MA.le hS.1 q h) (MA.le hS.1) (fun r10 x t H locs ht hvm hw hB _ _ hS => ?_)
      have hP := mB.at ht hB
      clear hB ht hvm
      obtain ⟨rfl, hw⟩ := hw
      have hP : va_P (dC, dI) vwCl (mw ar cy st sl) _ := hP
      rcases hw with rfl | rfl
      · refine lv_if_ne (tgt := 162) hx hb dX12_holds_149 (by decide) (fun _ => ?_) (fun cc => absurd cc (by decide))
        refine lv_iconst (v := 1) hx hb dX12_holds_162 (by decide) ?_
        refine lv_goto (tgt := 167) hx hb dX12_holds_163 (by decide) ?_
        exact W.zret (v := 1) hx hb hr rfl (fun t ht hW => ⟨⟨1, (st, sl), rfl, ⟨rfl, Or.inl (rfl)⟩, mB.of ht hP⟩, hS.F ht⟩) hS.2.2 dX12_holds_167
      · refine lv_if_ne (tgt := 162) hx hb dX12_holds_149 (by decide) (fun cc => absurd (by decide) cc) (fun _ => ?_)
        refine lv_aload_n hx hb dX12_holds_152 rfl (lv_at hl 3 rfl) ?_
        refine lv_iload hx hb dX12_holds_153 (lv_at hl 0 rfl) ?_
        refine lv_iload_n hx hb dX12_holds_155 rfl (lv_at hl 5 rfl) ?_
        refine va_calli (va_runV (As := [.int (nI ny), .int (nI vb)]) (rest := []) ⟨hx, hb, hml, hown, hts⟩ (ih l dC dI ar cy _ hN st sl ny vb (by omega) (by omega) hG.1 (by omega) (hNK)) (cwV 2 hts gX12_holds_X12_holds rfl rfl rfl (by decide +kernel) ⟨by show dp + 4 + 1 ≤ dp + 1 + 4; omega, by show 8 + (8 + 11) + (27 * dp + 88) ≤ 27 * (dp + 1) + 88; omega⟩) ⟨fun a U g mk q => ⟨q.1, mPre.blind q.2⟩, va_recv hK hP (ci := 11) (q0 := 0) rfl rfl, fun U hU hW => ⟨rfl, mPre.of hP hK hU hW⟩⟩ rfl rfl hl.1 rfl (lv_room (Nat.le_of_ble_eq_true rfl)) dX12_holds_156 ⟨Nat.le_of_ble_eq_true rfl, Nat.le_of_ble_eq_true rfl⟩) hS (fun q _ h => MA.le hS.1 q h) (MA.le hS.1) (fun r11 x t H locs ht hvm hw hB _ _ hS => ?_)
        have hP := mB.at ht hB
        clear hB ht hvm
        obtain ⟨rfl, hw⟩ := hw
        have hP : va_P (dC, dI) vwCl (mw ar cy st sl) _ := hP
        rcases hw with rfl | rfl
        · refine lv_if_eq (tgt := 166) hx hb dX12_holds_159 (by decide) (fun cc => absurd cc (by decide)) (fun _ => ?_)
          refine lv_iconst (v := 1) hx hb dX12_holds_162 (by decide) ?_
          refine lv_goto (tgt := 167) hx hb dX12_holds_163 (by decide) ?_
          exact W.zret (v := 1) hx hb hr rfl (fun t ht hW => ⟨⟨1, (st, sl), rfl, ⟨rfl, Or.inl (rfl)⟩, mB.of ht hP⟩, hS.F ht⟩) hS.2.2 dX12_holds_167
        · refine lv_if_eq (tgt := 166) hx hb dX12_holds_159 (by decide) (fun _ => ?_) (fun cc => absurd (by decide) cc)
          refine lv_iconst (v := 0) hx hb dX12_holds_166 (by decide) ?_
          exact W.zret (v := 0) hx hb hr rfl (fun t ht hW => ⟨⟨0, (st, sl), rfl, ⟨rfl, Or.inr (rfl)⟩, mB.of ht hP⟩, hS.F ht⟩) hS.2.2 dX12_holds_167
    by_cases cw12 : z3 = 66
    · subst cw12
      refine lv_lookup (off := 134) (tgt := 168) hx hb dX12_holds_34 (by decide) (by decide) (by decide) ?_
      refine lv_aload_n hx hb dX12_holds_168 rfl (lv_at hl 3 rfl) ?_
      refine lv_iload_n hx hb dX12_holds_169 rfl (lv_at hl 5 rfl) ?_
      refine va_calli (va_runV (As := [.int (nI vb)]) (rest := []) ⟨hx, hb, hml, hown, hts⟩ (m_isAway l dC dI ar cy _ hN st sl vb (by omega) hG.1) (cwV 1 hts gX12_holds_X12_isAway rfl rfl rfl (by decide +kernel) ⟨Nat.le_of_ble_eq_true rfl, Nat.le_of_ble_eq_true rfl⟩) ⟨fun a U g mk q => ⟨q.1, mPre.blind q.2⟩, va_recv hK hP (ci := 11) (q0 := 0) rfl rfl, fun U hU hW => ⟨rfl, mPre.of hP hK hU hW⟩⟩ rfl rfl hl.1 rfl (lv_room (Nat.le_of_ble_eq_true rfl)) dX12_holds_170 ⟨Nat.le_of_ble_eq_true rfl, Nat.le_of_ble_eq_true rfl⟩) hS (fun q _ h => MA.le hS.1 q h) (MA.le hS.1) (fun r13 x t H locs ht hvm hw hB _ _ hS => ?_)
      have hP := mB.at ht hB
      clear hB ht hvm
      obtain ⟨rfl, hw⟩ := hw
      have hP : va_P (dC, dI) vwCl (mw ar cy st sl) _ := hP
      rcases hw with rfl | rfl
      · exact W.zret (v := 1) hx hb hr rfl (fun t ht hW => ⟨⟨1, (st, sl), rfl, ⟨rfl, Or.inl (rfl)⟩, mB.of ht hP⟩, hS.F ht⟩) hS.2.2 dX12_holds_173
      · exact W.zret (v := 0) hx hb hr rfl (fun t ht hW => ⟨⟨0, (st, sl), rfl, ⟨rfl, Or.inr (rfl)⟩, mB.of ht hP⟩, hS.F ht⟩) hS.2.2 dX12_holds_173
    by_cases cw14 : z3 = 67
    · subst cw14
      refine lv_lookup (off := 140) (tgt := 174) hx hb dX12_holds_34 (by decide) (by decide) (by decide) ?_
      refine lv_aload_n hx hb dX12_holds_174 rfl (lv_at hl 3 rfl) ?_
      refine lv_iload_n hx hb dX12_holds_175 rfl (lv_at hl 5 rfl) ?_
      refine va_calli (va_runV (As := [.int (nI vb)]) (rest := []) ⟨hx, hb, hml, hown, hts⟩ (m_dogsOf l dC dI ar cy _ hN st sl (nI vb)  hG.1) (cwV 1 hts gX12_holds_X12_dogsOf rfl rfl rfl (by decide +kernel) ⟨Nat.le_of_ble_eq_true rfl, Nat.le_of_ble_eq_true rfl⟩) ⟨fun a U g mk q => ⟨q.1, mPre.blind q.2⟩, va_recv hK hP (ci := 11) (q0 := 0) rfl rfl, fun U hU hW => ⟨rfl, mPre.of hP hK hU hW⟩⟩ rfl rfl hl.1 rfl (lv_room (Nat.le_of_ble_eq_true rfl)) dX12_holds_176 ⟨Nat.le_of_ble_eq_true rfl, Nat.le_of_ble_eq_true rfl⟩) hS (fun q _ h => MA.le hS.1 q h) (MA.le hS.1) (fun r15 x t H locs ht hvm hw hB _ _ hS => ?_)
      have hP := mB.at ht hB
      clear hB ht hvm
      obtain ⟨rfl, hw⟩ := hw
      have hP : va_P (dC, dI) vwCl (mw ar cy st sl) _ := hP
      clear hw
      refine lv_if_eq (tgt := 186) hx hb dX12_holds_179 (by decide) (fun c11 => ?_) (fun c11 => ?_)
      · refine lv_iconst (v := 0) hx hb dX12_holds_186 (by decide) ?_
        exact W.zret (v := 0) hx hb hr rfl (fun t ht hW => ⟨⟨0, (st, sl), rfl, ⟨rfl, Or.inr (rfl)⟩, mB.of ht hP⟩, hS.F ht⟩) hS.2.2 dX12_holds_187
      · refine lv_iconst (v := 1) hx hb dX12_holds_182 (by decide) ?_
        refine lv_goto (tgt := 187) hx hb dX12_holds_183 (by decide) ?_
        exact W.zret (v := 1) hx hb hr rfl (fun t ht hW => ⟨⟨1, (st, sl), rfl, ⟨rfl, Or.inl (rfl)⟩, mB.of ht hP⟩, hS.F ht⟩) hS.2.2 dX12_holds_187
    by_cases cw16 : z3 = 68
    · subst cw16
      refine lv_lookup (off := 154) (tgt := 188) hx hb dX12_holds_34 (by decide) (by decide) (by decide) ?_
      obtain ⟨nx, hnx, enx⟩ := hOK.2.2 ez3.symm
      obtain rfl : z1 = nI nx := ez1.trans enx
      refine lv_iload_n hx hb dX12_holds_188 rfl (lv_at hl 5 rfl) ?_
      refine lv_iload hx hb dX12_holds_189 (lv_at hl 1 rfl) ?_
      refine lv_icmp_eq (tgt := 208) hx hb dX12_holds_191 (by decide) (fun c12 => ?_) (fun c12 => ?_)
      · have c12 : vb = nx := (nI_eq (a := vb) (b := nx) (by omega) (by omega)).mp c12
        refine lv_iconst (v := 0) hx hb dX12_holds_208 (by decide) ?_
        exact W.zret (v := 0) hx hb hr rfl (fun t ht hW => ⟨⟨0, (st, sl), rfl, ⟨rfl, Or.inr (rfl)⟩, mB.of ht hP⟩, hS.F ht⟩) hS.2.2 dX12_holds_209
      · have c12 : ¬ vb = nx := fun hh => c12 ((nI_eq (a := vb) (b := nx) (by omega) (by omega)).mpr hh)
        refine lv_aload_n hx hb dX12_holds_194 rfl (lv_at hl 3 rfl) ?_
        refine lv_iload_n hx hb dX12_holds_195 rfl (lv_at hl 5 rfl) ?_
        refine lv_iload hx hb dX12_holds_196 (lv_at hl 1 rfl) ?_
        refine va_calli (va_runV (As := [.int (nI vb), .int (nI nx)]) (rest := []) ⟨hx, hb, hml, hown, hts⟩ (m_meetsIn l dC dI ar cy _ hN st sl vb nx (by omega) (by omega) hG.1) (cwV 2 hts gX12_holds_X12_meetsIn rfl rfl rfl (by decide +kernel) ⟨Nat.le_of_ble_eq_true rfl, Nat.le_of_ble_eq_true rfl⟩) ⟨fun a U g mk q => ⟨q.1, mPre.blind q.2⟩, va_recv hK hP (ci := 11) (q0 := 0) rfl rfl, fun U hU hW => ⟨rfl, mPre.of hP hK hU hW⟩⟩ rfl rfl hl.1 rfl (lv_room (Nat.le_of_ble_eq_true rfl)) dX12_holds_198 ⟨Nat.le_of_ble_eq_true rfl, Nat.le_of_ble_eq_true rfl⟩) hS (fun q _ h => MA.le hS.1 q h) (MA.le hS.1) (fun r17 x t H locs ht hvm hw hB _ _ hS => ?_)
        have hP := mB.at ht hB
        clear hB ht hvm
        obtain ⟨rfl, hw⟩ := hw
        have hP : va_P (dC, dI) vwCl (mw ar cy st sl) _ := hP
        clear hw
        refine lv_if_eq (tgt := 208) hx hb dX12_holds_201 (by decide) (fun c13 => ?_) (fun c13 => ?_)
        · refine lv_iconst (v := 0) hx hb dX12_holds_208 (by decide) ?_
          exact W.zret (v := 0) hx hb hr rfl (fun t ht hW => ⟨⟨0, (st, sl), rfl, ⟨rfl, Or.inr (rfl)⟩, mB.of ht hP⟩, hS.F ht⟩) hS.2.2 dX12_holds_209
        · refine lv_iconst (v := 1) hx hb dX12_holds_204 (by decide) ?_
          refine lv_goto (tgt := 209) hx hb dX12_holds_205 (by decide) ?_
          exact W.zret (v := 1) hx hb hr rfl (fun t ht hW => ⟨⟨1, (st, sl), rfl, ⟨rfl, Or.inl (rfl)⟩, mB.of ht hP⟩, hS.F ht⟩) hS.2.2 dX12_holds_209
    by_cases cw18 : z3 = 69
    · subst cw18
      refine lv_lookup (off := 176) (tgt := 210) hx hb dX12_holds_34 (by decide) (by decide) (by decide) ?_
      refine lv_aload_n hx hb dX12_holds_210 rfl (lv_at hl 3 rfl) ?_
      refine va_get (D := (dC, dI)) (ci := 11) (v := .ref (ar 2)) (C := RX12) (T := TX12) (N := 47) hx hb hts ii_X12_holds hown hK hP 0 rfl rfl 14 (by decide) (hts _ mm_X12_holds_1) (fun _ hh => hh) rfl dX12_holds_211 ?_
      refine lv_bipush (v := 71) hx hb dX12_holds_214 (by decide) ?_
      refine lv_iload_n hx hb dX12_holds_216 rfl (lv_at hl 5 rfl) ?_
      refine lv_iadd hx hb dX12_holds_217 ?_
      refine zz_top (v := nI (71 + vb)) (nI_add 71 vb) ?_
      refine va_iald hx hb hK hP 2 1 rfl rfl (i := (nI (71 + vb))) (vp_in_nI (by omega) (by decide)) dX12_holds_218 ?_
      obtain ⟨n19, hn19, en19⟩ := hG.1.at (r := 2) (k := (71 + vb)) (mr_2_71_79 (71 + vb) (by omega) (by omega)) (by decide)
      refine zz_top (v := nI n19) (by rw [nI_clamp (by omega)]; exact en19) ?_
      refine lv_iload hx hb dX12_holds_219 (lv_at hl 1 rfl) ?_
      refine lv_icmp_ne (tgt := 228) hx hb dX12_holds_221 (by decide) (fun c14 => ?_) (fun c14 => ?_)
      · refine lv_iconst (v := 0) hx hb dX12_holds_228 (by decide) ?_
        exact W.zret (v := 0) hx hb hr rfl (fun t ht hW => ⟨⟨0, (st, sl), rfl, ⟨rfl, Or.inr (rfl)⟩, mB.of ht hP⟩, hS.F ht⟩) hS.2.2 dX12_holds_229
      · refine lv_iconst (v := 1) hx hb dX12_holds_224 (by decide) ?_
        refine lv_goto (tgt := 229) hx hb dX12_holds_225 (by decide) ?_
        exact W.zret (v := 1) hx hb hr rfl (fun t ht hW => ⟨⟨1, (st, sl), rfl, ⟨rfl, Or.inl (rfl)⟩, mB.of ht hP⟩, hS.F ht⟩) hS.2.2 dX12_holds_229
    refine lv_lookup (off := 196) (tgt := 230) hx hb dX12_holds_34 (by decide) (by show Op.lookupswitch.offset [(1, 66), (2, 82), (3, 108), (66, 134), (67, 140), (68, 154), (69, 176)] 196 (z3).toInt = 196; rw [Op.lookupswitch.offset_cons, if_neg (fun hh => cw4 (Int32.toInt_inj.mp (by rw [← hh]; decide))), Op.lookupswitch.offset_cons, if_neg (fun hh => cw6 (Int32.toInt_inj.mp (by rw [← hh]; decide))), Op.lookupswitch.offset_cons, if_neg (fun hh => cw9 (Int32.toInt_inj.mp (by rw [← hh]; decide))), Op.lookupswitch.offset_cons, if_neg (fun hh => cw12 (Int32.toInt_inj.mp (by rw [← hh]; decide))), Op.lookupswitch.offset_cons, if_neg (fun hh => cw14 (Int32.toInt_inj.mp (by rw [← hh]; decide))), Op.lookupswitch.offset_cons, if_neg (fun hh => cw16 (Int32.toInt_inj.mp (by rw [← hh]; decide))), Op.lookupswitch.offset_cons, if_neg (fun hh => cw18 (Int32.toInt_inj.mp (by rw [← hh]; decide)))]; rfl) (by decide) ?_
    refine lv_aload_n hx hb dX12_holds_230 rfl (lv_at hl 3 rfl) ?_
    refine va_get (D := (dC, dI)) (ci := 11) (v := .ref (ar 2)) (C := RX12) (T := TX12) (N := 47) hx hb hts ii_X12_holds hown hK hP 0 rfl rfl 14 (by decide) (hts _ mm_X12_holds_1) (fun _ hh => hh) rfl dX12_holds_231 ?_
    refine lv_iload_n hx hb dX12_holds_234 rfl (lv_at hl 2 rfl) ?_
    refine va_iald hx hb hK hP 2 1 rfl rfl (i := (nI (133 + (4 * va)))) (vp_in_nI (by omega) (by decide)) dX12_holds_235 ?_
    refine zz_top (v := st 2 (133 + (4 * va))) (by rw [nI_clamp (by omega)]) ?_
    refine lv_topi (fun z20 ez20 => ?_)
    refine lv_bipush (v := 50) hx hb dX12_holds_236 (by decide) ?_
    refine lv_isub hx hb dX12_holds_238 ?_
    refine lv_topi (fun z21 ez21 => ?_)
    refine lv_istore (lv' := [(6, .int z21), (5, .int z2), (4, .int z1), (3, .int (nI (133 + (4 * va)))), (0, .ref (ar 0)), (1, .int (nI va)), (2, .int (nI vb))]) hx hb dX12_holds_239 hl (by decide) rfl (fun ls hl => ?_)
    refine lv_iload hx hb dX12_holds_241 (lv_at hl 0 rfl) ?_
    refine lv_bipush (v := 20) hx hb dX12_holds_243 (by decide) ?_
    refine lv_icmp_ne (tgt := 260) hx hb dX12_holds_245 (by decide) (fun c15 => ?_) (fun c15 => ?_)
    · refine lv_iload hx hb dX12_holds_260 (lv_at hl 0 rfl) ?_
      refine lv_bipush (v := 21) hx hb dX12_holds_262 (by decide) ?_
      refine lv_icmp_ne (tgt := 279) hx hb dX12_holds_264 (by decide) (fun c16 => ?_) (fun c16 => ?_)
      · refine lv_iload hx hb dX12_holds_279 (lv_at hl 0 rfl) ?_
        refine lv_bipush (v := 22) hx hb dX12_holds_281 (by decide) ?_
        refine lv_icmp_ne (tgt := 294) hx hb dX12_holds_283 (by decide) (fun c17 => ?_) (fun c17 => ?_)
        · refine lv_iload_n hx hb dX12_holds_294 rfl (lv_at hl 6 rfl) ?_
          refine lv_istore (lv' := [(7, .int (nI vb)), (6, .int z21), (5, .int z2), (4, .int z1), (3, .int (nI (133 + (4 * va)))), (0, .ref (ar 0)), (1, .int (nI va)), (2, .int (nI vb))]) hx hb dX12_holds_295 hl (by decide) rfl (fun ls hl => ?_)
          refine lv_aload_n hx hb dX12_holds_297 rfl (lv_at hl 5 rfl) ?_
          refine va_get (D := (dC, dI)) (ci := 11) (v := .ref (ar 2)) (C := RX12) (T := TX12) (N := 47) hx hb hts ii_X12_holds hown hK hP 0 rfl rfl 14 (by decide) (hts _ mm_X12_holds_1) (fun _ hh => hh) rfl dX12_holds_298 ?_
          refine lv_iload_n hx hb dX12_holds_301 rfl (lv_at hl 4 rfl) ?_
          refine lv_iconst (v := 3) hx hb dX12_holds_302 (by decide) ?_
          refine lv_iadd hx hb dX12_holds_303 ?_
          refine zz_top (v := nI ((133 + (4 * va)) + 3)) (nI_add (133 + (4 * va)) 3) ?_
          refine va_iald hx hb hK hP 2 1 rfl rfl (i := (nI ((133 + (4 * va)) + 3))) (vp_in_nI (by omega) (by decide)) dX12_holds_304 ?_
          refine zz_top (v := st 2 ((133 + (4 * va)) + 3)) (by rw [nI_clamp (by omega)]) ?_
          refine lv_topi (fun z22 ez22 => ?_)
          refine lv_bipush (v := 60) hx hb dX12_holds_305 (by decide) ?_
          refine lv_icmp_ne (tgt := 325) hx hb dX12_holds_307 (by decide) (fun c18 => ?_) (fun c18 => ?_)
          · refine lv_aload_n hx hb dX12_holds_325 rfl (lv_at hl 5 rfl) ?_
            refine va_get (D := (dC, dI)) (ci := 11) (v := .ref (ar 2)) (C := RX12) (T := TX12) (N := 47) hx hb hts ii_X12_holds hown hK hP 0 rfl rfl 14 (by decide) (hts _ mm_X12_holds_1) (fun _ hh => hh) rfl dX12_holds_326 ?_
            refine lv_iload_n hx hb dX12_holds_329 rfl (lv_at hl 4 rfl) ?_
            refine lv_iconst (v := 3) hx hb dX12_holds_330 (by decide) ?_
            refine lv_iadd hx hb dX12_holds_331 ?_
            refine zz_top (v := nI ((133 + (4 * va)) + 3)) (nI_add (133 + (4 * va)) 3) ?_
            refine va_iald hx hb hK hP 2 1 rfl rfl (i := (nI ((133 + (4 * va)) + 3))) (vp_in_nI (by omega) (by decide)) dX12_holds_332 ?_
            refine zz_top (v := st 2 ((133 + (4 * va)) + 3)) (by rw [nI_clamp (by omega)]) ?_
            refine lv_topi (fun z23 ez23 => ?_)
            refine lv_bipush (v := 61) hx hb dX12_holds_333 (by decide) ?_
            refine lv_icmp_ne (tgt := 353) hx hb dX12_holds_335 (by decide) (fun c19 => ?_) (fun c19 => ?_)
            · refine lv_iload hx hb dX12_holds_353 (lv_at hl 0 rfl) ?_
              refine lv_iload hx hb dX12_holds_355 (lv_at hl 2 rfl) ?_
              refine lv_icmp_le (tgt := 364) hx hb dX12_holds_357 (by decide) (fun c20 => ?_) (fun c20 => ?_)
              · refine lv_iconst (v := 0) hx hb dX12_holds_364 (by decide) ?_
                exact W.zret (v := 0) hx hb hr rfl (fun t ht hW => ⟨⟨0, (st, sl), rfl, ⟨rfl, Or.inr (rfl)⟩, mB.of ht hP⟩, hS.F ht⟩) hS.2.2 dX12_holds_365
              · refine lv_iconst (v := 1) hx hb dX12_holds_360 (by decide) ?_
                refine lv_goto (tgt := 365) hx hb dX12_holds_361 (by decide) ?_
                exact W.zret (v := 1) hx hb hr rfl (fun t ht hW => ⟨⟨1, (st, sl), rfl, ⟨rfl, Or.inl (rfl)⟩, mB.of ht hP⟩, hS.F ht⟩) hS.2.2 dX12_holds_365
            · refine lv_iload hx hb dX12_holds_338 (lv_at hl 0 rfl) ?_
              refine lv_iload hx hb dX12_holds_340 (lv_at hl 2 rfl) ?_
              refine lv_icmp_ne (tgt := 349) hx hb dX12_holds_342 (by decide) (fun c21 => ?_) (fun c21 => ?_)
              · refine lv_iconst (v := 0) hx hb dX12_holds_349 (by decide) ?_
                refine lv_goto (tgt := 365) hx hb dX12_holds_350 (by decide) ?_
                exact W.zret (v := 0) hx hb hr rfl (fun t ht hW => ⟨⟨0, (st, sl), rfl, ⟨rfl, Or.inr (rfl)⟩, mB.of ht hP⟩, hS.F ht⟩) hS.2.2 dX12_holds_365
              · refine lv_iconst (v := 1) hx hb dX12_holds_345 (by decide) ?_
                refine lv_goto (tgt := 365) hx hb dX12_holds_346 (by decide) ?_
                exact W.zret (v := 1) hx hb hr rfl (fun t ht hW => ⟨⟨1, (st, sl), rfl, ⟨rfl, Or.inl (rfl)⟩, mB.of ht hP⟩, hS.F ht⟩) hS.2.2 dX12_holds_365
          · refine lv_iload hx hb dX12_holds_310 (lv_at hl 0 rfl) ?_
            refine lv_iload hx hb dX12_holds_312 (lv_at hl 2 rfl) ?_
            refine lv_icmp_ge (tgt := 321) hx hb dX12_holds_314 (by decide) (fun c22 => ?_) (fun c22 => ?_)
            · refine lv_iconst (v := 0) hx hb dX12_holds_321 (by decide) ?_
              refine lv_goto (tgt := 365) hx hb dX12_holds_322 (by decide) ?_
              exact W.zret (v := 0) hx hb hr rfl (fun t ht hW => ⟨⟨0, (st, sl), rfl, ⟨rfl, Or.inr (rfl)⟩, mB.of ht hP⟩, hS.F ht⟩) hS.2.2 dX12_holds_365
            · refine lv_iconst (v := 1) hx hb dX12_holds_317 (by decide) ?_
              refine lv_goto (tgt := 365) hx hb dX12_holds_318 (by decide) ?_
              exact W.zret (v := 1) hx hb hr rfl (fun t ht hW => ⟨⟨1, (st, sl), rfl, ⟨rfl, Or.inl (rfl)⟩, mB.of ht hP⟩, hS.F ht⟩) hS.2.2 dX12_holds_365
        · refine lv_aload_n hx hb dX12_holds_286 rfl (lv_at hl 4 rfl) ?_
          refine lv_iload_n hx hb dX12_holds_287 rfl (lv_at hl 6 rfl) ?_
          refine va_calli (va_runV (As := [.int (nI vb)]) (rest := []) ⟨hx, hb, hml, hown, hts⟩ (m_goodOf l dC dI ar cy _ hN st sl vb (by omega) hG.1) (cwV 1 hts gX12_holds_X12_goodOf rfl rfl rfl (by decide +kernel) ⟨Nat.le_of_ble_eq_true rfl, Nat.le_of_ble_eq_true rfl⟩) ⟨fun a U g mk q => ⟨q.1, mPre.blind q.2⟩, va_recv hK hP (ci := 11) (q0 := 0) rfl rfl, fun U hU hW => ⟨rfl, mPre.of hP hK hU hW⟩⟩ rfl rfl hl.1 rfl (lv_room (Nat.le_of_ble_eq_true rfl)) dX12_holds_288 ⟨Nat.le_of_ble_eq_true rfl, Nat.le_of_ble_eq_true rfl⟩) hS (fun q _ h => MA.le hS.1 q h) (MA.le hS.1) (fun r24 x t H locs ht hvm hw hB _ _ hS => ?_)
          have hP := mB.at ht hB
          clear hB ht hvm
          obtain ⟨rfl, hw⟩ := hw
          have hP : va_P (dC, dI) vwCl (mw ar cy st sl) _ := hP
          clear hw
          refine lv_goto (tgt := 295) hx hb dX12_holds_291 (by decide) ?_
          refine lv_istore (lv' := [(7, .int r24), (6, .int z21), (5, .int z2), (4, .int z1), (3, .int (nI (133 + (4 * va)))), (0, .ref (ar 0)), (1, .int (nI va)), (2, .int (nI vb))]) hx hb dX12_holds_295 hl (by decide) rfl (fun ls hl => ?_)
          refine lv_aload_n hx hb dX12_holds_297 rfl (lv_at hl 5 rfl) ?_
          refine va_get (D := (dC, dI)) (ci := 11) (v := .ref (ar 2)) (C := RX12) (T := TX12) (N := 47) hx hb hts ii_X12_holds hown hK hP 0 rfl rfl 14 (by decide) (hts _ mm_X12_holds_1) (fun _ hh => hh) rfl dX12_holds_298 ?_
          refine lv_iload_n hx hb dX12_holds_301 rfl (lv_at hl 4 rfl) ?_
          refine lv_iconst (v := 3) hx hb dX12_holds_302 (by decide) ?_
          refine lv_iadd hx hb dX12_holds_303 ?_
          refine zz_top (v := nI ((133 + (4 * va)) + 3)) (nI_add (133 + (4 * va)) 3) ?_
          refine va_iald hx hb hK hP 2 1 rfl rfl (i := (nI ((133 + (4 * va)) + 3))) (vp_in_nI (by omega) (by decide)) dX12_holds_304 ?_
          refine zz_top (v := st 2 ((133 + (4 * va)) + 3)) (by rw [nI_clamp (by omega)]) ?_
          refine lv_topi (fun z25 ez25 => ?_)
          refine lv_bipush (v := 60) hx hb dX12_holds_305 (by decide) ?_
          refine lv_icmp_ne (tgt := 325) hx hb dX12_holds_307 (by decide) (fun c23 => ?_) (fun c23 => ?_)
          · refine lv_aload_n hx hb dX12_holds_325 rfl (lv_at hl 5 rfl) ?_
            refine va_get (D := (dC, dI)) (ci := 11) (v := .ref (ar 2)) (C := RX12) (T := TX12) (N := 47) hx hb hts ii_X12_holds hown hK hP 0 rfl rfl 14 (by decide) (hts _ mm_X12_holds_1) (fun _ hh => hh) rfl dX12_holds_326 ?_
            refine lv_iload_n hx hb dX12_holds_329 rfl (lv_at hl 4 rfl) ?_
            refine lv_iconst (v := 3) hx hb dX12_holds_330 (by decide) ?_
            refine lv_iadd hx hb dX12_holds_331 ?_
            refine zz_top (v := nI ((133 + (4 * va)) + 3)) (nI_add (133 + (4 * va)) 3) ?_
            refine va_iald hx hb hK hP 2 1 rfl rfl (i := (nI ((133 + (4 * va)) + 3))) (vp_in_nI (by omega) (by decide)) dX12_holds_332 ?_
            refine zz_top (v := st 2 ((133 + (4 * va)) + 3)) (by rw [nI_clamp (by omega)]) ?_
            refine lv_topi (fun z26 ez26 => ?_)
            refine lv_bipush (v := 61) hx hb dX12_holds_333 (by decide) ?_
            refine lv_icmp_ne (tgt := 353) hx hb dX12_holds_335 (by decide) (fun c24 => ?_) (fun c24 => ?_)
            · refine lv_iload hx hb dX12_holds_353 (lv_at hl 0 rfl) ?_
              refine lv_iload hx hb dX12_holds_355 (lv_at hl 2 rfl) ?_
              refine lv_icmp_le (tgt := 364) hx hb dX12_holds_357 (by decide) (fun c25 => ?_) (fun c25 => ?_)
              · refine lv_iconst (v := 0) hx hb dX12_holds_364 (by decide) ?_
                exact W.zret (v := 0) hx hb hr rfl (fun t ht hW => ⟨⟨0, (st, sl), rfl, ⟨rfl, Or.inr (rfl)⟩, mB.of ht hP⟩, hS.F ht⟩) hS.2.2 dX12_holds_365
              · refine lv_iconst (v := 1) hx hb dX12_holds_360 (by decide) ?_
                refine lv_goto (tgt := 365) hx hb dX12_holds_361 (by decide) ?_
                exact W.zret (v := 1) hx hb hr rfl (fun t ht hW => ⟨⟨1, (st, sl), rfl, ⟨rfl, Or.inl (rfl)⟩, mB.of ht hP⟩, hS.F ht⟩) hS.2.2 dX12_holds_365
            · refine lv_iload hx hb dX12_holds_338 (lv_at hl 0 rfl) ?_
              refine lv_iload hx hb dX12_holds_340 (lv_at hl 2 rfl) ?_
              refine lv_icmp_ne (tgt := 349) hx hb dX12_holds_342 (by decide) (fun c26 => ?_) (fun c26 => ?_)
              · refine lv_iconst (v := 0) hx hb dX12_holds_349 (by decide) ?_
                refine lv_goto (tgt := 365) hx hb dX12_holds_350 (by decide) ?_
                exact W.zret (v := 0) hx hb hr rfl (fun t ht hW => ⟨⟨0, (st, sl), rfl, ⟨rfl, Or.inr (rfl)⟩, mB.of ht hP⟩, hS.F ht⟩) hS.2.2 dX12_holds_365
              · refine lv_iconst (v := 1) hx hb dX12_holds_345 (by decide) ?_
                refine lv_goto (tgt := 365) hx hb dX12_holds_346 (by decide) ?_
                exact W.zret (v := 1) hx hb hr rfl (fun t ht hW => ⟨⟨1, (st, sl), rfl, ⟨rfl, Or.inl (rfl)⟩, mB.of ht hP⟩, hS.F ht⟩) hS.2.2 dX12_holds_365
          · refine lv_iload hx hb dX12_holds_310 (lv_at hl 0 rfl) ?_
            refine lv_iload hx hb dX12_holds_312 (lv_at hl 2 rfl) ?_
            refine lv_icmp_ge (tgt := 321) hx hb dX12_holds_314 (by decide) (fun c27 => ?_) (fun c27 => ?_)
            · refine lv_iconst (v := 0) hx hb dX12_holds_321 (by decide) ?_
              refine lv_goto (tgt := 365) hx hb dX12_holds_322 (by decide) ?_
              exact W.zret (v := 0) hx hb hr rfl (fun t ht hW => ⟨⟨0, (st, sl), rfl, ⟨rfl, Or.inr (rfl)⟩, mB.of ht hP⟩, hS.F ht⟩) hS.2.2 dX12_holds_365
            · refine lv_iconst (v := 1) hx hb dX12_holds_317 (by decide) ?_
              refine lv_goto (tgt := 365) hx hb dX12_holds_318 (by decide) ?_
              exact W.zret (v := 1) hx hb hr rfl (fun t ht hW => ⟨⟨1, (st, sl), rfl, ⟨rfl, Or.inl (rfl)⟩, mB.of ht hP⟩, hS.F ht⟩) hS.2.2 dX12_holds_365
      · refine lv_aload_n hx hb dX12_holds_267 rfl (lv_at hl 4 rfl) ?_
        refine va_get (D := (dC, dI)) (ci := 11) (v := .ref (ar 2)) (C := RX12) (T := TX12) (N := 47) hx hb hts ii_X12_holds hown hK hP 0 rfl rfl 14 (by decide) (hts _ mm_X12_holds_1) (fun _ hh => hh) rfl dX12_holds_268 ?_
        refine lv_bipush (v := 111) hx hb dX12_holds_271 (by decide) ?_
        refine lv_iload_n hx hb dX12_holds_273 rfl (lv_at hl 6 rfl) ?_
        refine lv_iadd hx hb dX12_holds_274 ?_
        refine zz_top (v := nI (111 + vb)) (nI_add 111 vb) ?_
        refine va_iald hx hb hK hP 2 1 rfl rfl (i := (nI (111 + vb))) (vp_in_nI (by omega) (by decide)) dX12_holds_275 ?_
        refine zz_top (v := st 2 (111 + vb)) (by rw [nI_clamp (by omega)]) ?_
        refine lv_topi (fun z27 ez27 => ?_)
        refine lv_goto (tgt := 295) hx hb dX12_holds_276 (by decide) ?_
        refine lv_istore (lv' := [(7, .int z27), (6, .int z21), (5, .int z2), (4, .int z1), (3, .int (nI (133 + (4 * va)))), (0, .ref (ar 0)), (1, .int (nI va)), (2, .int (nI vb))]) hx hb dX12_holds_295 hl (by decide) rfl (fun ls hl => ?_)
        refine lv_aload_n hx hb dX12_holds_297 rfl (lv_at hl 5 rfl) ?_
        refine va_get (D := (dC, dI)) (ci := 11) (v := .ref (ar 2)) (C := RX12) (T := TX12) (N := 47) hx hb hts ii_X12_holds hown hK hP 0 rfl rfl 14 (by decide) (hts _ mm_X12_holds_1) (fun _ hh => hh) rfl dX12_holds_298 ?_
        refine lv_iload_n hx hb dX12_holds_301 rfl (lv_at hl 4 rfl) ?_
        refine lv_iconst (v := 3) hx hb dX12_holds_302 (by decide) ?_
        refine lv_iadd hx hb dX12_holds_303 ?_
        refine zz_top (v := nI ((133 + (4 * va)) + 3)) (nI_add (133 + (4 * va)) 3) ?_
        refine va_iald hx hb hK hP 2 1 rfl rfl (i := (nI ((133 + (4 * va)) + 3))) (vp_in_nI (by omega) (by decide)) dX12_holds_304 ?_
        refine zz_top (v := st 2 ((133 + (4 * va)) + 3)) (by rw [nI_clamp (by omega)]) ?_
        refine lv_topi (fun z28 ez28 => ?_)
        refine lv_bipush (v := 60) hx hb dX12_holds_305 (by decide) ?_
        refine lv_icmp_ne (tgt := 325) hx hb dX12_holds_307 (by decide) (fun c28 => ?_) (fun c28 => ?_)
        · refine lv_aload_n hx hb dX12_holds_325 rfl (lv_at hl 5 rfl) ?_
          refine va_get (D := (dC, dI)) (ci := 11) (v := .ref (ar 2)) (C := RX12) (T := TX12) (N := 47) hx hb hts ii_X12_holds hown hK hP 0 rfl rfl 14 (by decide) (hts _ mm_X12_holds_1) (fun _ hh => hh) rfl dX12_holds_326 ?_
          refine lv_iload_n hx hb dX12_holds_329 rfl (lv_at hl 4 rfl) ?_
          refine lv_iconst (v := 3) hx hb dX12_holds_330 (by decide) ?_
          refine lv_iadd hx hb dX12_holds_331 ?_
          refine zz_top (v := nI ((133 + (4 * va)) + 3)) (nI_add (133 + (4 * va)) 3) ?_
          refine va_iald hx hb hK hP 2 1 rfl rfl (i := (nI ((133 + (4 * va)) + 3))) (vp_in_nI (by omega) (by decide)) dX12_holds_332 ?_
          refine zz_top (v := st 2 ((133 + (4 * va)) + 3)) (by rw [nI_clamp (by omega)]) ?_
          refine lv_topi (fun z29 ez29 => ?_)
          refine lv_bipush (v := 61) hx hb dX12_holds_333 (by decide) ?_
          refine lv_icmp_ne (tgt := 353) hx hb dX12_holds_335 (by decide) (fun c29 => ?_) (fun c29 => ?_)
          · refine lv_iload hx hb dX12_holds_353 (lv_at hl 0 rfl) ?_
            refine lv_iload hx hb dX12_holds_355 (lv_at hl 2 rfl) ?_
            refine lv_icmp_le (tgt := 364) hx hb dX12_holds_357 (by decide) (fun c30 => ?_) (fun c30 => ?_)
            · refine lv_iconst (v := 0) hx hb dX12_holds_364 (by decide) ?_
              exact W.zret (v := 0) hx hb hr rfl (fun t ht hW => ⟨⟨0, (st, sl), rfl, ⟨rfl, Or.inr (rfl)⟩, mB.of ht hP⟩, hS.F ht⟩) hS.2.2 dX12_holds_365
            · refine lv_iconst (v := 1) hx hb dX12_holds_360 (by decide) ?_
              refine lv_goto (tgt := 365) hx hb dX12_holds_361 (by decide) ?_
              exact W.zret (v := 1) hx hb hr rfl (fun t ht hW => ⟨⟨1, (st, sl), rfl, ⟨rfl, Or.inl (rfl)⟩, mB.of ht hP⟩, hS.F ht⟩) hS.2.2 dX12_holds_365
          · refine lv_iload hx hb dX12_holds_338 (lv_at hl 0 rfl) ?_
            refine lv_iload hx hb dX12_holds_340 (lv_at hl 2 rfl) ?_
            refine lv_icmp_ne (tgt := 349) hx hb dX12_holds_342 (by decide) (fun c31 => ?_) (fun c31 => ?_)
            · refine lv_iconst (v := 0) hx hb dX12_holds_349 (by decide) ?_
              refine lv_goto (tgt := 365) hx hb dX12_holds_350 (by decide) ?_
              exact W.zret (v := 0) hx hb hr rfl (fun t ht hW => ⟨⟨0, (st, sl), rfl, ⟨rfl, Or.inr (rfl)⟩, mB.of ht hP⟩, hS.F ht⟩) hS.2.2 dX12_holds_365
            · refine lv_iconst (v := 1) hx hb dX12_holds_345 (by decide) ?_
              refine lv_goto (tgt := 365) hx hb dX12_holds_346 (by decide) ?_
              exact W.zret (v := 1) hx hb hr rfl (fun t ht hW => ⟨⟨1, (st, sl), rfl, ⟨rfl, Or.inl (rfl)⟩, mB.of ht hP⟩, hS.F ht⟩) hS.2.2 dX12_holds_365
        · refine lv_iload hx hb dX12_holds_310 (lv_at hl 0 rfl) ?_
          refine lv_iload hx hb dX12_holds_312 (lv_at hl 2 rfl) ?_
          refine lv_icmp_ge (tgt := 321) hx hb dX12_holds_314 (by decide) (fun c32 => ?_) (fun c32 => ?_)
          · refine lv_iconst (v := 0) hx hb dX12_holds_321 (by decide) ?_
            refine lv_goto (tgt := 365) hx hb dX12_holds_322 (by decide) ?_
            exact W.zret (v := 0) hx hb hr rfl (fun t ht hW => ⟨⟨0, (st, sl), rfl, ⟨rfl, Or.inr (rfl)⟩, mB.of ht hP⟩, hS.F ht⟩) hS.2.2 dX12_holds_365
          · refine lv_iconst (v := 1) hx hb dX12_holds_317 (by decide) ?_
            refine lv_goto (tgt := 365) hx hb dX12_holds_318 (by decide) ?_
            exact W.zret (v := 1) hx hb hr rfl (fun t ht hW => ⟨⟨1, (st, sl), rfl, ⟨rfl, Or.inl (rfl)⟩, mB.of ht hP⟩, hS.F ht⟩) hS.2.2 dX12_holds_365
    · refine lv_aload_n hx hb dX12_holds_248 rfl (lv_at hl 4 rfl) ?_
      refine va_get (D := (dC, dI)) (ci := 11) (v := .ref (ar 2)) (C := RX12) (T := TX12) (N := 47) hx hb hts ii_X12_holds hown hK hP 0 rfl rfl 14 (by decide) (hts _ mm_X12_holds_1) (fun _ hh => hh) rfl dX12_holds_249 ?_
      refine lv_bipush (v := 103) hx hb dX12_holds_252 (by decide) ?_
      refine lv_iload_n hx hb dX12_holds_254 rfl (lv_at hl 6 rfl) ?_
      refine lv_iadd hx hb dX12_holds_255 ?_
      refine zz_top (v := nI (103 + vb)) (nI_add 103 vb) ?_
      refine va_iald hx hb hK hP 2 1 rfl rfl (i := (nI (103 + vb))) (vp_in_nI (by omega) (by decide)) dX12_holds_256 ?_
      refine zz_top (v := st 2 (103 + vb)) (by rw [nI_clamp (by omega)]) ?_
      refine lv_topi (fun z30 ez30 => ?_)
      refine lv_goto (tgt := 295) hx hb dX12_holds_257 (by decide) ?_
      refine lv_istore (lv' := [(7, .int z30), (6, .int z21), (5, .int z2), (4, .int z1), (3, .int (nI (133 + (4 * va)))), (0, .ref (ar 0)), (1, .int (nI va)), (2, .int (nI vb))]) hx hb dX12_holds_295 hl (by decide) rfl (fun ls hl => ?_)
      refine lv_aload_n hx hb dX12_holds_297 rfl (lv_at hl 5 rfl) ?_
      refine va_get (D := (dC, dI)) (ci := 11) (v := .ref (ar 2)) (C := RX12) (T := TX12) (N := 47) hx hb hts ii_X12_holds hown hK hP 0 rfl rfl 14 (by decide) (hts _ mm_X12_holds_1) (fun _ hh => hh) rfl dX12_holds_298 ?_
      refine lv_iload_n hx hb dX12_holds_301 rfl (lv_at hl 4 rfl) ?_
      refine lv_iconst (v := 3) hx hb dX12_holds_302 (by decide) ?_
      refine lv_iadd hx hb dX12_holds_303 ?_
      refine zz_top (v := nI ((133 + (4 * va)) + 3)) (nI_add (133 + (4 * va)) 3) ?_
      refine va_iald hx hb hK hP 2 1 rfl rfl (i := (nI ((133 + (4 * va)) + 3))) (vp_in_nI (by omega) (by decide)) dX12_holds_304 ?_
      refine zz_top (v := st 2 ((133 + (4 * va)) + 3)) (by rw [nI_clamp (by omega)]) ?_
      refine lv_topi (fun z31 ez31 => ?_)
      refine lv_bipush (v := 60) hx hb dX12_holds_305 (by decide) ?_
      refine lv_icmp_ne (tgt := 325) hx hb dX12_holds_307 (by decide) (fun c33 => ?_) (fun c33 => ?_)
      · refine lv_aload_n hx hb dX12_holds_325 rfl (lv_at hl 5 rfl) ?_
        refine va_get (D := (dC, dI)) (ci := 11) (v := .ref (ar 2)) (C := RX12) (T := TX12) (N := 47) hx hb hts ii_X12_holds hown hK hP 0 rfl rfl 14 (by decide) (hts _ mm_X12_holds_1) (fun _ hh => hh) rfl dX12_holds_326 ?_
        refine lv_iload_n hx hb dX12_holds_329 rfl (lv_at hl 4 rfl) ?_
        refine lv_iconst (v := 3) hx hb dX12_holds_330 (by decide) ?_
        refine lv_iadd hx hb dX12_holds_331 ?_
        refine zz_top (v := nI ((133 + (4 * va)) + 3)) (nI_add (133 + (4 * va)) 3) ?_
        refine va_iald hx hb hK hP 2 1 rfl rfl (i := (nI ((133 + (4 * va)) + 3))) (vp_in_nI (by omega) (by decide)) dX12_holds_332 ?_
        refine zz_top (v := st 2 ((133 + (4 * va)) + 3)) (by rw [nI_clamp (by omega)]) ?_
        refine lv_topi (fun z32 ez32 => ?_)
        refine lv_bipush (v := 61) hx hb dX12_holds_333 (by decide) ?_
        refine lv_icmp_ne (tgt := 353) hx hb dX12_holds_335 (by decide) (fun c34 => ?_) (fun c34 => ?_)
        · refine lv_iload hx hb dX12_holds_353 (lv_at hl 0 rfl) ?_
          refine lv_iload hx hb dX12_holds_355 (lv_at hl 2 rfl) ?_
          refine lv_icmp_le (tgt := 364) hx hb dX12_holds_357 (by decide) (fun c35 => ?_) (fun c35 => ?_)
          · refine lv_iconst (v := 0) hx hb dX12_holds_364 (by decide) ?_
            exact W.zret (v := 0) hx hb hr rfl (fun t ht hW => ⟨⟨0, (st, sl), rfl, ⟨rfl, Or.inr (rfl)⟩, mB.of ht hP⟩, hS.F ht⟩) hS.2.2 dX12_holds_365
          · refine lv_iconst (v := 1) hx hb dX12_holds_360 (by decide) ?_
            refine lv_goto (tgt := 365) hx hb dX12_holds_361 (by decide) ?_
            exact W.zret (v := 1) hx hb hr rfl (fun t ht hW => ⟨⟨1, (st, sl), rfl, ⟨rfl, Or.inl (rfl)⟩, mB.of ht hP⟩, hS.F ht⟩) hS.2.2 dX12_holds_365
        · refine lv_iload hx hb dX12_holds_338 (lv_at hl 0 rfl) ?_
          refine lv_iload hx hb dX12_holds_340 (lv_at hl 2 rfl) ?_
          refine lv_icmp_ne (tgt := 349) hx hb dX12_holds_342 (by decide) (fun c36 => ?_) (fun c36 => ?_)
          · refine lv_iconst (v := 0) hx hb dX12_holds_349 (by decide) ?_
            refine lv_goto (tgt := 365) hx hb dX12_holds_350 (by decide) ?_
            exact W.zret (v := 0) hx hb hr rfl (fun t ht hW => ⟨⟨0, (st, sl), rfl, ⟨rfl, Or.inr (rfl)⟩, mB.of ht hP⟩, hS.F ht⟩) hS.2.2 dX12_holds_365
          · refine lv_iconst (v := 1) hx hb dX12_holds_345 (by decide) ?_
            refine lv_goto (tgt := 365) hx hb dX12_holds_346 (by decide) ?_
            exact W.zret (v := 1) hx hb hr rfl (fun t ht hW => ⟨⟨1, (st, sl), rfl, ⟨rfl, Or.inl (rfl)⟩, mB.of ht hP⟩, hS.F ht⟩) hS.2.2 dX12_holds_365
      · refine lv_iload hx hb dX12_holds_310 (lv_at hl 0 rfl) ?_
        refine lv_iload hx hb dX12_holds_312 (lv_at hl 2 rfl) ?_
        refine lv_icmp_ge (tgt := 321) hx hb dX12_holds_314 (by decide) (fun c37 => ?_) (fun c37 => ?_)
        · refine lv_iconst (v := 0) hx hb dX12_holds_321 (by decide) ?_
          refine lv_goto (tgt := 365) hx hb dX12_holds_322 (by decide) ?_
          exact W.zret (v := 0) hx hb hr rfl (fun t ht hW => ⟨⟨0, (st, sl), rfl, ⟨rfl, Or.inr (rfl)⟩, mB.of ht hP⟩, hS.F ht⟩) hS.2.2 dX12_holds_365
        · refine lv_iconst (v := 1) hx hb dX12_holds_317 (by decide) ?_
          refine lv_goto (tgt := 365) hx hb dX12_holds_318 (by decide) ?_
          exact W.zret (v := 1) hx hb hr rfl (fun t ht hW => ⟨⟨1, (st, sl), rfl, ⟨rfl, Or.inl (rfl)⟩, mB.of ht hP⟩, hS.F ht⟩) hS.2.2 dX12_holds_365
set_option maxHeartbeats 4000000 in
set_option maxRecDepth 100000 in
theorem m_said (l : Launch) (dC : Nat → ClassId) (dI : Nat → Nat → Nat) (ar : Nat → Nat) (cy : Nat → ClassId) (sz : Nat) (hN : MN ar) (st : Nat → Nat → Int32) (sl : Nat → Nat → Int64) (va : Int32) (hI : MI st) (hNK : NKn st) : Met l yX12_said wsX12_said ({ frames := 64, cells := 0, slots := 0, locals := 1708 }) (va_Pc [.ref (ar 0), .int va] (mPre dC dI ar cy sz st sl)) (va_Qi (fun (r : Int32) (x : MT) => MG [1, 2, 3, 4, 5, 6, 7, 8, 9, 10, 11, 12, 13, 14, 15, 16, 17, 19, 20, 21, 22, 23] st x.1 ∧ LQ [7, 9] sl x.2 ∧ (True)) (mB dC dI ar cy) (MA ar sz)) 0 0 (MA ar sz) := by
  refine Met.ofW (cc := cX12_said) (maxL := 4) (ret := (some .int)) (by decide) rfl ?_
  intro p e s m args below meth c s₁ B hml hv
  obtain ⟨rfl, hsz, hP, hK⟩ := hv
  have hx := B.exec
  have hb := B.bytes
  have hr := B.returns
  have hts := atoms_spec (ws := wsX12_said) B.pre
  have hown : s.vm.findClass RX12 = some m.cls := findClass_of_methodNamed B.named
  subst hsz
  have hS : va_S (MA ar s.heap.size) s.heap s.heap [] := va_S.rf
  have hG : MG [1, 2, 3, 4, 5, 6, 7, 8, 9, 10, 11, 12, 13, 14, 15, 16, 17, 19, 20, 21, 22, 23] st st := MG.rf hI
  have hl := lv_entry ([.ref (ar 0), .int va]) (n := 4) (Nat.le_of_ble_eq_true rfl)
  rw [lg_entry_eq]
  generalize (lg_sl ([.ref (ar 0), .int va]) ++ List.replicate (4 - (lg_sl ([.ref (ar 0), .int va])).length) Slot.unset).toArray = ls at hl ⊢
  have hl : lv_has ls 4 [(0, .ref (ar 0)), (1, .int va)] := hl
  clear hI
  have hG6 : MG [6] st st := MG.rf hG.1
  have hL : LQ [7, 9] sl sl := LQ.rf
  refine lv_aload_n hx hb dX12_said_0 rfl (lv_at hl 0 rfl) ?_
  refine lv_iconst (v := 0) hx hb dX12_said_1 (by decide) ?_
  refine va_put (D := (dC, dI)) (ci := 11) (v := .int 0) (ty := .int) (C := RX12) (T := TX12) (N := 47) hx hb hts ii_X12_said tyX12 tyX12_ok nmX12 hown hK hP (mD hN _ _ _ _) hS 0 rfl rfl 0 (by decide) (hts _ mm_X12_said_1) (fun _ hh => hh) rfl (by decide +kernel) rfl rfl (Nat.le_of_ble_eq_true rfl) dX12_said_2 (fun H locs hP _ hS => ?_)
  have hP : va_P (dC, dI) vwCl (mw ar cy (up2 st 0 0 0) sl) H := hP
  obtain ⟨st1, est1⟩ : ∃ y, y = up2 st 0 0 0 := ⟨_, rfl⟩
  have hG : MG [1, 2, 3, 4, 5, 6, 7, 8, 9, 10, 11, 12, 13, 14, 15, 16, 17, 19, 20, 21, 22, 23] st st1 := by rw [est1]; exact hG.up (rz (by decide : mr 0 0 = 0)) (pn (by decide : pcl 0 0 = 0) (by decide))
  have hG2 : MG [6] st st1 := by rw [est1]; exact hG6.up (rz (by decide : mr 0 0 = 0)) (pn (by decide : pcl 0 0 = 0) (by decide))
  rw [← est1] at hP
  refine lv_aload_n hx hb dX12_said_5 rfl (lv_at hl 0 rfl) ?_
  refine va_get (D := (dC, dI)) (ci := 11) (v := .ref (ar 2)) (C := RX12) (T := TX12) (N := 47) hx hb hts ii_X12_said hown hK hP 0 rfl rfl 14 (by decide) (hts _ mm_X12_said_2) (fun _ hh => hh) rfl dX12_said_6 ?_
  refine lv_sipush (v := 131) hx hb dX12_said_9 (by decide) ?_
  refine va_iald hx hb hK hP 2 1 rfl rfl (i := 131) (zz_in (by decide)) dX12_said_12 ?_
  refine lv_topi (fun z3 ez3 => ?_)
  refine lv_if_ne (tgt := 18) hx hb dX12_said_13 (by decide) (fun c1 => ?_) (fun c1 => ?_)
  · refine lv_iconst (v := 0) hx hb dX12_said_18 (by decide) ?_
    refine lv_istore_n (lv' := [(2, .int 0), (0, .ref (ar 0)), (1, .int va)]) hx hb dX12_said_19 rfl hl (by decide) rfl (fun ls hl => ?_)
    refine lv_iconst (v := 0) hx hb dX12_said_20 (by decide) ?_
    refine lv_istore_n (lv' := [(3, .int 0), (2, .int 0), (0, .ref (ar 0)), (1, .int va)]) hx hb dX12_said_21 rfl hl (by decide) rfl (fun ls hl => ?_)
    refine zz_wf (fun n stk H locs ls => ∃ k4 : Nat, ∃ z5 : Int32, n = 9 - k4 ∧ 0 ≤ k4 ∧ k4 < 9 ∧ va_P (dC, dI) vwCl (mw ar cy st1 sl) H ∧ va_S (MA ar s.heap.size) s.heap H locs ∧ lv_has ls 4 [(3, .int (nI k4)), (2, .int z5), (0, .ref (ar 0)), (1, .int va)] ∧ stk = []) ?_ (9 - 0) _ _ _ _ ⟨0, 0, rfl, by omega, by omega, hP, hS, lv_sub hl [0, 1, 2, 3] rfl, rfl⟩
    rintro nn stk H locs ls ⟨k4, z5, hm7, hv6_0, hv7_1, hP, hS, hl, rfl⟩ ih8
    refine lv_iload_n hx hb dX12_said_22 rfl (lv_at hl 0 rfl) ?_
    refine lv_aload_n hx hb dX12_said_23 rfl (lv_at hl 2 rfl) ?_
    refine va_get (D := (dC, dI)) (ci := 11) (v := .ref (ar 2)) (C := RX12) (T := TX12) (N := 47) hx hb hts ii_X12_said hown hK hP 0 rfl rfl 14 (by decide) (hts _ mm_X12_said_2) (fun _ hh => hh) rfl dX12_said_24 ?_
    refine lv_iconst (v := 1) hx hb dX12_said_27 (by decide) ?_
    refine va_iald hx hb hK hP 2 1 rfl rfl (i := 1) (zz_in (by decide)) dX12_said_28 ?_
    obtain ⟨n9, hn9, en9⟩ := hG.1.at (r := 2) (k := 1) (by decide : mr 2 1 = 9) (by decide)
    refine zz_top (v := nI n9) (by exact en9) ?_
    refine lv_icmp_ge (tgt := 67) hx hb dX12_said_29 (by decide) (fun c2 => ?_) (fun c2 => ?_)
    · have c2 : n9 ≤ k4 := (nI_leI (a := n9) (b := k4) (by omega) (by omega)).mp c2
      refine lv_iload_n hx hb dX12_said_67 rfl (lv_at hl 3 rfl) ?_
      refine lv_iconst (v := (-1)) hx hb dX12_said_68 (by decide) ?_
      refine lv_icmp_ne (tgt := 76) hx hb dX12_said_69 (by decide) (fun c3 => ?_) (fun c3 => ?_)
      · refine lv_iconst (v := (-1)) hx hb dX12_said_76 (by decide) ?_
        exact W.iret (v := (-1)) hx hb hr (fun t ht hW => ⟨⟨(-1), (st1, sl), rfl, ⟨hG, hL, trivial⟩, mB.of ht hP⟩, hS.F ht⟩) hS.2.2 dX12_said_77
      · refine lv_iload_n hx hb dX12_said_72 rfl (lv_at hl 1 rfl) ?_
        refine lv_goto (tgt := 77) hx hb dX12_said_73 (by decide) ?_
        exact W.iret (v := z5) hx hb hr (fun t ht hW => ⟨⟨z5, (st1, sl), rfl, ⟨hG, hL, trivial⟩, mB.of ht hP⟩, hS.F ht⟩) hS.2.2 dX12_said_77
    · have c2 : ¬ n9 ≤ k4 := fun hh => c2 ((nI_leI (a := n9) (b := k4) (by omega) (by omega)).mpr hh)
      refine lv_aload_n hx hb dX12_said_32 rfl (lv_at hl 2 rfl) ?_
      refine lv_aload_n hx hb dX12_said_33 rfl (lv_at hl 2 rfl) ?_
      refine va_get (D := (dC, dI)) (ci := 11) (v := .ref (ar 2)) (C := RX12) (T := TX12) (N := 47) hx hb hts ii_X12_said hown hK hP 0 rfl rfl 14 (by decide) (hts _ mm_X12_said_2) (fun _ hh => hh) rfl dX12_said_34 ?_
      refine lv_sipush (v := 132) hx hb dX12_said_37 (by decide) ?_
      refine va_iald hx hb hK hP 2 1 rfl rfl (i := 132) (zz_in (by decide)) dX12_said_40 ?_
      obtain ⟨n10, hn10, en10⟩ := hG.1.at (r := 2) (k := 132) (by decide : mr 2 132 = 60) (by decide)
      refine zz_top (v := nI n10) (by exact en10) ?_
      refine lv_iload_n hx hb dX12_said_41 rfl (lv_at hl 0 rfl) ?_
      refine va_calli (va_runV (As := [.int (nI n10), .int (nI k4)]) (rest := []) ⟨hx, hb, hml, hown, hts⟩ (m_holds 59 l dC dI ar cy _ hN st1 sl n10 k4 (by omega) (by omega) hG.1 (by omega) (NKn.mg hG2 (by decide) hNK)) (cwV 2 hts gX12_said_X12_holds rfl rfl rfl (by decide +kernel) ⟨Nat.le_of_ble_eq_true rfl, Nat.le_of_ble_eq_true rfl⟩) ⟨fun a U g mk q => ⟨q.1, mPre.blind q.2⟩, va_recv hK hP (ci := 11) (q0 := 0) rfl rfl, fun U hU hW => ⟨rfl, mPre.of hP hK hU hW⟩⟩ rfl rfl hl.1 rfl (lv_room (Nat.le_of_ble_eq_true rfl)) dX12_said_42 ⟨Nat.le_of_ble_eq_true rfl, Nat.le_of_ble_eq_true rfl⟩) hS (fun q _ h => MA.le hS.1 q h) (MA.le hS.1) (fun r11 x t H locs ht hvm hw hB _ _ hS => ?_)
      have hP := mB.at ht hB
      clear hB ht hvm
      obtain ⟨rfl, hw⟩ := hw
      have hP : va_P (dC, dI) vwCl (mw ar cy st1 sl) _ := hP
      rcases hw with rfl | rfl
      · refine lv_if_ne (tgt := 51) hx hb dX12_said_45 (by decide) (fun _ => ?_) (fun cc => absurd cc (by decide))
        refine lv_iload_n hx hb dX12_said_51 rfl (lv_at hl 1 rfl) ?_
        refine lv_iload_n hx hb dX12_said_52 rfl (lv_at hl 3 rfl) ?_
        refine lv_icmp_ne (tgt := 58) hx hb dX12_said_53 (by decide) (fun c5 => ?_) (fun c5 => ?_)
        · obtain ⟨z12, ez12⟩ : ∃ y : Int32, y = z5 + 1 := ⟨_, rfl⟩
          refine lv_iinc (v := z12) (lv' := [(2, .int z12), (3, .int (nI k4)), (0, .ref (ar 0)), (1, .int va)]) hx hb dX12_said_58 hl (k := 1) rfl (by rw [ez12]; rfl) (by decide) rfl (fun ls hl => ?_)
          refine lv_iinc (v := (nI (k4 + 1))) (lv' := [(3, .int (nI (k4 + 1))), (2, .int z12), (0, .ref (ar 0)), (1, .int va)]) hx hb dX12_said_61 hl (k := 1) rfl (nI_add k4 1) (by decide) rfl (fun ls hl => ?_)
          refine lv_goto (tgt := 22) hx hb dX12_said_64 (by decide) ?_
          exact ih8 (9 - (k4 + 1)) _ _ _ _ (by omega) ⟨(k4 + 1), z12, rfl, by omega, by omega, hP, hS, lv_sub hl [0, 1, 2, 3] rfl, rfl⟩
        · refine lv_iload_n hx hb dX12_said_56 rfl (lv_at hl 0 rfl) ?_
          exact W.iret (v := (nI k4)) hx hb hr (fun t ht hW => ⟨⟨(nI k4), (st1, sl), rfl, ⟨hG, hL, trivial⟩, mB.of ht hP⟩, hS.F ht⟩) hS.2.2 dX12_said_57
      · refine lv_if_ne (tgt := 51) hx hb dX12_said_45 (by decide) (fun cc => absurd (by decide) cc) (fun _ => ?_)
        refine lv_goto (tgt := 61) hx hb dX12_said_48 (by decide) ?_
        refine lv_iinc (v := (nI (k4 + 1))) (lv' := [(3, .int (nI (k4 + 1))), (2, .int z5), (0, .ref (ar 0)), (1, .int va)]) hx hb dX12_said_61 hl (k := 0) rfl (nI_add k4 1) (by decide) rfl (fun ls hl => ?_)
        refine lv_goto (tgt := 22) hx hb dX12_said_64 (by decide) ?_
        exact ih8 (9 - (k4 + 1)) _ _ _ _ (by omega) ⟨(k4 + 1), z5, rfl, by omega, by omega, hP, hS, lv_sub hl [0, 1, 2, 3] rfl, rfl⟩
  · refine lv_iconst (v := (-1)) hx hb dX12_said_16 (by decide) ?_
    exact W.iret (v := (-1)) hx hb hr (fun t ht hW => ⟨⟨(-1), (st1, sl), rfl, ⟨hG, hL, trivial⟩, mB.of ht hP⟩, hS.F ht⟩) hS.2.2 dX12_said_17
set_option maxHeartbeats 4000000 in
set_option maxRecDepth 100000 in
theorem m_image (l : Launch) (dC : Nat → ClassId) (dI : Nat → Nat → Nat) (ar : Nat → Nat) (cy : Nat → ClassId) (sz : Nat) (hN : MN ar) (st : Nat → Nat → Int32) (sl : Nat → Nat → Int64) (va : Int32) (hI : MI st) : Met l yX12_image wsX12_image ({ frames := 1, cells := 0, slots := 0, locals := 22 }) (va_Pc [.ref (ar 0), .int va] (mPre dC dI ar cy sz st sl)) (va_Qi (fun (r : Int32) (x : MT) => MG [1, 3, 4, 5, 6, 8, 9, 10, 11, 12, 13, 14, 15, 16, 17, 19, 20, 21, 23] st x.1 ∧ LQ [7] sl x.2 ∧ ((∃ n : Nat, r = 1 ∧ va = nI n ∧ n < 2 ∧ x.1 10 n = 1 ∧ (∀ j, ¬ j = n → x.1 10 j = st 10 j) ∧ (NKn st → NKk st → NKk x.1) ∧ (∀ a, a < 3 → x.1 4 (373 * n + a) = st 2 a) ∧ (∀ k, k < 2 → ¬ k = n → ∀ a, a < 3 → x.1 4 (373 * k + a) = st 4 (373 * k + a)) ∧ (∀ j, j < 19 → x.2 9 (19 * n + j) = sl 7 j) ∧ (∀ j, ¬ (19 * n ≤ j ∧ j < 19 * n + 19) → x.2 9 j = sl 9 j)) ∨ (r = 0 ∧ (¬ ∃ n, n < 2 ∧ va = nI n) ∧ (∀ j, x.1 10 j = st 10 j) ∧ (NKk st → NKk x.1) ∧ (∀ k, k < 2 → ∀ a, a < 3 → x.1 4 (373 * k + a) = st 4 (373 * k + a)) ∧ (∀ j, x.2 9 j = sl 9 j)))) (mB dC dI ar cy) (MA ar sz)) 0 0 (MA ar sz) := by
  refine Met.ofW (cc := cX12_image) (maxL := 3) (ret := (some .boolean)) (by decide) rfl ?_
  intro p e s m args below meth c s₁ B hml hv
  obtain ⟨rfl, hsz, hP, hK⟩ := hv
  have hx := B.exec
  have hb := B.bytes
  have hr := B.returns
  have hts := atoms_spec (ws := wsX12_image) B.pre
  have hown : s.vm.findClass RX12 = some m.cls := findClass_of_methodNamed B.named
  subst hsz
  have hS : va_S (MA ar s.heap.size) s.heap s.heap [] := va_S.rf
  have hG : MG [1, 3, 4, 5, 6, 8, 9, 10, 11, 12, 13, 14, 15, 16, 17, 19, 20, 21, 23] st st := MG.rf hI
  have hl := lv_entry ([.ref (ar 0), .int va]) (n := 3) (Nat.le_of_ble_eq_true rfl)
  rw [lg_entry_eq]
  generalize (lg_sl ([.ref (ar 0), .int va]) ++ List.replicate (3 - (lg_sl ([.ref (ar 0), .int va])).length) Slot.unset).toArray = ls at hl ⊢
  have hl : lv_has ls 3 [(0, .ref (ar 0)), (1, .int va)] := hl
  clear hI
  have hGx6 : MG [6] st st := MG.rf hG.1
  have hGx7 : MG [7] st st := MG.rf hG.1
  have hGx2 : MG [2] st st := MG.rf hG.1
  have hGx22 : MG [22] st st := MG.rf hG.1
  have hL : LQ [7] sl sl := LQ.rf
  refine lv_aload_n hx hb dX12_image_0 rfl (lv_at hl 0 rfl) ?_
  refine lv_iconst (v := 0) hx hb dX12_image_1 (by decide) ?_
  refine va_put (D := (dC, dI)) (ci := 11) (v := .int 0) (ty := .int) (C := RX12) (T := TX12) (N := 47) hx hb hts ii_X12_image tyX12 tyX12_ok nmX12 hown hK hP (mD hN _ _ _ _) hS 0 rfl rfl 0 (by decide) (hts _ mm_X12_image_1) (fun _ hh => hh) rfl (by decide +kernel) rfl rfl (Nat.le_of_ble_eq_true rfl) dX12_image_2 (fun H locs hP _ hS => ?_)
  have hP : va_P (dC, dI) vwCl (mw ar cy (up2 st 0 0 0) sl) H := hP
  obtain ⟨st1, est1⟩ : ∃ y, y = up2 st 0 0 0 := ⟨_, rfl⟩
  have hG : MG [1, 3, 4, 5, 6, 8, 9, 10, 11, 12, 13, 14, 15, 16, 17, 19, 20, 21, 23] st st1 := by rw [est1]; exact hG.up (rz (by decide : mr 0 0 = 0)) (pn (by decide : pcl 0 0 = 0) (by decide))
  have hG2 : MG [6] st st1 := by rw [est1]; exact hGx6.up (rz (by decide : mr 0 0 = 0)) (pn (by decide : pcl 0 0 = 0) (by decide))
  have hG3 : MG [7] st st1 := by rw [est1]; exact hGx7.up (rz (by decide : mr 0 0 = 0)) (pn (by decide : pcl 0 0 = 0) (by decide))
  have hG4 : MG [2] st st1 := by rw [est1]; exact hGx2.up (rz (by decide : mr 0 0 = 0)) (pn (by decide : pcl 0 0 = 0) (by decide))
  have hG5 : MG [22] st st1 := by rw [est1]; exact hGx22.up (rz (by decide : mr 0 0 = 0)) (pn (by decide : pcl 0 0 = 0) (by decide))
  rw [← est1] at hP
  refine lv_iload_n hx hb dX12_image_5 rfl (lv_at hl 1 rfl) ?_
  refine lv_iconst (v := 0) hx hb dX12_image_6 (by decide) ?_
  refine lv_iconst (v := 1) hx hb dX12_image_7 (by decide) ?_
  refine va_calli (va_runS (As := [.int va, .int 0, .int 1]) (rest := []) ⟨hx, hb, hml, hown, hts⟩ (m_isInX l dC dI ar cy _ hN st1 sl va 0 1  hG.1) (va_cwS 3 hts gX12_image_X12_isIn rfl rfl rfl (by decide +kernel) ⟨Nat.le_of_ble_eq_true rfl, Nat.le_of_ble_eq_true rfl⟩) ⟨fun a U g mk q => ⟨q.1, mPre.blind q.2⟩, fun U hU hW => ⟨rfl, mPre.of hP hK hU hW⟩⟩ rfl rfl hl.1 rfl (lv_room (Nat.le_of_ble_eq_true rfl)) dX12_image_8 ⟨Nat.le_of_ble_eq_true rfl, Nat.le_of_ble_eq_true rfl⟩) hS (fun q _ h => MA.le hS.1 q h) (MA.le hS.1) (fun r6 x t H locs ht hvm hw hB _ _ hS => ?_)
  have hP := mB.at ht hB
  clear hB ht hvm
  obtain ⟨rfl, hw⟩ := hw
  have hP : va_P (dC, dI) vwCl (mw ar cy st1 sl) _ := hP
  rcases hw with ⟨rfl, hf7, hf8⟩ | ⟨rfl, hf9⟩
  · obtain ⟨n10, hn10a, hn10b, rfl⟩ := zz_rng (a := 0) (b := 1) (by omega) hf7 (by omega) hf8
    refine lv_if_ne (tgt := 16) hx hb dX12_image_11 (by decide) (fun _ => ?_) (fun cc => absurd cc (by decide))
    refine lv_iconst (v := 0) hx hb dX12_image_16 (by decide) ?_
    refine lv_istore_n (lv' := [(2, .int 0), (0, .ref (ar 0)), (1, .int (nI n10))]) hx hb dX12_image_17 rfl hl (by decide) rfl (fun ls hl => ?_)
    refine zz_wf (fun n stk H locs ls => ∃ k11 : Nat, ∃ st12 : Nat → Nat → Int32, n = 374 - k11 ∧ 0 ≤ k11 ∧ k11 < 374 ∧ (∀ j, j < k11 → st12 4 (373 * n10 + j) = st12 2 j) ∧ (∀ j, ¬ (373 * n10 ≤ j ∧ j < 373 * n10 + 373) → st12 4 j = st 4 j) ∧ va_P (dC, dI) vwCl (mw ar cy st12 sl) H ∧ MG [1, 3, 4, 5, 6, 8, 9, 10, 11, 12, 13, 14, 15, 16, 17, 19, 20, 21, 23] st st12 ∧ MG [6] st st12 ∧ MG [2] st st12 ∧ LQ [7] sl sl ∧ va_S (MA ar s.heap.size) s.heap H locs ∧ lv_has ls 3 [(2, .int (nI k11)), (0, .ref (ar 0)), (1, .int (nI n10))] ∧ stk = []) ?_ (374 - 0) _ _ _ _ ⟨0, st1, rfl, by omega, by omega, by intro jj hk; omega, fun jj hk => by rw [est1, up2_ne (r := 0) (k := 0) (a := 4) (j := jj) _ _ (by omega)], hP, hG, hG2, hG4, hL, hS, lv_sub hl [0, 1, 2] rfl, rfl⟩
    rintro nn stk H locs ls ⟨k11, st12, hm18, hv15_0, hv16_1, hv17_0, hv18_1, hP, hG, hG13, hG14, hL, hS, hl, rfl⟩ ih19
    refine lv_iload_n hx hb dX12_image_18 rfl (lv_at hl 0 rfl) ?_
    refine lv_sipush (v := 373) hx hb dX12_image_19 (by decide) ?_
    refine lv_icmp_ge (tgt := 49) hx hb dX12_image_22 (by decide) (fun c2 => ?_) (fun c2 => ?_)
    · have c2 : 373 ≤ k11 := (nI_leI (a := 373) (b := k11) (by omega) (by omega)).mp c2
      have hKK : NKn st → NKk st → NKk st12 := fun ha hb => NKk.put (n := n10) (by omega) (fun jj hk => hv17_0 jj (by omega)) hv18_1 (NKn.mg hG13 (by decide) ha) hb
      have hC1 : ∀ a, a < 3 → st12 4 (373 * n10 + a) = st 2 a := fun a ha => (hv17_0 a (by omega)).trans (hG.2 2 a (by rw [pcl2c ha]; decide))
      have hC2 : ∀ k, k < 2 → ¬ k = n10 → ∀ a, a < 3 → st12 4 (373 * k + a) = st 4 (373 * k + a) := fun k h1 h2 a ha => hv18_1 _ (by omega)
      refine lv_iconst (v := 0) hx hb dX12_image_49 (by decide) ?_
      refine lv_istore_n (lv' := [(2, .int 0), (0, .ref (ar 0)), (1, .int (nI n10))]) hx hb dX12_image_50 rfl hl (by decide) rfl (fun ls hl => ?_)
      refine zz_wf (fun n stk H locs ls => ∃ k20 : Nat, ∃ st21 : Nat → Nat → Int32, ∃ sl22 : Nat → Nat → Int64, n = 20 - k20 ∧ 0 ≤ k20 ∧ k20 < 20 ∧ (∀ j, j < k20 → sl22 9 (19 * n10 + j) = sl 7 j) ∧ (∀ j, ¬ (19 * n10 ≤ j ∧ j < 19 * n10 + 19) → sl22 9 j = sl 9 j) ∧ va_P (dC, dI) vwCl (mw ar cy st21 sl22) H ∧ MG [1, 3, 4, 5, 6, 8, 9, 10, 11, 12, 13, 14, 15, 16, 17, 19, 20, 21, 23] st st21 ∧ MG [6] st st21 ∧ MG [2] st st21 ∧ MG [6, 7, 21, 22] st12 st21 ∧ LQ [7] sl sl22 ∧ va_S (MA ar s.heap.size) s.heap H locs ∧ lv_has ls 3 [(2, .int (nI k20)), (0, .ref (ar 0)), (1, .int (nI n10))] ∧ stk = []) ?_ (20 - 0) _ _ _ _ ⟨0, st12, sl, rfl, by omega, by omega, by intro jj hk; omega, fun _ _ => rfl, hP, hG, hG13, hG14, MG.rf hG.1, hL, hS, lv_sub hl [0, 1, 2] rfl, rfl⟩
      rintro nn stk H locs ls ⟨k20, st21, sl22, hm29, hv26_0, hv27_1, hv28_0, hv29_1, hP, hG, hG23, hG24, hG25, hL, hS, hl, rfl⟩ ih30
      refine lv_iload_n hx hb dX12_image_51 rfl (lv_at hl 0 rfl) ?_
      refine lv_bipush (v := 19) hx hb dX12_image_52 (by decide) ?_
      refine lv_icmp_ge (tgt := 80) hx hb dX12_image_54 (by decide) (fun c3 => ?_) (fun c3 => ?_)
      · have c3 : 19 ≤ k20 := (nI_leI (a := 19) (b := k20) (by omega) (by omega)).mp c3
        refine lv_aload_n hx hb dX12_image_80 rfl (lv_at hl 1 rfl) ?_
        refine va_get (D := (dC, dI)) (ci := 11) (v := .ref (ar 10)) (C := RX12) (T := TX12) (N := 47) hx hb hts ii_X12_image hown hK hP 0 rfl rfl 22 (by decide) (hts _ mm_X12_image_6) (fun _ hh => hh) rfl dX12_image_81 ?_
        refine lv_iload_n hx hb dX12_image_84 rfl (lv_at hl 2 rfl) ?_
        refine lv_iconst (v := 1) hx hb dX12_image_85 (by decide) ?_
        refine va_zast hx hb hK hP (mD hN _ _ _ _) hS 10 9 rfl rfl (i := (nI n10)) (vp_in_nI (by omega) (by decide)) dX12_image_86 (fun H locs hP _ hS => ?_)
        rw [nI_clamp (by omega)] at hP
        have hP : va_P (dC, dI) vwCl (mw ar cy (up2 st21 10 n10 1) sl22) H := hP
        obtain ⟨st31, est31⟩ : ∃ y, y = up2 st21 10 n10 1 := ⟨_, rfl⟩
        have hG : MG [1, 3, 4, 5, 6, 8, 9, 10, 11, 12, 13, 14, 15, 16, 17, 19, 20, 21, 23] st st31 := by rw [est31]; exact hG.up (rz (mr_10_0_2 n10 (by omega) (by omega))) (pn (pcl_10_0_2 n10 (by omega) (by omega)) (by decide))
        have hG32 : MG [6] st st31 := by rw [est31]; exact hG23.up (rz (mr_10_0_2 n10 (by omega) (by omega))) (pn (pcl_10_0_2 n10 (by omega) (by omega)) (by decide))
        have hG33 : MG [6, 7, 21, 22] st12 st31 := by rw [est31]; exact hG25.up (rz (mr_10_0_2 n10 (by omega) (by omega))) (pn (pcl_10_0_2 n10 (by omega) (by omega)) (by decide))
        rw [← est31] at hP
        refine lv_iconst (v := 1) hx hb dX12_image_87 (by decide) ?_
        exact W.zret (v := 1) hx hb hr rfl (fun t ht hW => ⟨⟨1, (st31, sl22), rfl, ⟨hG, hL, Or.inl ⟨n10, rfl, rfl, by omega, by show st31 10 n10 = 1; rw [est31, up2_same], fun jj hk => by show st31 10 jj = st 10 jj; rw [est31, up2_ne (r := 10) (k := n10) (a := 10) (j := jj) _ _ (by omega)]; exact hG24.2 10 jj (show (2 : Nat) ∈ _ by decide), fun ha hb => NKk.mg hG33 (by decide) (hKK ha hb), fun a9 h9 => (hG33.2 4 _ (by rw [pcl4c h9]; decide)).trans (hC1 a9 h9), fun k9 h7 h8 a9 h9 => (hG33.2 4 _ (by rw [pcl4c h9]; decide)).trans (hC2 k9 h7 h8 a9 h9), fun jj hk => hv28_0 jj (by omega), hv29_1⟩⟩, mB.of ht hP⟩, hS.F ht⟩) hS.2.2 dX12_image_88
      · have c3 : ¬ 19 ≤ k20 := fun hh => c3 ((nI_leI (a := 19) (b := k20) (by omega) (by omega)).mpr hh)
        refine lv_aload_n hx hb dX12_image_57 rfl (lv_at hl 1 rfl) ?_
        refine va_get (D := (dC, dI)) (ci := 11) (v := .ref (ar 9)) (C := RX12) (T := TX12) (N := 47) hx hb hts ii_X12_image hown hK hP 0 rfl rfl 21 (by decide) (hts _ mm_X12_image_4) (fun _ hh => hh) rfl dX12_image_58 ?_
        refine lv_bipush (v := 19) hx hb dX12_image_61 (by decide) ?_
        refine lv_iload_n hx hb dX12_image_63 rfl (lv_at hl 2 rfl) ?_
        refine lv_imul hx hb dX12_image_64 ?_
        refine zz_top (v := nI (19 * n10)) (nI_mul 19 n10) ?_
        refine lv_iload_n hx hb dX12_image_65 rfl (lv_at hl 0 rfl) ?_
        refine lv_iadd hx hb dX12_image_66 ?_
        refine zz_top (v := nI ((19 * n10) + k20)) (nI_add (19 * n10) k20) ?_
        refine lv_aload_n hx hb dX12_image_67 rfl (lv_at hl 1 rfl) ?_
        refine va_get (D := (dC, dI)) (ci := 11) (v := .ref (ar 7)) (C := RX12) (T := TX12) (N := 47) hx hb hts ii_X12_image hown hK hP 0 rfl rfl 19 (by decide) (hts _ mm_X12_image_5) (fun _ hh => hh) rfl dX12_image_68 ?_
        refine lv_iload_n hx hb dX12_image_71 rfl (lv_at hl 0 rfl) ?_
        refine va_lald hx hb hK hP 7 6 rfl rfl (i := (nI k20)) (vp_in_nI (by omega) (by decide)) dX12_image_72 ?_
        refine zz_topl (v := sl22 7 k20) (by rw [nI_clamp (by omega)]) ?_
        refine va_last hx hb hK hP (mD hN _ _ _ _) hS 9 8 rfl rfl (i := (nI ((19 * n10) + k20))) (vp_in_nI (by omega) (by decide)) dX12_image_73 (fun H locs hP _ hS => ?_)
        rw [nI_clamp (by omega)] at hP
        have hP : va_P (dC, dI) vwCl (mw ar cy st21 (upL sl22 9 ((19 * n10) + k20) (sl22 7 k20))) H := hP
        obtain ⟨sl34, esl34⟩ : ∃ y, y = upL sl22 9 ((19 * n10) + k20) (sl22 7 k20) := ⟨_, rfl⟩
        rw [← esl34] at hP
        have hL : LQ [7] sl sl34 := by rw [esl34]; exact hL.up (by decide)
        refine lv_iinc (v := (nI (k20 + 1))) (lv' := [(2, .int (nI (k20 + 1))), (0, .ref (ar 0)), (1, .int (nI n10))]) hx hb dX12_image_74 hl (k := 0) rfl (nI_add k20 1) (by decide) rfl (fun ls hl => ?_)
        refine lv_goto (tgt := 51) hx hb dX12_image_77 (by decide) ?_
        exact ih30 (20 - (k20 + 1)) _ _ _ _ (by omega) ⟨(k20 + 1), st21, sl34, rfl, by omega, by omega, by intro jj hk; by_cases ee : jj = k20; (rw [ee, esl34, upL_same]; have hq := hL 7 (by decide) k20; rw [esl34, upL_ne (r := 9) (k := ((19 * n10) + k20)) (a := 7) (j := k20) _ _ (by omega)] at hq; exact hq); (rw [esl34, upL_ne (r := 9) (k := ((19 * n10) + k20)) (a := 9) (j := 19 * n10 + jj) _ _ (by omega)]; exact hv28_0 jj (by omega)), by intro jj hk; rw [esl34, upL_ne (r := 9) (k := ((19 * n10) + k20)) (a := 9) (j := jj) _ _ (by omega)]; exact hv29_1 jj hk, hP, hG, hG23, hG24, hG25, hL, hS, lv_sub hl [0, 1, 2] rfl, rfl⟩
    · have c2 : ¬ 373 ≤ k11 := fun hh => c2 ((nI_leI (a := 373) (b := k11) (by omega) (by omega)).mpr hh)
      refine lv_aload_n hx hb dX12_image_25 rfl (lv_at hl 1 rfl) ?_
      refine va_get (D := (dC, dI)) (ci := 11) (v := .ref (ar 4)) (C := RX12) (T := TX12) (N := 47) hx hb hts ii_X12_image hown hK hP 0 rfl rfl 16 (by decide) (hts _ mm_X12_image_2) (fun _ hh => hh) rfl dX12_image_26 ?_
      refine lv_sipush (v := 373) hx hb dX12_image_29 (by decide) ?_
      refine lv_iload_n hx hb dX12_image_32 rfl (lv_at hl 2 rfl) ?_
      refine lv_imul hx hb dX12_image_33 ?_
      refine zz_top (v := nI (373 * n10)) (nI_mul 373 n10) ?_
      refine lv_iload_n hx hb dX12_image_34 rfl (lv_at hl 0 rfl) ?_
      refine lv_iadd hx hb dX12_image_35 ?_
      refine zz_top (v := nI ((373 * n10) + k11)) (nI_add (373 * n10) k11) ?_
      refine lv_aload_n hx hb dX12_image_36 rfl (lv_at hl 1 rfl) ?_
      refine va_get (D := (dC, dI)) (ci := 11) (v := .ref (ar 2)) (C := RX12) (T := TX12) (N := 47) hx hb hts ii_X12_image hown hK hP 0 rfl rfl 14 (by decide) (hts _ mm_X12_image_3) (fun _ hh => hh) rfl dX12_image_37 ?_
      refine lv_iload_n hx hb dX12_image_40 rfl (lv_at hl 0 rfl) ?_
      refine va_iald hx hb hK hP 2 1 rfl rfl (i := (nI k11)) (vp_in_nI (by omega) (by decide)) dX12_image_41 ?_
      refine zz_top (v := st12 2 k11) (by rw [nI_clamp (by omega)]) ?_
      have hIst12 := hG.1
      refine va_iast hx hb hK hP (mD hN _ _ _ _) hS 4 3 rfl rfl (i := (nI ((373 * n10) + k11))) (vp_in_nI (by omega) (by decide)) dX12_image_42 (fun H locs hP _ hS => ?_)
      rw [nI_clamp (by omega)] at hP
      have hP : va_P (dC, dI) vwCl (mw ar cy (up2 st12 4 ((373 * n10) + k11) (st12 2 k11)) sl) H := hP
      obtain ⟨st35, est35⟩ : ∃ y, y = up2 st12 4 ((373 * n10) + k11) (st12 2 k11) := ⟨_, rfl⟩
      have hG : MG [1, 3, 4, 5, 6, 8, 9, 10, 11, 12, 13, 14, 15, 16, 17, 19, 20, 21, 23] st st35 := by rw [est35]; exact hG.up (rc hIst12 (mr4 _ _ (by omega))) (pns_4_0_746_1_3_4_5_6_8_9_10_11_12_13_14_15_16_17_19_20_21_23 ((373 * n10) + k11) (by omega) (by omega))
      have hG36 : MG [6] st st35 := by rw [est35]; exact hG13.up (rc hIst12 (mr4 _ _ (by omega))) (pns_4_0_746_6 ((373 * n10) + k11) (by omega) (by omega))
      have hG37 : MG [2] st st35 := by rw [est35]; exact hG14.up (rc hIst12 (mr4 _ _ (by omega))) (pns_4_0_746_2 ((373 * n10) + k11) (by omega) (by omega))
      rw [← est35] at hP
      refine lv_iinc (v := (nI (k11 + 1))) (lv' := [(2, .int (nI (k11 + 1))), (0, .ref (ar 0)), (1, .int (nI n10))]) hx hb dX12_image_43 hl (k := 0) rfl (nI_add k11 1) (by decide) rfl (fun ls hl => ?_)
      refine lv_goto (tgt := 18) hx hb dX12_image_46 (by decide) ?_
      exact ih19 (374 - (k11 + 1)) _ _ _ _ (by omega) ⟨(k11 + 1), st35, rfl, by omega, by omega, by intro jj hk; show st35 4 (373 * n10 + jj) = st35 2 jj; rw [est35, up2_ne (r := 4) (k := ((373 * n10) + k11)) (a := 2) (j := jj) _ _ (by omega)]; by_cases ee : jj = k11; (rw [ee, up2_same]); (rw [up2_ne (r := 4) (k := ((373 * n10) + k11)) (a := 4) (j := 373 * n10 + jj) _ _ (by omega)]; exact hv17_0 jj (by omega)), by intro jj hk; rw [est35, up2_ne (r := 4) (k := ((373 * n10) + k11)) (a := 4) (j := jj) _ _ (by omega)]; exact hv18_1 jj hk, hP, hG, hG36, hG37, hL, hS, lv_sub hl [0, 1, 2] rfl, rfl⟩
  · refine lv_if_ne (tgt := 16) hx hb dX12_image_11 (by decide) (fun cc => absurd (by decide) cc) (fun _ => ?_)
    refine lv_iconst (v := 0) hx hb dX12_image_14 (by decide) ?_
    exact W.zret (v := 0) hx hb hr rfl (fun t ht hW => ⟨⟨0, (st1, sl), rfl, ⟨hG, hL, Or.inr ⟨rfl, noidx hf9, fun jj => hG4.2 10 jj (show (2 : Nat) ∈ _ by decide), fun hh => NKk.mg hG3 (by decide) hh, fun k9 _ a9 h9 => hG5.2 4 _ (by rw [pcl4c h9]; decide), fun _ => rfl⟩⟩, mB.of ht hP⟩, hS.F ht⟩) hS.2.2 dX12_image_15
