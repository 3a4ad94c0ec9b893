set_option maxHeartbeats 4000000 in
set_option maxRecDepth 100000 in
theorem m_readDog (l : Launch) (dC : Nat → ClassId) (dI : Nat → Nat → Nat) (ar : Nat → Nat) (cy : Nat → ClassId) (sz : Nat) (hN : MN ar) (st : Nat → Nat → Int32) (sl : Nat → Nat → Int64) (ga gb : Nat) (hI : MI st) (hT : TS st ga gb) : Met l yX12_readDog wsX12_readDog ({ frames := 4, cells := 0, slots := 0, locals := 91 }) (va_Pc [.ref (ar 0)] (mPre dC dI ar cy sz st sl)) (va_Qi (fun (r : Int32) (x : MT) => MG [1, 2, 3, 6, 7, 8, 9, 10, 11, 12, 13, 14, 15, 20, 21, 22] st x.1 ∧ LQ [7, 9] sl x.2 ∧ ((∃ g : Nat, r = 1 ∧ TS x.1 g gb ∧ ga ≤ g ∧ (x.1 0 7 = 4 → ga < g)) ∨ (r = 0))) (mB dC dI ar cy) (MA ar sz)) 0 0 (MA ar sz) := by
  refine Met.ofW (cc := cX12_readDog) (maxL := 2) (ret := (some .boolean)) (by decide) rfl ?_
  intro p e s m args below meth c s₁ B hml hv
  obtain ⟨rfl, hsz, hP, hK⟩ := hv
  have hx := B.exec
  have hb := B.bytes
  have hr := B.returns
  have hts := atoms_spec (ws := wsX12_readDog) B.pre
  have hown : s.vm.findClass RX12 = some m.cls := findClass_of_methodNamed B.named
  subst hsz
  have hS : va_S (MA ar s.heap.size) s.heap s.heap [] := va_S.rf
  have hG : MG [1, 2, 3, 6, 7, 8, 9, 10, 11, 12, 13, 14, 15, 20, 21, 22] st st := MG.rf hI
  have hl := lv_entry ([.ref (ar 0)]) (n := 2) (Nat.le_of_ble_eq_true rfl)
  rw [lg_entry_eq]
  generalize (lg_sl ([.ref (ar 0)]) ++ List.replicate (2 - (lg_sl ([.ref (ar 0)])).length) Slot.unset).toArray = ls at hl ⊢
  have hl : lv_has ls 2 [(0, .ref (ar 0))] := hl
  clear hI
  have hL : LQ [7, 9] sl sl := LQ.rf
  have hTc := hT.2.2.1
  have hTd := hT.2.2.2
  have hga : ga ≤ ga := Nat.le_refl ga
  refine lv_aload_n hx hb dX12_readDog_0 rfl (lv_at hl 0 rfl) ?_
  refine lv_iconst (v := 2) hx hb dX12_readDog_1 (by decide) ?_
  refine lv_bipush (v := 6) hx hb dX12_readDog_2 (by decide) ?_
  refine va_calli (va_runV (As := [.int 2, .int 6]) (rest := []) ⟨hx, hb, hml, hown, hts⟩ (m_readFirst2 l dC dI ar cy _ hN st sl ga gb  hG.1 ((⟨by rw [hT.1], by rw [hT.2.1], by omega, by omega⟩ : TS st ga gb))) (cwV 2 hts gX12_readDog_X12_readFirst rfl rfl rfl (by decide +kernel) ⟨Nat.le_of_ble_eq_true rfl, Nat.le_of_ble_eq_true rfl⟩) ⟨fun a U g mk q => ⟨q.1, mPre.blind q.2⟩, va_recv hK hP (ci := 11) (q0 := 0) rfl rfl, fun U hU hW => ⟨rfl, mPre.of hP hK hU hW⟩⟩ rfl rfl hl.1 rfl (lv_room (Nat.le_of_ble_eq_true rfl)) dX12_readDog_4 ⟨Nat.le_of_ble_eq_true rfl, Nat.le_of_ble_eq_true rfl⟩) hS (fun q _ h => MA.le hS.1 q h) (MA.le hS.1) (fun r1 x t H locs ht hvm hw hB _ _ hS => ?_)
  have hP := mB.at ht hB
  clear hB ht hvm
  obtain ⟨st2, sl3⟩ := x
  obtain ⟨hG2, hL2, hw⟩ := hw
  have hL : LQ [7, 9] sl sl3 := hL.tr hL2 (by decide)
  clear hL2
  dsimp only at hw
  have hP : va_P (dC, dI) vwCl (mw ar cy st2 sl3) _ := hP
  have hG : MG [1, 2, 3, 6, 7, 8, 9, 10, 11, 12, 13, 14, 15, 20, 21, 22] st st2 := hG.tr hG2 (by decide)
  have hGst2 : MG [1, 2, 3, 6, 7, 8, 9, 10, 11, 12, 13, 14, 15, 19, 20, 21, 22] st st2 := hG2
  clear hG2
  rcases hw with ⟨n4, n5, rfl, hf6, hf7, hf8, hf9, hf10⟩ | rfl
  · have hf6c := hf6.2.2.1
    have hf6d := hf6.2.2.2
    refine lv_if_ne (tgt := 12) hx hb dX12_readDog_7 (by decide) (fun _ => ?_) (fun cc => absurd cc (by decide))
    refine lv_aload_n hx hb dX12_readDog_12 rfl (lv_at hl 0 rfl) ?_
    refine va_get (D := (dC, dI)) (ci := 11) (v := .ref (ar 3)) (C := RX12) (T := TX12) (N := 47) hx hb hts ii_X12_readDog hown hK hP 0 rfl rfl 15 (by decide) (hts _ mm_X12_readDog_1) (fun _ hh => hh) rfl dX12_readDog_13 ?_
    refine lv_iconst (v := 2) hx hb dX12_readDog_16 (by decide) ?_
    refine va_iald hx hb hK hP 3 2 rfl rfl (i := 2) (zz_in (by decide)) dX12_readDog_17 ?_
    refine zz_top (v := (nI n5)) (by show st2 3 2 = _; rw [hf9]) ?_
    refine lv_istore_n (lv' := [(1, .int (nI n5)), (0, .ref (ar 0))]) hx hb dX12_readDog_18 rfl hl (by decide) rfl (fun ls hl => ?_)
    refine lv_aload_n hx hb dX12_readDog_19 rfl (lv_at hl 1 rfl) ?_
    refine lv_bipush (v := 13) hx hb dX12_readDog_20 (by decide) ?_
    refine lv_iload_n hx hb dX12_readDog_22 rfl (lv_at hl 0 rfl) ?_
    refine lv_iadd hx hb dX12_readDog_23 ?_
    refine zz_top (v := nI (13 + n5)) (nI_add 13 n5) ?_
    refine va_calli (va_runV (As := [.int (nI (13 + n5))]) (rest := []) ⟨hx, hb, hml, hown, hts⟩ (m_readNew l dC dI ar cy _ hN st2 sl3 (13 + n5) n4 gb (by omega) hG.1 ((⟨by rw [hf6.1], by rw [hf6.2.1], by omega, by omega⟩ : TS st2 n4 gb))) (cwV 1 hts gX12_readDog_X12_readNew rfl rfl rfl (by decide +kernel) ⟨Nat.le_of_ble_eq_true rfl, Nat.le_of_ble_eq_true rfl⟩) ⟨fun a U g mk q => ⟨q.1, mPre.blind q.2⟩, va_recv hK hP (ci := 11) (q0 := 0) rfl rfl, fun U hU hW => ⟨rfl, mPre.of hP hK hU hW⟩⟩ rfl rfl hl.1 rfl (lv_room (Nat.le_of_ble_eq_true rfl)) dX12_readDog_24 ⟨Nat.le_of_ble_eq_true rfl, Nat.le_of_ble_eq_true rfl⟩) hS (fun q _ h => MA.le hS.1 q h) (MA.le hS.1) (fun r11 x t H locs ht hvm hw hB _ _ hS => ?_)
    have hP := mB.at ht hB
    clear hB ht hvm
    obtain ⟨st12, sl13⟩ := x
    obtain ⟨hG2, hL2, hw⟩ := hw
    have hL : LQ [7, 9] sl sl13 := hL.tr hL2 (by decide)
    clear hL2
    dsimp only at hw
    have hP : va_P (dC, dI) vwCl (mw ar cy st12 sl13) _ := hP
    have hG : MG [1, 2, 3, 6, 7, 8, 9, 10, 11, 12, 13, 14, 15, 20, 21, 22] st st12 := hG.tr hG2 (by decide)
    have hGst12 : MG [1, 2, 3, 6, 7, 8, 9, 10, 11, 12, 13, 14, 15, 19, 20, 21, 22] st2 st12 := hG2
    clear hG2
    rcases hw with ⟨n14, rfl, hf15, hf16, hf17⟩ | rfl
    · have hf15c := hf15.2.2.1
      have hf15d := hf15.2.2.2
      refine lv_if_eq (tgt := 52) hx hb dX12_readDog_27 (by decide) (fun cc => absurd cc (by decide)) (fun _ => ?_)
      refine lv_aload_n hx hb dX12_readDog_30 rfl (lv_at hl 1 rfl) ?_
      refine lv_bipush (v := 42) hx hb dX12_readDog_31 (by decide) ?_
      refine lv_iload_n hx hb dX12_readDog_33 rfl (lv_at hl 0 rfl) ?_
      refine lv_iadd hx hb dX12_readDog_34 ?_
      refine zz_top (v := nI (42 + n5)) (nI_add 42 n5) ?_
      refine lv_aload_n hx hb dX12_readDog_35 rfl (lv_at hl 1 rfl) ?_
      refine lv_iconst (v := 5) hx hb dX12_readDog_36 (by decide) ?_
      refine lv_aload_n hx hb dX12_readDog_37 rfl (lv_at hl 1 rfl) ?_
      refine va_get (D := (dC, dI)) (ci := 11) (v := .ref (ar 3)) (C := RX12) (T := TX12) (N := 47) hx hb hts ii_X12_readDog hown hK hP 0 rfl rfl 15 (by decide) (hts _ mm_X12_readDog_1) (fun _ hh => hh) rfl dX12_readDog_38 ?_
      refine lv_iconst (v := 1) hx hb dX12_readDog_41 (by decide) ?_
      refine va_iald hx hb hK hP 3 2 rfl rfl (i := 1) (zz_in (by decide)) dX12_readDog_42 ?_
      obtain ⟨n18, hn18, en18⟩ := hG.1.at (r := 3) (k := 1) (by decide : mr 3 1 = 9) (by decide)
      refine zz_top (v := nI n18) (by exact en18) ?_
      refine va_calli (va_runV (As := [.int 5, .int (nI n18)]) (rest := [.int (nI (42 + n5)), .ref (ar 0)]) ⟨hx, hb, hml, hown, hts⟩ (m_readOne5 l dC dI ar cy _ hN st12 sl13 n18 n14 gb (by omega) hG.1 ((⟨by rw [hf15.1], by rw [hf15.2.1], by omega, by omega⟩ : TS st12 n14 gb))) (cwV 2 hts gX12_readDog_X12_readOne rfl rfl rfl (by decide +kernel) ⟨Nat.le_of_ble_eq_true rfl, Nat.le_of_ble_eq_true rfl⟩) ⟨fun a U g mk q => ⟨q.1, mPre.blind q.2⟩, va_recv hK hP (ci := 11) (q0 := 0) rfl rfl, fun U hU hW => ⟨rfl, mPre.of hP hK hU hW⟩⟩ rfl rfl hl.1 rfl (lv_room (Nat.le_of_ble_eq_true rfl)) dX12_readDog_43 ⟨Nat.le_of_ble_eq_true rfl, Nat.le_of_ble_eq_true rfl⟩) hS (fun q _ h => MA.le hS.1 q h) (MA.le hS.1) (fun r19 x t H locs ht hvm hw hB _ _ hS => ?_)
      have hP := mB.at ht hB
      clear hB ht hvm
      obtain ⟨st20, sl21⟩ := x
      obtain ⟨hG2, hL2, hw⟩ := hw
      have hL : LQ [7, 9] sl sl21 := hL.tr hL2 (by decide)
      clear hL2
      dsimp only at hw
      have hP : va_P (dC, dI) vwCl (mw ar cy st20 sl21) _ := hP
      have hG : MG [1, 2, 3, 6, 7, 8, 9, 10, 11, 12, 13, 14, 15, 20, 21, 22] st st20 := hG.tr hG2 (by decide)
      have hGst20 : MG [1, 2, 3, 6, 7, 8, 9, 10, 11, 12, 13, 14, 15, 19, 20, 21, 22] st12 st20 := hG2
      clear hG2
      rcases hw with ⟨n22, n23, rfl, hf24, hf25, hf26, hf27, hf28⟩ | rfl
      · have hf24c := hf24.2.2.1
        have hf24d := hf24.2.2.2
        refine va_calli (va_runV (As := [.int (nI (42 + n5)), .int 1]) (rest := []) ⟨hx, hb, hml, hown, hts⟩ (m_put42 l dC dI ar cy _ hN st20 sl21 (42 + n5) (by omega) (by omega) hG.1 (⟨n23, by omega, by rw [hf27]⟩)) (cwV 2 hts gX12_readDog_X12_put rfl rfl rfl (by decide +kernel) ⟨Nat.le_of_ble_eq_true rfl, Nat.le_of_ble_eq_true rfl⟩) ⟨fun a U g mk q => ⟨q.1, mPre.blind q.2⟩, va_recv hK hP (ci := 11) (q0 := 0) rfl rfl, fun U hU hW => ⟨rfl, mPre.of hP hK hU hW⟩⟩ rfl rfl hl.1 rfl (lv_room (Nat.le_of_ble_eq_true rfl)) dX12_readDog_46 ⟨Nat.le_of_ble_eq_true rfl, Nat.le_of_ble_eq_true rfl⟩) hS (fun q _ h => MA.le hS.1 q h) (MA.le hS.1) (fun r29 x t H locs ht hvm hw hB _ _ hS => ?_)
        have hP := mB.at ht hB
        clear hB ht hvm
        obtain ⟨st30, sl31⟩ := x
        obtain ⟨hG2, hL2, hw⟩ := hw
        have hL : LQ [7, 9] sl sl31 := hL.tr hL2 (by decide)
        clear hL2
        have hP : va_P (dC, dI) vwCl (mw ar cy st30 sl31) _ := hP
        have hG : MG [1, 2, 3, 6, 7, 8, 9, 10, 11, 12, 13, 14, 15, 20, 21, 22] st st30 := hG.tr hG2 (by decide)
        have hGst30 : MG [1, 2, 3, 4, 5, 6, 7, 8, 9, 10, 11, 12, 13, 14, 15, 16, 17, 19, 20, 21, 22, 23] st20 st30 := hG2
        clear hG2
        obtain rfl := hw
        refine lv_if_ne (tgt := 54) hx hb dX12_readDog_49 (by decide) (fun _ => ?_) (fun cc => absurd cc (by decide))
        refine lv_aload_n hx hb dX12_readDog_54 rfl (lv_at hl 1 rfl) ?_
        refine lv_bipush (v := 48) hx hb dX12_readDog_55 (by decide) ?_
        refine lv_iload_n hx hb dX12_readDog_57 rfl (lv_at hl 0 rfl) ?_
        refine lv_iadd hx hb dX12_readDog_58 ?_
        refine zz_top (v := nI (48 + n5)) (nI_add 48 n5) ?_
        refine lv_aload_n hx hb dX12_readDog_59 rfl (lv_at hl 1 rfl) ?_
        refine lv_iconst (v := 0) hx hb dX12_readDog_60 (by decide) ?_
        refine lv_bipush (v := 12) hx hb dX12_readDog_61 (by decide) ?_
        refine va_calli (va_runV (As := [.int 0, .int 12]) (rest := [.int (nI (48 + n5)), .ref (ar 0)]) ⟨hx, hb, hml, hown, hts⟩ (m_readNumber l dC dI ar cy _ hN st30 sl31 0 12 n22 gb  hG.1 ((⟨by rw [hGst30.2 0 5 (by decide), hf24.1], by rw [hGst30.2 0 3 (by decide), hf24.2.1], by omega, by omega⟩ : TS st30 n22 gb))) (cwV 2 hts gX12_readDog_X12_readNumber rfl rfl rfl (by decide +kernel) ⟨Nat.le_of_ble_eq_true rfl, Nat.le_of_ble_eq_true rfl⟩) ⟨fun a U g mk q => ⟨q.1, mPre.blind q.2⟩, va_recv hK hP (ci := 11) (q0 := 0) rfl rfl, fun U hU hW => ⟨rfl, mPre.of hP hK hU hW⟩⟩ rfl rfl hl.1 rfl (lv_room (Nat.le_of_ble_eq_true rfl)) dX12_readDog_63 ⟨Nat.le_of_ble_eq_true rfl, Nat.le_of_ble_eq_true rfl⟩) hS (fun q _ h => MA.le hS.1 q h) (MA.le hS.1) (fun r32 x t H locs ht hvm hw hB _ _ hS => ?_)
        have hP := mB.at ht hB
        clear hB ht hvm
        obtain ⟨st33, sl34⟩ := x
        obtain ⟨hG2, hL2, hw⟩ := hw
        have hL : LQ [7, 9] sl sl34 := hL.tr hL2 (by decide)
        clear hL2
        dsimp only at hw
        have hP : va_P (dC, dI) vwCl (mw ar cy st33 sl34) _ := hP
        have hG : MG [1, 2, 3, 6, 7, 8, 9, 10, 11, 12, 13, 14, 15, 20, 21, 22] st st33 := hG.tr hG2 (by decide)
        have hGst33 : MG [1, 2, 3, 6, 7, 8, 9, 10, 11, 12, 13, 14, 15, 19, 20, 21, 22] st30 st33 := hG2
        clear hG2
        rcases hw with ⟨n35, z36, rfl, hf37, hf38, hf39, hf40, hf41, hf42⟩ | rfl
        · have hf37c := hf37.2.2.1
          have hf37d := hf37.2.2.2
          obtain ⟨n43, hn43a, hn43b, rfl⟩ := zz_rng (a := 0) (b := 12) (by omega) hf41 (by omega) hf42
          refine va_calli (va_runV (As := [.int (nI (48 + n5)), .int 1]) (rest := []) ⟨hx, hb, hml, hown, hts⟩ (m_put48 l dC dI ar cy _ hN st33 sl34 (48 + n5) (by omega) (by omega) hG.1 (⟨n43, by omega, by rw [hf40]⟩)) (cwV 2 hts gX12_readDog_X12_put rfl rfl rfl (by decide +kernel) ⟨Nat.le_of_ble_eq_true rfl, Nat.le_of_ble_eq_true rfl⟩) ⟨fun a U g mk q => ⟨q.1, mPre.blind q.2⟩, va_recv hK hP (ci := 11) (q0 := 0) rfl rfl, fun U hU hW => ⟨rfl, mPre.of hP hK hU hW⟩⟩ rfl rfl hl.1 rfl (lv_room (Nat.le_of_ble_eq_true rfl)) dX12_readDog_66 ⟨Nat.le_of_ble_eq_true rfl, Nat.le_of_ble_eq_true rfl⟩) hS (fun q _ h => MA.le hS.1 q h) (MA.le hS.1) (fun r44 x t H locs ht hvm hw hB _ _ hS => ?_)
          have hP := mB.at ht hB
          clear hB ht hvm
          obtain ⟨st45, sl46⟩ := x
          obtain ⟨hG2, hL2, hw⟩ := hw
          have hL : LQ [7, 9] sl sl46 := hL.tr hL2 (by decide)
          clear hL2
          have hP : va_P (dC, dI) vwCl (mw ar cy st45 sl46) _ := hP
          have hG : MG [1, 2, 3, 6, 7, 8, 9, 10, 11, 12, 13, 14, 15, 20, 21, 22] st st45 := hG.tr hG2 (by decide)
          have hGst45 : MG [1, 2, 3, 4, 5, 6, 7, 8, 9, 10, 11, 12, 13, 14, 15, 16, 17, 19, 20, 21, 22, 23] st33 st45 := hG2
          clear hG2
          obtain rfl := hw
          refine lv_if_eq (tgt := 90) hx hb dX12_readDog_69 (by decide) (fun cc => absurd cc (by decide)) (fun _ => ?_)
          refine lv_aload_n hx hb dX12_readDog_72 rfl (lv_at hl 1 rfl) ?_
          refine lv_bipush (v := 54) hx hb dX12_readDog_73 (by decide) ?_
          refine lv_iload_n hx hb dX12_readDog_75 rfl (lv_at hl 0 rfl) ?_
          refine lv_iadd hx hb dX12_readDog_76 ?_
          refine zz_top (v := nI (54 + n5)) (nI_add 54 n5) ?_
          refine lv_aload_n hx hb dX12_readDog_77 rfl (lv_at hl 1 rfl) ?_
          refine lv_iconst (v := 0) hx hb dX12_readDog_78 (by decide) ?_
          refine lv_bipush (v := 12) hx hb dX12_readDog_79 (by decide) ?_
          refine va_calli (va_runV (As := [.int 0, .int 12]) (rest := [.int (nI (54 + n5)), .ref (ar 0)]) ⟨hx, hb, hml, hown, hts⟩ (m_readNumber l dC dI ar cy _ hN st45 sl46 0 12 n35 gb  hG.1 ((⟨by rw [hGst45.2 0 5 (by decide), hf37.1], by rw [hGst45.2 0 3 (by decide), hf37.2.1], by omega, by omega⟩ : TS st45 n35 gb))) (cwV 2 hts gX12_readDog_X12_readNumber rfl rfl rfl (by decide +kernel) ⟨Nat.le_of_ble_eq_true rfl, Nat.le_of_ble_eq_true rfl⟩) ⟨fun a U g mk q => ⟨q.1, mPre.blind q.2⟩, va_recv hK hP (ci := 11) (q0 := 0) rfl rfl, fun U hU hW => ⟨rfl, mPre.of hP hK hU hW⟩⟩ rfl rfl hl.1 rfl (lv_room (Nat.le_of_ble_eq_true rfl)) dX12_readDog_81 ⟨Nat.le_of_ble_eq_true rfl, Nat.le_of_ble_eq_true rfl⟩) hS (fun q _ h => MA.le hS.1 q h) (MA.le hS.1) (fun r47 x t H locs ht hvm hw hB _ _ hS => ?_)
          have hP := mB.at ht hB
          clear hB ht hvm
          obtain ⟨st48, sl49⟩ := x
          obtain ⟨hG2, hL2, hw⟩ := hw
          have hL : LQ [7, 9] sl sl49 := hL.tr hL2 (by decide)
          clear hL2
          dsimp only at hw
          have hP : va_P (dC, dI) vwCl (mw ar cy st48 sl49) _ := hP
          have hG : MG [1, 2, 3, 6, 7, 8, 9, 10, 11, 12, 13, 14, 15, 20, 21, 22] st st48 := hG.tr hG2 (by decide)
          have hGst48 : MG [1, 2, 3, 6, 7, 8, 9, 10, 11, 12, 13, 14, 15, 19, 20, 21, 22] st45 st48 := hG2
          clear hG2
          rcases hw with ⟨n50, z51, rfl, hf52, hf53, hf54, hf55, hf56, hf57⟩ | rfl
          · have hf52c := hf52.2.2.1
            have hf52d := hf52.2.2.2
            obtain ⟨n58, hn58a, hn58b, rfl⟩ := zz_rng (a := 0) (b := 12) (by omega) hf56 (by omega) hf57
            refine va_calli (va_runV (As := [.int (nI (54 + n5)), .int 1]) (rest := []) ⟨hx, hb, hml, hown, hts⟩ (m_put54 l dC dI ar cy _ hN st48 sl49 (54 + n5) (by omega) (by omega) hG.1) (cwV 2 hts gX12_readDog_X12_put rfl rfl rfl (by decide +kernel) ⟨Nat.le_of_ble_eq_true rfl, Nat.le_of_ble_eq_true rfl⟩) ⟨fun a U g mk q => ⟨q.1, mPre.blind q.2⟩, va_recv hK hP (ci := 11) (q0 := 0) rfl rfl, fun U hU hW => ⟨rfl, mPre.of hP hK hU hW⟩⟩ rfl rfl hl.1 rfl (lv_room (Nat.le_of_ble_eq_true rfl)) dX12_readDog_84 ⟨Nat.le_of_ble_eq_true rfl, Nat.le_of_ble_eq_true rfl⟩) hS (fun q _ h => MA.le hS.1 q h) (MA.le hS.1) (fun r59 x t H locs ht hvm hw hB _ _ hS => ?_)
            have hP := mB.at ht hB
            clear hB ht hvm
            obtain ⟨st60, sl61⟩ := x
            obtain ⟨hG2, hL2, hw⟩ := hw
            have hL : LQ [7, 9] sl sl61 := hL.tr hL2 (by decide)
            clear hL2
            have hP : va_P (dC, dI) vwCl (mw ar cy st60 sl61) _ := hP
            have hG : MG [1, 2, 3, 6, 7, 8, 9, 10, 11, 12, 13, 14, 15, 20, 21, 22] st st60 := hG.tr hG2 (by decide)
            have hGst60 : MG [1, 2, 3, 4, 5, 6, 7, 8, 9, 10, 11, 12, 13, 14, 15, 16, 17, 19, 20, 21, 22, 23] st48 st60 := hG2
            clear hG2
            obtain rfl := hw
            refine lv_if_ne (tgt := 92) hx hb dX12_readDog_87 (by decide) (fun _ => ?_) (fun cc => absurd cc (by decide))
            refine lv_aload_n hx hb dX12_readDog_92 rfl (lv_at hl 1 rfl) ?_
            refine va_get (D := (dC, dI)) (ci := 11) (v := .ref (ar 3)) (C := RX12) (T := TX12) (N := 47) hx hb hts ii_X12_readDog hown hK hP 0 rfl rfl 15 (by decide) (hts _ mm_X12_readDog_1) (fun _ hh => hh) rfl dX12_readDog_93 ?_
            refine lv_iconst (v := 2) hx hb dX12_readDog_96 (by decide) ?_
            refine lv_dup2_11 hx hb dX12_readDog_97 rfl rfl ?_
            refine va_iald hx hb hK hP 3 2 rfl rfl (i := 2) (zz_in (by decide)) dX12_readDog_98 ?_
            refine zz_top (v := (nI n5)) (by show st60 3 2 = _; rw [hGst60.2 3 2 (by decide), hGst48.2 3 2 (by decide), hGst45.2 3 2 (by decide), hGst33.2 3 2 (by decide), hGst30.2 3 2 (by decide), hGst20.2 3 2 (by decide), hGst12.2 3 2 (by decide), hf9]) ?_
            refine lv_iconst (v := 1) hx hb dX12_readDog_99 (by decide) ?_
            refine lv_iadd hx hb dX12_readDog_100 ?_
            refine zz_top (v := nI (n5 + 1)) (nI_add n5 1) ?_
            refine va_iast hx hb hK hP (mD hN _ _ _ _) hS 3 2 rfl rfl (i := 2) (zz_in (by decide)) dX12_readDog_101 (fun H locs hP _ hS => ?_)
            have hP : va_P (dC, dI) vwCl (mw ar cy (up2 st60 3 2 (nI (n5 + 1))) sl61) H := hP
            obtain ⟨st62, est62⟩ : ∃ y, y = up2 st60 3 2 (nI (n5 + 1)) := ⟨_, rfl⟩
            have hG : MG [1, 2, 3, 6, 7, 8, 9, 10, 11, 12, 13, 14, 15, 20, 21, 22] st st62 := by rw [est62]; exact hG.up (rn (n := (n5 + 1)) (by decide : mr 3 2 = 7) (by omega)) (pn (by decide : pcl 3 2 = 19) (by decide))
            rw [← est62] at hP
            refine lv_iconst (v := 1) hx hb dX12_readDog_102 (by decide) ?_
            exact W.zret (v := 1) hx hb hr rfl (fun t ht hW => ⟨⟨1, (st62, sl61), rfl, ⟨hG, hL, Or.inl (⟨n50, rfl, (show TS st62 n50 gb from ⟨by rw [est62, up2_ne (r := 3) (k := 2) (a := 0) (j := 5) _ _ (by omega), hGst60.2 0 5 (by decide), hf52.1], by rw [est62, up2_ne (r := 3) (k := 2) (a := 0) (j := 3) _ _ (by omega), hGst60.2 0 3 (by decide), hf52.2.1], by omega, by omega⟩), by omega, fun (hh : st62 0 7 = 4) => by have hk := hf54 (by rw [est62, up2_ne (r := 3) (k := 2) (a := 0) (j := 7) _ _ (by omega), hGst60.2 0 7 (by decide)] at hh; exact hh); omega⟩)⟩, mB.of ht hP⟩, hS.F ht⟩) hS.2.2 dX12_readDog_103
          · refine va_calli (va_runV (As := [.int (nI (54 + n5)), .int 0]) (rest := []) ⟨hx, hb, hml, hown, hts⟩ (m_put0 l dC dI ar cy _ hN st48 sl49 (nI (54 + n5))  hG.1) (cwV 2 hts gX12_readDog_X12_put rfl rfl rfl (by decide +kernel) ⟨Nat.le_of_ble_eq_true rfl, Nat.le_of_ble_eq_true rfl⟩) ⟨fun a U g mk q => ⟨q.1, mPre.blind q.2⟩, va_recv hK hP (ci := 11) (q0 := 0) rfl rfl, fun U hU hW => ⟨rfl, mPre.of hP hK hU hW⟩⟩ rfl rfl hl.1 rfl (lv_room (Nat.le_of_ble_eq_true rfl)) dX12_readDog_84 ⟨Nat.le_of_ble_eq_true rfl, Nat.le_of_ble_eq_true rfl⟩) hS (fun q _ h => MA.le hS.1 q h) (MA.le hS.1) (fun r63 x t H locs ht hvm hw hB _ _ hS => ?_)
            have hP := mB.at ht hB
            clear hB ht hvm
            obtain ⟨rfl, hw⟩ := hw
            have hP : va_P (dC, dI) vwCl (mw ar cy st48 sl49) _ := hP
            obtain rfl := hw
            refine lv_if_ne (tgt := 92) hx hb dX12_readDog_87 (by decide) (fun cc => absurd (by decide) cc) (fun _ => ?_)
            refine lv_iconst (v := 0) hx hb dX12_readDog_90 (by decide) ?_
            exact W.zret (v := 0) hx hb hr rfl (fun t ht hW => ⟨⟨0, (st48, sl49), rfl, ⟨hG, hL, Or.inr (rfl)⟩, mB.of ht hP⟩, hS.F ht⟩) hS.2.2 dX12_readDog_91
        · refine va_calli (va_runV (As := [.int (nI (48 + n5)), .int 0]) (rest := []) ⟨hx, hb, hml, hown, hts⟩ (m_put0 l dC dI ar cy _ hN st33 sl34 (nI (48 + n5))  hG.1) (cwV 2 hts gX12_readDog_X12_put rfl rfl rfl (by decide +kernel) ⟨Nat.le_of_ble_eq_true rfl, Nat.le_of_ble_eq_true rfl⟩) ⟨fun a U g mk q => ⟨q.1, mPre.blind q.2⟩, va_recv hK hP (ci := 11) (q0 := 0) rfl rfl, fun U hU hW => ⟨rfl, mPre.of hP hK hU hW⟩⟩ rfl rfl hl.1 rfl (lv_room (Nat.le_of_ble_eq_true rfl)) dX12_readDog_66 ⟨Nat.le_of_ble_eq_true rfl, Nat.le_of_ble_eq_true rfl⟩) hS (fun q _ h => MA.le hS.1 q h) (MA.le hS.1) (fun r64 x t H locs ht hvm hw hB _ _ hS => ?_)
          have hP := mB.at ht hB
          clear hB ht hvm
          obtain ⟨rfl, hw⟩ := hw
          have hP : va_P (dC, dI) vwCl (mw ar cy st33 sl34) _ := hP
          obtain rfl := hw
          refine lv_if_eq (tgt := 90) hx hb dX12_readDog_69 (by decide) (fun _ => ?_) (fun cc => absurd (by decide) cc)
          refine lv_iconst (v := 0) hx hb dX12_readDog_90 (by decide) ?_
          exact W.zret (v := 0) hx hb hr rfl (fun t ht hW => ⟨⟨0, (st33, sl34), rfl, ⟨hG, hL, Or.inr (rfl)⟩, mB.of ht hP⟩, hS.F ht⟩) hS.2.2 dX12_readDog_91
      · refine va_calli (va_runV (As := [.int (nI (42 + n5)), .int 0]) (rest := []) ⟨hx, hb, hml, hown, hts⟩ (m_put0 l dC dI ar cy _ hN st20 sl21 (nI (42 + n5))  hG.1) (cwV 2 hts gX12_readDog_X12_put rfl rfl rfl (by decide +kernel) ⟨Nat.le_of_ble_eq_true rfl, Nat.le_of_ble_eq_true rfl⟩) ⟨fun a U g mk q => ⟨q.1, mPre.blind q.2⟩, va_recv hK hP (ci := 11) (q0 := 0) rfl rfl, fun U hU hW => ⟨rfl, mPre.of hP hK hU hW⟩⟩ rfl rfl hl.1 rfl (lv_room (Nat.le_of_ble_eq_true rfl)) dX12_readDog_46 ⟨Nat.le_of_ble_eq_true rfl, Nat.le_of_ble_eq_true rfl⟩) hS (fun q _ h => MA.le hS.1 q h) (MA.le hS.1) (fun r65 x t H locs ht hvm hw hB _ _ hS => ?_)
        have hP := mB.at ht hB
        clear hB ht hvm
        obtain ⟨rfl, hw⟩ := hw
        have hP : va_P (dC, dI) vwCl (mw ar cy st20 sl21) _ := hP
        obtain rfl := hw
        refine lv_if_ne (tgt := 54) hx hb dX12_readDog_49 (by decide) (fun cc => absurd (by decide) cc) (fun _ => ?_)
        refine lv_iconst (v := 0) hx hb dX12_readDog_52 (by decide) ?_
        exact W.zret (v := 0) hx hb hr rfl (fun t ht hW => ⟨⟨0, (st20, sl21), rfl, ⟨hG, hL, Or.inr (rfl)⟩, mB.of ht hP⟩, hS.F ht⟩) hS.2.2 dX12_readDog_53
    · refine lv_if_eq (tgt := 52) hx hb dX12_readDog_27 (by decide) (fun _ => ?_) (fun cc => absurd (by decide) cc)
      refine lv_iconst (v := 0) hx hb dX12_readDog_52 (by decide) ?_
      exact W.zret (v := 0) hx hb hr rfl (fun t ht hW => ⟨⟨0, (st12, sl13), rfl, ⟨hG, hL, Or.inr (rfl)⟩, mB.of ht hP⟩, hS.F ht⟩) hS.2.2 dX12_readDog_53
  · refine lv_if_ne (tgt := 12) hx hb dX12_readDog_7 (by decide) (fun cc => absurd (by decide) cc) (fun _ => ?_)
    refine lv_iconst (v := 0) hx hb dX12_readDog_10 (by decide) ?_
    exact W.zret (v := 0) hx hb hr rfl (fun t ht hW => ⟨⟨0, (st2, sl3), rfl, ⟨hG, hL, Or.inr (rfl)⟩, mB.of ht hP⟩, hS.F ht⟩) hS.2.2 dX12_readDog_11
set_option maxHeartbeats 4000000 in
set_option maxRecDepth 100000 in
theorem m_readFree (l : Launch) (dC : Nat → ClassId) (dI : Nat → Nat → Nat) (ar : Nat → Nat) (cy : Nat → ClassId) (sz : Nat) (hN : MN ar) (st : Nat → Nat → Int32) (sl : Nat → Nat → Int64) (ga gb : Nat) (hI : MI st) (hT : TS st ga gb) : Met l yX12_readFree wsX12_readFree ({ frames := 4, cells := 0, slots := 0, locals := 91 }) (va_Pc [.ref (ar 0)] (mPre dC dI ar cy sz st sl)) (va_Qi (fun (r : Int32) (x : MT) => MG [1, 2, 3, 6, 7, 8, 9, 10, 11, 12, 13, 14, 15, 20, 21, 22] st x.1 ∧ LQ [7, 9] sl x.2 ∧ ((∃ g : Nat, r = 1 ∧ TS x.1 g gb ∧ ga ≤ g ∧ (x.1 0 7 = 4 → ga < g)) ∨ (r = 0))) (mB dC dI ar cy) (MA ar sz)) 0 0 (MA ar sz) := by
  refine Met.ofW (cc := cX12_readFree) (maxL := 3) (ret := (some .boolean)) (by decide) rfl ?_
  intro p e s m args below meth c s₁ B hml hv
  obtain ⟨rfl, hsz, hP, hK⟩ := hv
  have hx := B.exec
  have hb := B.bytes
  have hr := B.returns
  have hts := atoms_spec (ws := wsX12_readFree) B.pre
  have hown : s.vm.findClass RX12 = some m.cls := findClass_of_methodNamed B.named
  subst hsz
  have hS : va_S (MA ar s.heap.size) s.heap s.heap [] := va_S.rf
  have hG : MG [1, 2, 3, 6, 7, 8, 9, 10, 11, 12, 13, 14, 15, 20, 21, 22] st st := MG.rf hI
  have hl := lv_entry ([.ref (ar 0)]) (n := 3) (Nat.le_of_ble_eq_true rfl)
  rw [lg_entry_eq]
  generalize (lg_sl ([.ref (ar 0)]) ++ List.replicate (3 - (lg_sl ([.ref (ar 0)])).length) Slot.unset).toArray = ls at hl ⊢
  have hl : lv_has ls 3 [(0, .ref (ar 0))] := hl
  clear hI
  have hL : LQ [7, 9] sl sl := LQ.rf
  have hTc := hT.2.2.1
  have hTd := hT.2.2.2
  have hga : ga ≤ ga := Nat.le_refl ga
  refine lv_aload_n hx hb dX12_readFree_0 rfl (lv_at hl 0 rfl) ?_
  refine lv_iconst (v := 3) hx hb dX12_readFree_1 (by decide) ?_
  refine lv_bipush (v := 12) hx hb dX12_readFree_2 (by decide) ?_
  refine va_calli (va_runV (As := [.int 3, .int 12]) (rest := []) ⟨hx, hb, hml, hown, hts⟩ (m_readFirst3 l dC dI ar cy _ hN st sl ga gb  hG.1 ((⟨by rw [hT.1], by rw [hT.2.1], by omega, by omega⟩ : TS st ga gb))) (cwV 2 hts gX12_readFree_X12_readFirst rfl rfl rfl (by decide +kernel) ⟨Nat.le_of_ble_eq_true rfl, Nat.le_of_ble_eq_true rfl⟩) ⟨fun a U g mk q => ⟨q.1, mPre.blind q.2⟩, va_recv hK hP (ci := 11) (q0 := 0) rfl rfl, fun U hU hW => ⟨rfl, mPre.of hP hK hU hW⟩⟩ rfl rfl hl.1 rfl (lv_room (Nat.le_of_ble_eq_true rfl)) dX12_readFree_4 ⟨Nat.le_of_ble_eq_true rfl, Nat.le_of_ble_eq_true rfl⟩) hS (fun q _ h => MA.le hS.1 q h) (MA.le hS.1) (fun r1 x t H locs ht hvm hw hB _ _ hS => ?_)
  have hP := mB.at ht hB
  clear hB ht hvm
  obtain ⟨st2, sl3⟩ := x
  obtain ⟨hG2, hL2, hw⟩ := hw
  have hL : LQ [7, 9] sl sl3 := hL.tr hL2 (by decide)
  clear hL2
  dsimp only at hw
  have hP : va_P (dC, dI) vwCl (mw ar cy st2 sl3) _ := hP
  have hG : MG [1, 2, 3, 6, 7, 8, 9, 10, 11, 12, 13, 14, 15, 20, 21, 22] st st2 := hG.tr hG2 (by decide)
  have hGst2 : MG [1, 2, 3, 6, 7, 8, 9, 10, 11, 12, 13, 14, 15, 19, 20, 21, 22] st st2 := hG2
  clear hG2
  rcases hw with ⟨n4, rfl, hf5, hf6, hf7⟩ | rfl
  · have hf5c := hf5.2.2.1
    have hf5d := hf5.2.2.2
    refine lv_if_eq (tgt := 24) hx hb dX12_readFree_7 (by decide) (fun cc => absurd cc (by decide)) (fun _ => ?_)
    refine lv_aload_n hx hb dX12_readFree_10 rfl (lv_at hl 0 rfl) ?_
    refine lv_iconst (v := 0) hx hb dX12_readFree_11 (by decide) ?_
    refine lv_aload_n hx hb dX12_readFree_12 rfl (lv_at hl 0 rfl) ?_
    refine va_get (D := (dC, dI)) (ci := 11) (v := .ref (ar 3)) (C := RX12) (T := TX12) (N := 47) hx hb hts ii_X12_readFree hown hK hP 0 rfl rfl 15 (by decide) (hts _ mm_X12_readFree_1) (fun _ hh => hh) rfl dX12_readFree_13 ?_
    refine lv_iconst (v := 0) hx hb dX12_readFree_16 (by decide) ?_
    refine va_iald hx hb hK hP 3 2 rfl rfl (i := 0) (zz_in (by decide)) dX12_readFree_17 ?_
    obtain ⟨n8, hn8, en8⟩ := hG.1.at (r := 3) (k := 0) (by decide : mr 3 0 = 6) (by decide)
    refine zz_top (v := nI n8) (by exact en8) ?_
    refine va_calli (va_runV (As := [.int 0, .int (nI n8)]) (rest := []) ⟨hx, hb, hml, hown, hts⟩ (m_readOne0 l dC dI ar cy _ hN st2 sl3 n8 n4 gb (by omega) hG.1 ((⟨by rw [hf5.1], by rw [hf5.2.1], by omega, by omega⟩ : TS st2 n4 gb))) (cwV 2 hts gX12_readFree_X12_readOne rfl rfl rfl (by decide +kernel) ⟨Nat.le_of_ble_eq_true rfl, Nat.le_of_ble_eq_true rfl⟩) ⟨fun a U g mk q => ⟨q.1, mPre.blind q.2⟩, va_recv hK hP (ci := 11) (q0 := 0) rfl rfl, fun U hU hW => ⟨rfl, mPre.of hP hK hU hW⟩⟩ rfl rfl hl.1 rfl (lv_room (Nat.le_of_ble_eq_true rfl)) dX12_readFree_18 ⟨Nat.le_of_ble_eq_true rfl, Nat.le_of_ble_eq_true rfl⟩) hS (fun q _ h => MA.le hS.1 q h) (MA.le hS.1) (fun r9 x t H locs ht hvm hw hB _ _ hS => ?_)
    have hP := mB.at ht hB
    clear hB ht hvm
    obtain ⟨st10, sl11⟩ := x
    obtain ⟨hG2, hL2, hw⟩ := hw
    have hL : LQ [7, 9] sl sl11 := hL.tr hL2 (by decide)
    clear hL2
    dsimp only at hw
    have hP : va_P (dC, dI) vwCl (mw ar cy st10 sl11) _ := hP
    have hG : MG [1, 2, 3, 6, 7, 8, 9, 10, 11, 12, 13, 14, 15, 20, 21, 22] st st10 := hG.tr hG2 (by decide)
    have hGst10 : MG [1, 2, 3, 6, 7, 8, 9, 10, 11, 12, 13, 14, 15, 19, 20, 21, 22] st2 st10 := hG2
    clear hG2
    rcases hw with ⟨n12, n13, rfl, hf14, hf15, hf16, hf17, hf18⟩ | rfl
    · have hf14c := hf14.2.2.1
      have hf14d := hf14.2.2.2
      refine lv_if_ne (tgt := 26) hx hb dX12_readFree_21 (by decide) (fun _ => ?_) (fun cc => absurd cc (by decide))
      refine lv_aload_n hx hb dX12_readFree_26 rfl (lv_at hl 0 rfl) ?_
      refine va_get (D := (dC, dI)) (ci := 11) (v := .int (st10 0 13)) (C := RX12) (T := TX12) (N := 47) hx hb hts ii_X12_readFree hown hK hP 0 rfl rfl 13 (by decide) (hts _ mm_X12_readFree_2) (fun _ hh => hh) rfl dX12_readFree_27 ?_
      refine zz_top (v := (nI n13)) (by show st10 0 13 = _; rw [hf17]) ?_
      refine lv_istore_n (lv' := [(1, .int (nI n13)), (0, .ref (ar 0))]) hx hb dX12_readFree_30 rfl hl (by decide) rfl (fun ls hl => ?_)
      refine lv_aload_n hx hb dX12_readFree_31 rfl (lv_at hl 1 rfl) ?_
      refine lv_iconst (v := 0) hx hb dX12_readFree_32 (by decide) ?_
      refine lv_bipush (v := 23) hx hb dX12_readFree_33 (by decide) ?_
      refine va_calli (va_runV (As := [.int 0, .int 23]) (rest := []) ⟨hx, hb, hml, hown, hts⟩ (m_readNumber l dC dI ar cy _ hN st10 sl11 0 23 n12 gb  hG.1 ((⟨by rw [hf14.1], by rw [hf14.2.1], by omega, by omega⟩ : TS st10 n12 gb))) (cwV 2 hts gX12_readFree_X12_readNumber rfl rfl rfl (by decide +kernel) ⟨Nat.le_of_ble_eq_true rfl, Nat.le_of_ble_eq_true rfl⟩) ⟨fun a U g mk q => ⟨q.1, mPre.blind q.2⟩, va_recv hK hP (ci := 11) (q0 := 0) rfl rfl, fun U hU hW => ⟨rfl, mPre.of hP hK hU hW⟩⟩ rfl rfl hl.1 rfl (lv_room (Nat.le_of_ble_eq_true rfl)) dX12_readFree_35 ⟨Nat.le_of_ble_eq_true rfl, Nat.le_of_ble_eq_true rfl⟩) hS (fun q _ h => MA.le hS.1 q h) (MA.le hS.1) (fun r19 x t H locs ht hvm hw hB _ _ hS => ?_)
      have hP := mB.at ht hB
      clear hB ht hvm
      obtain ⟨st20, sl21⟩ := x
      obtain ⟨hG2, hL2, hw⟩ := hw
      have hL : LQ [7, 9] sl sl21 := hL.tr hL2 (by decide)
      clear hL2
      dsimp only at hw
      have hP : va_P (dC, dI) vwCl (mw ar cy st20 sl21) _ := hP
      have hG : MG [1, 2, 3, 6, 7, 8, 9, 10, 11, 12, 13, 14, 15, 20, 21, 22] st st20 := hG.tr hG2 (by decide)
      have hGst20 : MG [1, 2, 3, 6, 7, 8, 9, 10, 11, 12, 13, 14, 15, 19, 20, 21, 22] st10 st20 := hG2
      clear hG2
      rcases hw with ⟨n22, z23, rfl, hf24, hf25, hf26, hf27, hf28, hf29⟩ | rfl
      · have hf24c := hf24.2.2.1
        have hf24d := hf24.2.2.2
        obtain ⟨n30, hn30a, hn30b, rfl⟩ := zz_rng (a := 0) (b := 23) (by omega) hf28 (by omega) hf29
        refine lv_if_ne (tgt := 43) hx hb dX12_readFree_38 (by decide) (fun _ => ?_) (fun cc => absurd cc (by decide))
        refine lv_aload_n hx hb dX12_readFree_43 rfl (lv_at hl 1 rfl) ?_
        refine va_get (D := (dC, dI)) (ci := 11) (v := .int (st20 0 13)) (C := RX12) (T := TX12) (N := 47) hx hb hts ii_X12_readFree hown hK hP 0 rfl rfl 13 (by decide) (hts _ mm_X12_readFree_2) (fun _ hh => hh) rfl dX12_readFree_44 ?_
        refine zz_top (v := (nI n30)) (by show st20 0 13 = _; rw [hf27]) ?_
        refine lv_istore_n (lv' := [(2, .int (nI n30)), (1, .int (nI n13)), (0, .ref (ar 0))]) hx hb dX12_readFree_47 rfl hl (by decide) rfl (fun ls hl => ?_)
        refine lv_aload_n hx hb dX12_readFree_48 rfl (lv_at hl 2 rfl) ?_
        refine lv_iload_n hx hb dX12_readFree_49 rfl (lv_at hl 0 rfl) ?_
        refine lv_bipush (v := 23) hx hb dX12_readFree_50 (by decide) ?_
        refine va_calli (va_runV (As := [.int (nI n30), .int 23]) (rest := []) ⟨hx, hb, hml, hown, hts⟩ (m_readNumber l dC dI ar cy _ hN st20 sl21 (nI n30) 23 n22 gb  hG.1 ((⟨by rw [hf24.1], by rw [hf24.2.1], by omega, by omega⟩ : TS st20 n22 gb))) (cwV 2 hts gX12_readFree_X12_readNumber rfl rfl rfl (by decide +kernel) ⟨Nat.le_of_ble_eq_true rfl, Nat.le_of_ble_eq_true rfl⟩) ⟨fun a U g mk q => ⟨q.1, mPre.blind q.2⟩, va_recv hK hP (ci := 11) (q0 := 0) rfl rfl, fun U hU hW => ⟨rfl, mPre.of hP hK hU hW⟩⟩ rfl rfl hl.1 rfl (lv_room (Nat.le_of_ble_eq_true rfl)) dX12_readFree_52 ⟨Nat.le_of_ble_eq_true rfl, Nat.le_of_ble_eq_true rfl⟩) hS (fun q _ h => MA.le hS.1 q h) (MA.le hS.1) (fun r31 x t H locs ht hvm hw hB _ _ hS => ?_)
        have hP := mB.at ht hB
        clear hB ht hvm
        obtain ⟨st32, sl33⟩ := x
        obtain ⟨hG2, hL2, hw⟩ := hw
        have hL : LQ [7, 9] sl sl33 := hL.tr hL2 (by decide)
        clear hL2
        dsimp only at hw
        have hP : va_P (dC, dI) vwCl (mw ar cy st32 sl33) _ := hP
        have hG : MG [1, 2, 3, 6, 7, 8, 9, 10, 11, 12, 13, 14, 15, 20, 21, 22] st st32 := hG.tr hG2 (by decide)
        have hGst32 : MG [1, 2, 3, 6, 7, 8, 9, 10, 11, 12, 13, 14, 15, 19, 20, 21, 22] st20 st32 := hG2
        clear hG2
        rcases hw with ⟨n34, z35, rfl, hf36, hf37, hf38, hf39, hf40, hf41⟩ | rfl
        · have hf36c := hf36.2.2.1
          have hf36d := hf36.2.2.2
          obtain ⟨n42, hn42a, hn42b, rfl⟩ := zz_rng (a := n30) (b := 23) (by omega) hf40 (by omega) hf41
          refine lv_if_ne (tgt := 60) hx hb dX12_readFree_55 (by decide) (fun _ => ?_) (fun cc => absurd cc (by decide))
          refine lv_aload_n hx hb dX12_readFree_60 rfl (lv_at hl 2 rfl) ?_
          refine va_get (D := (dC, dI)) (ci := 11) (v := .ref (ar 3)) (C := RX12) (T := TX12) (N := 47) hx hb hts ii_X12_readFree hown hK hP 0 rfl rfl 15 (by decide) (hts _ mm_X12_readFree_1) (fun _ hh => hh) rfl dX12_readFree_61 ?_
          refine lv_iconst (v := 4) hx hb dX12_readFree_64 (by decide) ?_
          refine lv_iload_n hx hb dX12_readFree_65 rfl (lv_at hl 1 rfl) ?_
          refine lv_iadd hx hb dX12_readFree_66 ?_
          refine zz_top (v := nI (4 + n13)) (nI_add 4 n13) ?_
          refine lv_dup2_11 hx hb dX12_readFree_67 rfl rfl ?_
          refine va_iald hx hb hK hP 3 2 rfl rfl (i := (nI (4 + n13))) (vp_in_nI (by omega) (by decide)) dX12_readFree_68 ?_
          obtain ⟨n43, hn43, en43⟩ := hG.1.at (r := 3) (k := (4 + n13)) (mr_3_4_9 (4 + n13) (by omega) (by omega)) (by decide)
          refine zz_top (v := nI n43) (by rw [nI_clamp (by omega)]; exact en43) ?_
          refine lv_iload_n hx hb dX12_readFree_69 rfl (lv_at hl 0 rfl) ?_
          refine lv_aload_n hx hb dX12_readFree_70 rfl (lv_at hl 2 rfl) ?_
          refine va_get (D := (dC, dI)) (ci := 11) (v := .int (st32 0 13)) (C := RX12) (T := TX12) (N := 47) hx hb hts ii_X12_readFree hown hK hP 0 rfl rfl 13 (by decide) (hts _ mm_X12_readFree_2) (fun _ hh => hh) rfl dX12_readFree_71 ?_
          refine zz_top (v := (nI n42)) (by show st32 0 13 = _; rw [hf39]) ?_
          refine va_calli (va_runS (As := [.int (nI n30), .int (nI n42)]) (rest := [.int (nI n43), .int (nI (4 + n13)), .ref (ar 3)]) ⟨hx, hb, hml, hown, hts⟩ (m_hoursInN l dC dI ar cy _ hN st32 sl33 n30 n42 (by omega) (by omega) hG.1 (by omega)) (va_cwS 2 hts gX12_readFree_X12_hoursIn rfl rfl rfl (by decide +kernel) ⟨Nat.le_of_ble_eq_true rfl, Nat.le_of_ble_eq_true rfl⟩) ⟨fun a U g mk q => ⟨q.1, mPre.blind q.2⟩, fun U hU hW => ⟨rfl, mPre.of hP hK hU hW⟩⟩ rfl rfl hl.1 rfl (lv_room (Nat.le_of_ble_eq_true rfl)) dX12_readFree_74 ⟨Nat.le_of_ble_eq_true rfl, Nat.le_of_ble_eq_true rfl⟩) hS (fun q _ h => MA.le hS.1 q h) (MA.le hS.1) (fun r44 x t H locs ht hvm hw hB _ _ hS => ?_)
          have hP := mB.at ht hB
          clear hB ht hvm
          obtain ⟨rfl, hw⟩ := hw
          have hP : va_P (dC, dI) vwCl (mw ar cy st32 sl33) _ := hP
          obtain ⟨n45, rfl, hf46⟩ := hw
          refine lv_ior hx hb dX12_readFree_77 ?_
          have ho47 : (n43 ||| n45) < 2 ^ 31 := Nat.or_lt_two_pow (by omega) (by omega)
          refine zz_top (v := nI (n43 ||| n45)) (nI_orN n43 n45) ?_
          refine va_iast hx hb hK hP (mD hN _ _ _ _) hS 3 2 rfl rfl (i := (nI (4 + n13))) (vp_in_nI (by omega) (by decide)) dX12_readFree_78 (fun H locs hP _ hS => ?_)
          rw [nI_clamp (by omega)] at hP
          have hP : va_P (dC, dI) vwCl (mw ar cy (up2 st32 3 (4 + n13) (nI (n43 ||| n45))) sl33) H := hP
          obtain ⟨st48, est48⟩ : ∃ y, y = up2 st32 3 (4 + n13) (nI (n43 ||| n45)) := ⟨_, rfl⟩
          have hG : MG [1, 2, 3, 6, 7, 8, 9, 10, 11, 12, 13, 14, 15, 20, 21, 22] st st48 := by rw [est48]; exact hG.up (rn (n := (n43 ||| n45)) (mr_3_4_9 (4 + n13) (by omega) (by omega)) (by omega)) (pn (pcl_3_4_9 (4 + n13) (by omega) (by omega)) (by decide))
          rw [← est48] at hP
          refine lv_aload_n hx hb dX12_readFree_79 rfl (lv_at hl 2 rfl) ?_
          refine va_get (D := (dC, dI)) (ci := 11) (v := .ref (ar 3)) (C := RX12) (T := TX12) (N := 47) hx hb hts ii_X12_readFree hown hK hP 0 rfl rfl 15 (by decide) (hts _ mm_X12_readFree_1) (fun _ hh => hh) rfl dX12_readFree_80 ?_
          refine lv_iconst (v := 3) hx hb dX12_readFree_83 (by decide) ?_
          refine lv_dup2_11 hx hb dX12_readFree_84 rfl rfl ?_
          refine va_iald hx hb hK hP 3 2 rfl rfl (i := 3) (zz_in (by decide)) dX12_readFree_85 ?_
          refine lv_topi (fun z49 ez49 => ?_)
          refine lv_iconst (v := 1) hx hb dX12_readFree_86 (by decide) ?_
          refine lv_iadd hx hb dX12_readFree_87 ?_
          refine lv_topi (fun z50 ez50 => ?_)
          refine va_iast hx hb hK hP (mD hN _ _ _ _) hS 3 2 rfl rfl (i := 3) (zz_in (by decide)) dX12_readFree_88 (fun H locs hP _ hS => ?_)
          have hP : va_P (dC, dI) vwCl (mw ar cy (up2 st48 3 3 z50) sl33) H := hP
          obtain ⟨st51, est51⟩ : ∃ y, y = up2 st48 3 3 z50 := ⟨_, rfl⟩
          have hG : MG [1, 2, 3, 6, 7, 8, 9, 10, 11, 12, 13, 14, 15, 20, 21, 22] st st51 := by rw [est51]; exact hG.up (rz (by decide : mr 3 3 = 0)) (pn (by decide : pcl 3 3 = 19) (by decide))
          rw [← est51] at hP
          refine lv_iconst (v := 1) hx hb dX12_readFree_89 (by decide) ?_
          exact W.zret (v := 1) hx hb hr rfl (fun t ht hW => ⟨⟨1, (st51, sl33), rfl, ⟨hG, hL, Or.inl (⟨n34, rfl, (show TS st51 n34 gb from ⟨by rw [est51, up2_ne (r := 3) (k := 3) (a := 0) (j := 5) _ _ (by omega), est48, up2_ne (r := 3) (k := (4 + n13)) (a := 0) (j := 5) _ _ (by omega), hf36.1], by rw [est51, up2_ne (r := 3) (k := 3) (a := 0) (j := 3) _ _ (by omega), est48, up2_ne (r := 3) (k := (4 + n13)) (a := 0) (j := 3) _ _ (by omega), hf36.2.1], by omega, by omega⟩), by omega, fun (hh : st51 0 7 = 4) => by have hk := hf38 (by rw [est51, up2_ne (r := 3) (k := 3) (a := 0) (j := 7) _ _ (by omega), est48, up2_ne (r := 3) (k := (4 + n13)) (a := 0) (j := 7) _ _ (by omega)] at hh; exact hh); omega⟩)⟩, mB.of ht hP⟩, hS.F ht⟩) hS.2.2 dX12_readFree_90
        · refine lv_if_ne (tgt := 60) hx hb dX12_readFree_55 (by decide) (fun cc => absurd (by decide) cc) (fun _ => ?_)
          refine lv_iconst (v := 0) hx hb dX12_readFree_58 (by decide) ?_
          exact W.zret (v := 0) hx hb hr rfl (fun t ht hW => ⟨⟨0, (st32, sl33), rfl, ⟨hG, hL, Or.inr (rfl)⟩, mB.of ht hP⟩, hS.F ht⟩) hS.2.2 dX12_readFree_59
      · refine lv_if_ne (tgt := 43) hx hb dX12_readFree_38 (by decide) (fun cc => absurd (by decide) cc) (fun _ => ?_)
        refine lv_iconst (v := 0) hx hb dX12_readFree_41 (by decide) ?_
        exact W.zret (v := 0) hx hb hr rfl (fun t ht hW => ⟨⟨0, (st20, sl21), rfl, ⟨hG, hL, Or.inr (rfl)⟩, mB.of ht hP⟩, hS.F ht⟩) hS.2.2 dX12_readFree_42
    · refine lv_if_ne (tgt := 26) hx hb dX12_readFree_21 (by decide) (fun cc => absurd (by decide) cc) (fun _ => ?_)
      refine lv_iconst (v := 0) hx hb dX12_readFree_24 (by decide) ?_
      exact W.zret (v := 0) hx hb hr rfl (fun t ht hW => ⟨⟨0, (st10, sl11), rfl, ⟨hG, hL, Or.inr (rfl)⟩, mB.of ht hP⟩, hS.F ht⟩) hS.2.2 dX12_readFree_25
  · refine lv_if_eq (tgt := 24) hx hb dX12_readFree_7 (by decide) (fun _ => ?_) (fun cc => absurd (by decide) cc)
    refine lv_iconst (v := 0) hx hb dX12_readFree_24 (by decide) ?_
    exact W.zret (v := 0) hx hb hr rfl (fun t ht hW => ⟨⟨0, (st2, sl3), rfl, ⟨hG, hL, Or.inr (rfl)⟩, mB.of ht hP⟩, hS.F ht⟩) hS.2.2 dX12_readFree_25
set_option maxHeartbeats 4000000 in
set_option maxRecDepth 100000 in
theorem m_readLine (l : Launch) (dC : Nat → ClassId) (dI : Nat → Nat → Nat) (ar : Nat → Nat) (cy : Nat → ClassId) (sz : Nat) (hN : MN ar) (st : Nat → Nat → Int32) (sl : Nat → Nat → Int64) (ga gb : Nat) (hI : MI st) (hT : TS st ga gb) : Met l yX12_readLine wsX12_readLine ({ frames := 5, cells := 0, slots := 0, locals := 113 }) (va_Pc [.ref (ar 0)] (mPre dC dI ar cy sz st sl)) (va_Qi (fun (r : Int32) (x : MT) => MG [1, 2, 3, 6, 7, 8, 9, 10, 11, 12, 13, 14, 15, 20, 21, 22] st x.1 ∧ LQ [7, 9] sl x.2 ∧ ((∃ g : Nat, r = 1 ∧ TS x.1 g gb ∧ ga ≤ g ∧ (x.1 0 7 = 4 → ga < g)) ∨ (r = 0))) (mB dC dI ar cy) (MA ar sz)) 0 0 (MA ar sz) := by
  refine Met.ofW (cc := cX12_readLine) (maxL := 1) (ret := (some .boolean)) (by decide) rfl ?_
  intro p e s m args below meth c s₁ B hml hv
  obtain ⟨rfl, hsz, hP, hK⟩ := hv
  have hx := B.exec
  have hb := B.bytes
  have hr := B.returns
  have hts := atoms_spec (ws := wsX12_readLine) B.pre
  have hown : s.vm.findClass RX12 = some m.cls := findClass_of_methodNamed B.named
  subst hsz
  have hS : va_S (MA ar s.heap.size) s.heap s.heap [] := va_S.rf
  have hG : MG [1, 2, 3, 6, 7, 8, 9, 10, 11, 12, 13, 14, 15, 20, 21, 22] st st := MG.rf hI
  have hl := lv_entry ([.ref (ar 0)]) (n := 1) (Nat.le_of_ble_eq_true rfl)
  rw [lg_entry_eq]
  generalize (lg_sl ([.ref (ar 0)]) ++ List.replicate (1 - (lg_sl ([.ref (ar 0)])).length) Slot.unset).toArray = ls at hl ⊢
  have hl : lv_has ls 1 [(0, .ref (ar 0))] := hl
  clear hI
  have hL : LQ [7, 9] sl sl := LQ.rf
  have hTc := hT.2.2.1
  have hTd := hT.2.2.2
  have hga : ga ≤ ga := Nat.le_refl ga
  refine lv_aload_n hx hb dX12_readLine_0 rfl (lv_at hl 0 rfl) ?_
  refine lv_iconst (v := 0) hx hb dX12_readLine_1 (by decide) ?_
  refine va_calli (va_runV (As := [.int 0]) (rest := []) ⟨hx, hb, hml, hown, hts⟩ (m_isWord l dC dI ar cy _ hN st sl 0  hG.1) (cwV 1 hts gX12_readLine_X12_isWord rfl rfl rfl (by decide +kernel) ⟨Nat.le_of_ble_eq_true rfl, Nat.le_of_ble_eq_true rfl⟩) ⟨fun a U g mk q => ⟨q.1, mPre.blind q.2⟩, va_recv hK hP (ci := 11) (q0 := 0) rfl rfl, fun U hU hW => ⟨rfl, mPre.of hP hK hU hW⟩⟩ rfl rfl hl.1 rfl (lv_room (Nat.le_of_ble_eq_true rfl)) dX12_readLine_2 ⟨Nat.le_of_ble_eq_true rfl, Nat.le_of_ble_eq_true rfl⟩) hS (fun q _ h => MA.le hS.1 q h) (MA.le hS.1) (fun r1 x t H locs ht hvm hw hB _ _ hS => ?_)
  have hP := mB.at ht hB
  clear hB ht hvm
  obtain ⟨rfl, hw⟩ := hw
  have hP : va_P (dC, dI) vwCl (mw ar cy st sl) _ := hP
  rcases hw with rfl | rfl
  · refine lv_if_eq (tgt := 13) hx hb dX12_readLine_5 (by decide) (fun cc => absurd cc (by decide)) (fun _ => ?_)
    refine lv_aload_n hx hb dX12_readLine_8 rfl (lv_at hl 0 rfl) ?_
    refine va_calli (va_runV (As := []) (rest := []) ⟨hx, hb, hml, hown, hts⟩ (m_readPlace l dC dI ar cy _ hN st sl ga gb  hG.1 ((⟨by rw [hT.1], by rw [hT.2.1], by omega, by omega⟩ : TS st ga gb))) (cwV 0 hts gX12_readLine_X12_readPlace rfl rfl rfl (by decide +kernel) ⟨Nat.le_of_ble_eq_true rfl, Nat.le_of_ble_eq_true rfl⟩) ⟨fun a U g mk q => ⟨q.1, mPre.blind q.2⟩, va_recv hK hP (ci := 11) (q0 := 0) rfl rfl, fun U hU hW => ⟨rfl, mPre.of hP hK hU hW⟩⟩ rfl rfl hl.1 rfl (lv_room (Nat.le_of_ble_eq_true rfl)) dX12_readLine_9 ⟨Nat.le_of_ble_eq_true rfl, Nat.le_of_ble_eq_true rfl⟩) hS (fun q _ h => MA.le hS.1 q h) (MA.le hS.1) (fun r2 x t H locs ht hvm hw hB _ _ hS => ?_)
    have hP := mB.at ht hB
    clear hB ht hvm
    obtain ⟨st3, sl4⟩ := x
    obtain ⟨hG2, hL2, hw⟩ := hw
    have hL : LQ [7, 9] sl sl4 := hL.tr hL2 (by decide)
    clear hL2
    dsimp only at hw
    have hP : va_P (dC, dI) vwCl (mw ar cy st3 sl4) _ := hP
    have hG : MG [1, 2, 3, 6, 7, 8, 9, 10, 11, 12, 13, 14, 15, 20, 21, 22] st st3 := hG.tr hG2 (by decide)
    have hGst3 : MG [1, 2, 3, 6, 7, 8, 9, 10, 11, 12, 13, 14, 15, 20, 21, 22] st st3 := hG2
    clear hG2
    rcases hw with ⟨n5, rfl, hf6, hf7, hf8⟩ | rfl
    · have hf6c := hf6.2.2.1
      have hf6d := hf6.2.2.2
      exact W.zret (v := 1) hx hb hr rfl (fun t ht hW => ⟨⟨1, (st3, sl4), rfl, ⟨hG, hL, Or.inl (⟨n5, rfl, (show TS st3 n5 gb from ⟨by rw [hf6.1], by rw [hf6.2.1], by omega, by omega⟩), by omega, fun (hh : st3 0 7 = 4) => by have hk := hf8 (by exact hh); omega⟩)⟩, mB.of ht hP⟩, hS.F ht⟩) hS.2.2 dX12_readLine_12
    · exact W.zret (v := 0) hx hb hr rfl (fun t ht hW => ⟨⟨0, (st3, sl4), rfl, ⟨hG, hL, Or.inr (rfl)⟩, mB.of ht hP⟩, hS.F ht⟩) hS.2.2 dX12_readLine_12
  · refine lv_if_eq (tgt := 13) hx hb dX12_readLine_5 (by decide) (fun _ => ?_) (fun cc => absurd (by decide) cc)
    refine lv_aload_n hx hb dX12_readLine_13 rfl (lv_at hl 0 rfl) ?_
    refine lv_iconst (v := 2) hx hb dX12_readLine_14 (by decide) ?_
    refine va_calli (va_runV (As := [.int 2]) (rest := []) ⟨hx, hb, hml, hown, hts⟩ (m_isWord l dC dI ar cy _ hN st sl 2  hG.1) (cwV 1 hts gX12_readLine_X12_isWord rfl rfl rfl (by decide +kernel) ⟨Nat.le_of_ble_eq_true rfl, Nat.le_of_ble_eq_true rfl⟩) ⟨fun a U g mk q => ⟨q.1, mPre.blind q.2⟩, va_recv hK hP (ci := 11) (q0 := 0) rfl rfl, fun U hU hW => ⟨rfl, mPre.of hP hK hU hW⟩⟩ rfl rfl hl.1 rfl (lv_room (Nat.le_of_ble_eq_true rfl)) dX12_readLine_15 ⟨Nat.le_of_ble_eq_true rfl, Nat.le_of_ble_eq_true rfl⟩) hS (fun q _ h => MA.le hS.1 q h) (MA.le hS.1) (fun r9 x t H locs ht hvm hw hB _ _ hS => ?_)
    have hP := mB.at ht hB
    clear hB ht hvm
    obtain ⟨rfl, hw⟩ := hw
    have hP : va_P (dC, dI) vwCl (mw ar cy st sl) _ := hP
    rcases hw with rfl | rfl
    · refine lv_if_eq (tgt := 26) hx hb dX12_readLine_18 (by decide) (fun cc => absurd cc (by decide)) (fun _ => ?_)
      refine lv_aload_n hx hb dX12_readLine_21 rfl (lv_at hl 0 rfl) ?_
      refine va_calli (va_runV (As := []) (rest := []) ⟨hx, hb, hml, hown, hts⟩ (m_readPerson l dC dI ar cy _ hN st sl ga gb  hG.1 ((⟨by rw [hT.1], by rw [hT.2.1], by omega, by omega⟩ : TS st ga gb))) (cwV 0 hts gX12_readLine_X12_readPerson rfl rfl rfl (by decide +kernel) ⟨Nat.le_of_ble_eq_true rfl, Nat.le_of_ble_eq_true rfl⟩) ⟨fun a U g mk q => ⟨q.1, mPre.blind q.2⟩, va_recv hK hP (ci := 11) (q0 := 0) rfl rfl, fun U hU hW => ⟨rfl, mPre.of hP hK hU hW⟩⟩ rfl rfl hl.1 rfl (lv_room (Nat.le_of_ble_eq_true rfl)) dX12_readLine_22 ⟨Nat.le_of_ble_eq_true rfl, Nat.le_of_ble_eq_true rfl⟩) hS (fun q _ h => MA.le hS.1 q h) (MA.le hS.1) (fun r10 x t H locs ht hvm hw hB _ _ hS => ?_)
      have hP := mB.at ht hB
      clear hB ht hvm
      obtain ⟨st11, sl12⟩ := x
      obtain ⟨hG2, hL2, hw⟩ := hw
      have hL : LQ [7, 9] sl sl12 := hL.tr hL2 (by decide)
      clear hL2
      dsimp only at hw
      have hP : va_P (dC, dI) vwCl (mw ar cy st11 sl12) _ := hP
      have hG : MG [1, 2, 3, 6, 7, 8, 9, 10, 11, 12, 13, 14, 15, 20, 21, 22] st st11 := hG.tr hG2 (by decide)
      have hGst11 : MG [1, 2, 3, 6, 7, 8, 9, 10, 11, 12, 13, 14, 15, 20, 21, 22] st st11 := hG2
      clear hG2
      rcases hw with ⟨n13, rfl, hf14, hf15, hf16⟩ | rfl
      · have hf14c := hf14.2.2.1
        have hf14d := hf14.2.2.2
        exact W.zret (v := 1) hx hb hr rfl (fun t ht hW => ⟨⟨1, (st11, sl12), rfl, ⟨hG, hL, Or.inl (⟨n13, rfl, (show TS st11 n13 gb from ⟨by rw [hf14.1], by rw [hf14.2.1], by omega, by omega⟩), by omega, fun (hh : st11 0 7 = 4) => by have hk := hf16 (by exact hh); omega⟩)⟩, mB.of ht hP⟩, hS.F ht⟩) hS.2.2 dX12_readLine_25
      · exact W.zret (v := 0) hx hb hr rfl (fun t ht hW => ⟨⟨0, (st11, sl12), rfl, ⟨hG, hL, Or.inr (rfl)⟩, mB.of ht hP⟩, hS.F ht⟩) hS.2.2 dX12_readLine_25
    · refine lv_if_eq (tgt := 26) hx hb dX12_readLine_18 (by decide) (fun _ => ?_) (fun cc => absurd (by decide) cc)
      refine lv_aload_n hx hb dX12_readLine_26 rfl (lv_at hl 0 rfl) ?_
      refine lv_iconst (v := 3) hx hb dX12_readLine_27 (by decide) ?_
      refine va_calli (va_runV (As := [.int 3]) (rest := []) ⟨hx, hb, hml, hown, hts⟩ (m_isWord l dC dI ar cy _ hN st sl 3  hG.1) (cwV 1 hts gX12_readLine_X12_isWord rfl rfl rfl (by decide +kernel) ⟨Nat.le_of_ble_eq_true rfl, Nat.le_of_ble_eq_true rfl⟩) ⟨fun a U g mk q => ⟨q.1, mPre.blind q.2⟩, va_recv hK hP (ci := 11) (q0 := 0) rfl rfl, fun U hU hW => ⟨rfl, mPre.of hP hK hU hW⟩⟩ rfl rfl hl.1 rfl (lv_room (Nat.le_of_ble_eq_true rfl)) dX12_readLine_28 ⟨Nat.le_of_ble_eq_true rfl, Nat.le_of_ble_eq_true rfl⟩) hS (fun q _ h => MA.le hS.1 q h) (MA.le hS.1) (fun r17 x t H locs ht hvm hw hB _ _ hS => ?_)
      have hP := mB.at ht hB
      clear hB ht hvm
      obtain ⟨rfl, hw⟩ := hw
      have hP : va_P (dC, dI) vwCl (mw ar cy st sl) _ := hP
      rcases hw with rfl | rfl
      · refine lv_if_eq (tgt := 39) hx hb dX12_readLine_31 (by decide) (fun cc => absurd cc (by decide)) (fun _ => ?_)
        refine lv_aload_n hx hb dX12_readLine_34 rfl (lv_at hl 0 rfl) ?_
        refine va_calli (va_runV (As := []) (rest := []) ⟨hx, hb, hml, hown, hts⟩ (m_readDog l dC dI ar cy _ hN st sl ga gb  hG.1 ((⟨by rw [hT.1], by rw [hT.2.1], by omega, by omega⟩ : TS st ga gb))) (cwV 0 hts gX12_readLine_X12_readDog rfl rfl rfl (by decide +kernel) ⟨Nat.le_of_ble_eq_true rfl, Nat.le_of_ble_eq_true rfl⟩) ⟨fun a U g mk q => ⟨q.1, mPre.blind q.2⟩, va_recv hK hP (ci := 11) (q0 := 0) rfl rfl, fun U hU hW => ⟨rfl, mPre.of hP hK hU hW⟩⟩ rfl rfl hl.1 rfl (lv_room (Nat.le_of_ble_eq_true rfl)) dX12_readLine_35 ⟨Nat.le_of_ble_eq_true rfl, Nat.le_of_ble_eq_true rfl⟩) hS (fun q _ h => MA.le hS.1 q h) (MA.le hS.1) (fun r18 x t H locs ht hvm hw hB _ _ hS => ?_)
        have hP := mB.at ht hB
        clear hB ht hvm
        obtain ⟨st19, sl20⟩ := x
        obtain ⟨hG2, hL2, hw⟩ := hw
        have hL : LQ [7, 9] sl sl20 := hL.tr hL2 (by decide)
        clear hL2
        dsimp only at hw
        have hP : va_P (dC, dI) vwCl (mw ar cy st19 sl20) _ := hP
        have hG : MG [1, 2, 3, 6, 7, 8, 9, 10, 11, 12, 13, 14, 15, 20, 21, 22] st st19 := hG.tr hG2 (by decide)
        have hGst19 : MG [1, 2, 3, 6, 7, 8, 9, 10, 11, 12, 13, 14, 15, 20, 21, 22] st st19 := hG2
        clear hG2
        rcases hw with ⟨n21, rfl, hf22, hf23, hf24⟩ | rfl
        · have hf22c := hf22.2.2.1
          have hf22d := hf22.2.2.2
          exact W.zret (v := 1) hx hb hr rfl (fun t ht hW => ⟨⟨1, (st19, sl20), rfl, ⟨hG, hL, Or.inl (⟨n21, rfl, (show TS st19 n21 gb from ⟨by rw [hf22.1], by rw [hf22.2.1], by omega, by omega⟩), by omega, fun (hh : st19 0 7 = 4) => by have hk := hf24 (by exact hh); omega⟩)⟩, mB.of ht hP⟩, hS.F ht⟩) hS.2.2 dX12_readLine_38
        · exact W.zret (v := 0) hx hb hr rfl (fun t ht hW => ⟨⟨0, (st19, sl20), rfl, ⟨hG, hL, Or.inr (rfl)⟩, mB.of ht hP⟩, hS.F ht⟩) hS.2.2 dX12_readLine_38
      · refine lv_if_eq (tgt := 39) hx hb dX12_readLine_31 (by decide) (fun _ => ?_) (fun cc => absurd (by decide) cc)
        refine lv_aload_n hx hb dX12_readLine_39 rfl (lv_at hl 0 rfl) ?_
        refine lv_iconst (v := 4) hx hb dX12_readLine_40 (by decide) ?_
        refine va_calli (va_runV (As := [.int 4]) (rest := []) ⟨hx, hb, hml, hown, hts⟩ (m_isWord l dC dI ar cy _ hN st sl 4  hG.1) (cwV 1 hts gX12_readLine_X12_isWord rfl rfl rfl (by decide +kernel) ⟨Nat.le_of_ble_eq_true rfl, Nat.le_of_ble_eq_true rfl⟩) ⟨fun a U g mk q => ⟨q.1, mPre.blind q.2⟩, va_recv hK hP (ci := 11) (q0 := 0) rfl rfl, fun U hU hW => ⟨rfl, mPre.of hP hK hU hW⟩⟩ rfl rfl hl.1 rfl (lv_room (Nat.le_of_ble_eq_true rfl)) dX12_readLine_41 ⟨Nat.le_of_ble_eq_true rfl, Nat.le_of_ble_eq_true rfl⟩) hS (fun q _ h => MA.le hS.1 q h) (MA.le hS.1) (fun r25 x t H locs ht hvm hw hB _ _ hS => ?_)
        have hP := mB.at ht hB
        clear hB ht hvm
        obtain ⟨rfl, hw⟩ := hw
        have hP : va_P (dC, dI) vwCl (mw ar cy st sl) _ := hP
        rcases hw with rfl | rfl
        · refine lv_if_eq (tgt := 52) hx hb dX12_readLine_44 (by decide) (fun cc => absurd cc (by decide)) (fun _ => ?_)
          refine lv_aload_n hx hb dX12_readLine_47 rfl (lv_at hl 0 rfl) ?_
          refine va_calli (va_runV (As := []) (rest := []) ⟨hx, hb, hml, hown, hts⟩ (m_readFree l dC dI ar cy _ hN st sl ga gb  hG.1 ((⟨by rw [hT.1], by rw [hT.2.1], by omega, by omega⟩ : TS st ga gb))) (cwV 0 hts gX12_readLine_X12_readFree rfl rfl rfl (by decide +kernel) ⟨Nat.le_of_ble_eq_true rfl, Nat.le_of_ble_eq_true rfl⟩) ⟨fun a U g mk q => ⟨q.1, mPre.blind q.2⟩, va_recv hK hP (ci := 11) (q0 := 0) rfl rfl, fun U hU hW => ⟨rfl, mPre.of hP hK hU hW⟩⟩ rfl rfl hl.1 rfl (lv_room (Nat.le_of_ble_eq_true rfl)) dX12_readLine_48 ⟨Nat.le_of_ble_eq_true rfl, Nat.le_of_ble_eq_true rfl⟩) hS (fun q _ h => MA.le hS.1 q h) (MA.le hS.1) (fun r26 x t H locs ht hvm hw hB _ _ hS => ?_)
          have hP := mB.at ht hB
          clear hB ht hvm
          obtain ⟨st27, sl28⟩ := x
          obtain ⟨hG2, hL2, hw⟩ := hw
          have hL : LQ [7, 9] sl sl28 := hL.tr hL2 (by decide)
          clear hL2
          dsimp only at hw
          have hP : va_P (dC, dI) vwCl (mw ar cy st27 sl28) _ := hP
          have hG : MG [1, 2, 3, 6, 7, 8, 9, 10, 11, 12, 13, 14, 15, 20, 21, 22] st st27 := hG.tr hG2 (by decide)
          have hGst27 : MG [1, 2, 3, 6, 7, 8, 9, 10, 11, 12, 13, 14, 15, 20, 21, 22] st st27 := hG2
          clear hG2
          rcases hw with ⟨n29, rfl, hf30, hf31, hf32⟩ | rfl
          · have hf30c := hf30.2.2.1
            have hf30d := hf30.2.2.2
            exact W.zret (v := 1) hx hb hr rfl (fun t ht hW => ⟨⟨1, (st27, sl28), rfl, ⟨hG, hL, Or.inl (⟨n29, rfl, (show TS st27 n29 gb from ⟨by rw [hf30.1], by rw [hf30.2.1], by omega, by omega⟩), by omega, fun (hh : st27 0 7 = 4) => by have hk := hf32 (by exact hh); omega⟩)⟩, mB.of ht hP⟩, hS.F ht⟩) hS.2.2 dX12_readLine_51
          · exact W.zret (v := 0) hx hb hr rfl (fun t ht hW => ⟨⟨0, (st27, sl28), rfl, ⟨hG, hL, Or.inr (rfl)⟩, mB.of ht hP⟩, hS.F ht⟩) hS.2.2 dX12_readLine_51
        · refine lv_if_eq (tgt := 52) hx hb dX12_readLine_44 (by decide) (fun _ => ?_) (fun cc => absurd (by decide) cc)
          refine lv_aload_n hx hb dX12_readLine_52 rfl (lv_at hl 0 rfl) ?_
          refine lv_iconst (v := 5) hx hb dX12_readLine_53 (by decide) ?_
          refine va_calli (va_runV (As := [.int 5]) (rest := []) ⟨hx, hb, hml, hown, hts⟩ (m_isWord l dC dI ar cy _ hN st sl 5  hG.1) (cwV 1 hts gX12_readLine_X12_isWord rfl rfl rfl (by decide +kernel) ⟨Nat.le_of_ble_eq_true rfl, Nat.le_of_ble_eq_true rfl⟩) ⟨fun a U g mk q => ⟨q.1, mPre.blind q.2⟩, va_recv hK hP (ci := 11) (q0 := 0) rfl rfl, fun U hU hW => ⟨rfl, mPre.of hP hK hU hW⟩⟩ rfl rfl hl.1 rfl (lv_room (Nat.le_of_ble_eq_true rfl)) dX12_readLine_54 ⟨Nat.le_of_ble_eq_true rfl, Nat.le_of_ble_eq_true rfl⟩) hS (fun q _ h => MA.le hS.1 q h) (MA.le hS.1) (fun r33 x t H locs ht hvm hw hB _ _ hS => ?_)
          have hP := mB.at ht hB
          clear hB ht hvm
          obtain ⟨rfl, hw⟩ := hw
          have hP : va_P (dC, dI) vwCl (mw ar cy st sl) _ := hP
          rcases hw with rfl | rfl
          · refine lv_if_ne (tgt := 66) hx hb dX12_readLine_57 (by decide) (fun _ => ?_) (fun cc => absurd cc (by decide))
            refine lv_aload_n hx hb dX12_readLine_66 rfl (lv_at hl 0 rfl) ?_
            refine va_get (D := (dC, dI)) (ci := 11) (v := .int (st 0 24)) (C := RX12) (T := TX12) (N := 47) hx hb hts ii_X12_readLine hown hK hP 0 rfl rfl 24 (by decide) (hts _ mm_X12_readLine_1) (fun _ hh => hh) rfl dX12_readLine_67 ?_
            refine lv_topi (fun z34 ez34 => ?_)
            refine lv_if_eq (tgt := 79) hx hb dX12_readLine_70 (by decide) (fun c10 => ?_) (fun c10 => ?_)
            · refine lv_aload_n hx hb dX12_readLine_79 rfl (lv_at hl 0 rfl) ?_
              refine lv_iconst (v := 1) hx hb dX12_readLine_80 (by decide) ?_
              refine va_put (D := (dC, dI)) (ci := 11) (v := .int 1) (ty := .boolean) (C := RX12) (T := TX12) (N := 47) hx hb hts ii_X12_readLine tyX12 tyX12_ok nmX12 hown hK hP (mD hN _ _ _ _) hS 0 rfl rfl 24 (by decide) (hts _ mm_X12_readLine_1) (fun _ hh => hh) rfl (by decide +kernel) rfl rfl (Nat.le_of_ble_eq_true rfl) dX12_readLine_81 (fun H locs hP _ hS => ?_)
              have hP : va_P (dC, dI) vwCl (mw ar cy (up2 st 0 24 1) sl) H := hP
              obtain ⟨st35, est35⟩ : ∃ y, y = up2 st 0 24 1 := ⟨_, rfl⟩
              have hG : MG [1, 2, 3, 6, 7, 8, 9, 10, 11, 12, 13, 14, 15, 20, 21, 22] st st35 := by rw [est35]; exact hG.up (rz (by decide : mr 0 24 = 0)) (pn (by decide : pcl 0 24 = 0) (by decide))
              rw [← est35] at hP
              refine lv_aload_n hx hb dX12_readLine_84 rfl (lv_at hl 0 rfl) ?_
              refine va_callv (va_runV (As := []) (rest := []) ⟨hx, hb, hml, hown, hts⟩ (m_go l dC dI ar cy _ hN st35 sl ga gb  hG.1 ((⟨by rw [est35, up2_ne (r := 0) (k := 24) (a := 0) (j := 5) _ _ (by omega), hT.1], by rw [est35, up2_ne (r := 0) (k := 24) (a := 0) (j := 3) _ _ (by omega), hT.2.1], by omega, by omega⟩ : TS st35 ga gb))) (cwV 0 hts gX12_readLine_X12_go rfl rfl rfl (by decide +kernel) ⟨Nat.le_of_ble_eq_true rfl, Nat.le_of_ble_eq_true rfl⟩) ⟨fun a U g mk q => ⟨q.1, mPre.blind q.2⟩, va_recv hK hP (ci := 11) (q0 := 0) rfl rfl, fun U hU hW => ⟨rfl, mPre.of hP hK hU hW⟩⟩ rfl rfl hl.1 rfl (lv_room (Nat.le_of_ble_eq_true rfl)) dX12_readLine_85 ⟨Nat.le_of_ble_eq_true rfl, Nat.le_of_ble_eq_true rfl⟩) hS (fun q _ h => MA.le hS.1 q h) (MA.le hS.1) (fun x t H locs ht hvm hw hB _ _ hS => ?_)
              have hP := mB.at ht hB
              clear hB ht hvm
              obtain ⟨st37, sl38⟩ := x
              obtain ⟨hG2, hL2, hw⟩ := hw
              have hL : LQ [7, 9] sl sl38 := hL.tr hL2 (by decide)
              clear hL2
              dsimp only at hw
              have hP : va_P (dC, dI) vwCl (mw ar cy st37 sl38) _ := hP
              have hG : MG [1, 2, 3, 6, 7, 8, 9, 10, 11, 12, 13, 14, 15, 20, 21, 22] st st37 := hG.tr hG2 (by decide)
              have hGst37 : MG [1, 2, 3, 6, 7, 8, 9, 10, 11, 12, 13, 14, 15, 16, 19, 20, 21, 22, 23] st35 st37 := hG2
              clear hG2
              obtain ⟨n39, hf40, hf41, hf42⟩ := hw
              have hf40c := hf40.2.2.1
              have hf40d := hf40.2.2.2
              refine lv_aload_n hx hb dX12_readLine_88 rfl (lv_at hl 0 rfl) ?_
              refine lv_bipush (v := 60) hx hb dX12_readLine_89 (by decide) ?_
              refine lv_aload_n hx hb dX12_readLine_91 rfl (lv_at hl 0 rfl) ?_
              refine lv_iconst (v := 0) hx hb dX12_readLine_92 (by decide) ?_
              refine lv_bipush (v := 12) hx hb dX12_readLine_93 (by decide) ?_
              refine va_calli (va_runV (As := [.int 0, .int 12]) (rest := [.int 60, .ref (ar 0)]) ⟨hx, hb, hml, hown, hts⟩ (m_readNumber l dC dI ar cy _ hN st37 sl38 0 12 n39 gb  hG.1 ((⟨by rw [hf40.1], by rw [hf40.2.1], by omega, by omega⟩ : TS st37 n39 gb))) (cwV 2 hts gX12_readLine_X12_readNumber rfl rfl rfl (by decide +kernel) ⟨Nat.le_of_ble_eq_true rfl, Nat.le_of_ble_eq_true rfl⟩) ⟨fun a U g mk q => ⟨q.1, mPre.blind q.2⟩, va_recv hK hP (ci := 11) (q0 := 0) rfl rfl, fun U hU hW => ⟨rfl, mPre.of hP hK hU hW⟩⟩ rfl rfl hl.1 rfl (lv_room (Nat.le_of_ble_eq_true rfl)) dX12_readLine_95 ⟨Nat.le_of_ble_eq_true rfl, Nat.le_of_ble_eq_true rfl⟩) hS (fun q _ h => MA.le hS.1 q h) (MA.le hS.1) (fun r43 x t H locs ht hvm hw hB _ _ hS => ?_)
              have hP := mB.at ht hB
              clear hB ht hvm
              obtain ⟨st44, sl45⟩ := x
              obtain ⟨hG2, hL2, hw⟩ := hw
              have hL : LQ [7, 9] sl sl45 := hL.tr hL2 (by decide)
              clear hL2
              dsimp only at hw
              have hP : va_P (dC, dI) vwCl (mw ar cy st44 sl45) _ := hP
              have hG : MG [1, 2, 3, 6, 7, 8, 9, 10, 11, 12, 13, 14, 15, 20, 21, 22] st st44 := hG.tr hG2 (by decide)
              have hGst44 : MG [1, 2, 3, 6, 7, 8, 9, 10, 11, 12, 13, 14, 15, 19, 20, 21, 22] st37 st44 := hG2
              clear hG2
              rcases hw with ⟨n46, z47, rfl, hf48, hf49, hf50, hf51, hf52, hf53⟩ | rfl
              · have hf48c := hf48.2.2.1
                have hf48d := hf48.2.2.2
                obtain ⟨n54, hn54a, hn54b, rfl⟩ := zz_rng (a := 0) (b := 12) (by omega) hf52 (by omega) hf53
                refine va_calli (va_runV (As := [.int 60, .int 1]) (rest := []) ⟨hx, hb, hml, hown, hts⟩ (m_put60 l dC dI ar cy _ hN st44 sl45  hG.1 (⟨n54, by omega, by rw [hf51]⟩)) (cwV 2 hts gX12_readLine_X12_put rfl rfl rfl (by decide +kernel) ⟨Nat.le_of_ble_eq_true rfl, Nat.le_of_ble_eq_true rfl⟩) ⟨fun a U g mk q => ⟨q.1, mPre.blind q.2⟩, va_recv hK hP (ci := 11) (q0 := 0) rfl rfl, fun U hU hW => ⟨rfl, mPre.of hP hK hU hW⟩⟩ rfl rfl hl.1 rfl (lv_room (Nat.le_of_ble_eq_true rfl)) dX12_readLine_98 ⟨Nat.le_of_ble_eq_true rfl, Nat.le_of_ble_eq_true rfl⟩) hS (fun q _ h => MA.le hS.1 q h) (MA.le hS.1) (fun r55 x t H locs ht hvm hw hB _ _ hS => ?_)
                have hP := mB.at ht hB
                clear hB ht hvm
                obtain ⟨st56, sl57⟩ := x
                obtain ⟨hG2, hL2, hw⟩ := hw
                have hL : LQ [7, 9] sl sl57 := hL.tr hL2 (by decide)
                clear hL2
                have hP : va_P (dC, dI) vwCl (mw ar cy st56 sl57) _ := hP
                have hG : MG [1, 2, 3, 6, 7, 8, 9, 10, 11, 12, 13, 14, 15, 20, 21, 22] st st56 := hG.tr hG2 (by decide)
                have hGst56 : MG [1, 2, 3, 4, 5, 6, 7, 8, 9, 10, 11, 12, 13, 14, 15, 16, 17, 19, 20, 21, 22, 23] st44 st56 := hG2
                clear hG2
                obtain rfl := hw
                exact W.zret (v := 1) hx hb hr rfl (fun t ht hW => ⟨⟨1, (st56, sl57), rfl, ⟨hG, hL, Or.inl (⟨n46, rfl, (show TS st56 n46 gb from ⟨by rw [hGst56.2 0 5 (by decide), hf48.1], by rw [hGst56.2 0 3 (by decide), hf48.2.1], by omega, by omega⟩), by omega, fun (hh : st56 0 7 = 4) => by have hk := hf50 (by rw [hGst56.2 0 7 (by decide)] at hh; exact hh); omega⟩)⟩, mB.of ht hP⟩, hS.F ht⟩) hS.2.2 dX12_readLine_101
              · refine va_calli (va_runV (As := [.int 60, .int 0]) (rest := []) ⟨hx, hb, hml, hown, hts⟩ (m_put0 l dC dI ar cy _ hN st44 sl45 60  hG.1) (cwV 2 hts gX12_readLine_X12_put rfl rfl rfl (by decide +kernel) ⟨Nat.le_of_ble_eq_true rfl, Nat.le_of_ble_eq_true rfl⟩) ⟨fun a U g mk q => ⟨q.1, mPre.blind q.2⟩, va_recv hK hP (ci := 11) (q0 := 0) rfl rfl, fun U hU hW => ⟨rfl, mPre.of hP hK hU hW⟩⟩ rfl rfl hl.1 rfl (lv_room (Nat.le_of_ble_eq_true rfl)) dX12_readLine_98 ⟨Nat.le_of_ble_eq_true rfl, Nat.le_of_ble_eq_true rfl⟩) hS (fun q _ h => MA.le hS.1 q h) (MA.le hS.1) (fun r58 x t H locs ht hvm hw hB _ _ hS => ?_)
                have hP := mB.at ht hB
                clear hB ht hvm
                obtain ⟨rfl, hw⟩ := hw
                have hP : va_P (dC, dI) vwCl (mw ar cy st44 sl45) _ := hP
                obtain rfl := hw
                exact W.zret (v := 0) hx hb hr rfl (fun t ht hW => ⟨⟨0, (st44, sl45), rfl, ⟨hG, hL, Or.inr (rfl)⟩, mB.of ht hP⟩, hS.F ht⟩) hS.2.2 dX12_readLine_101
            · refine lv_aload_n hx hb dX12_readLine_73 rfl (lv_at hl 0 rfl) ?_
              refine lv_iconst (v := 3) hx hb dX12_readLine_74 (by decide) ?_
              refine va_calli (va_runV (As := [.int 3]) (rest := []) ⟨hx, hb, hml, hown, hts⟩ (m_bad l dC dI ar cy _ hN st sl 3  hG.1) (cwV 1 hts gX12_readLine_X12_bad rfl rfl rfl (by decide +kernel) ⟨Nat.le_of_ble_eq_true rfl, Nat.le_of_ble_eq_true rfl⟩) ⟨fun a U g mk q => ⟨q.1, mPre.blind q.2⟩, va_recv hK hP (ci := 11) (q0 := 0) rfl rfl, fun U hU hW => ⟨rfl, mPre.of hP hK hU hW⟩⟩ rfl rfl hl.1 rfl (lv_room (Nat.le_of_ble_eq_true rfl)) dX12_readLine_75 ⟨Nat.le_of_ble_eq_true rfl, Nat.le_of_ble_eq_true rfl⟩) hS (fun q _ h => MA.le hS.1 q h) (MA.le hS.1) (fun r59 x t H locs ht hvm hw hB _ _ hS => ?_)
              have hP := mB.at ht hB
              clear hB ht hvm
              obtain ⟨st60, sl61⟩ := x
              obtain ⟨hG2, hL2, hw⟩ := hw
              have hL : LQ [7, 9] sl sl61 := hL.tr hL2 (by decide)
              clear hL2
              have hP : va_P (dC, dI) vwCl (mw ar cy st60 sl61) _ := hP
              have hG : MG [1, 2, 3, 6, 7, 8, 9, 10, 11, 12, 13, 14, 15, 20, 21, 22] st st60 := hG.tr hG2 (by decide)
              have hGst60 : MG [1, 2, 3, 4, 5, 6, 7, 8, 9, 10, 11, 12, 13, 14, 15, 16, 17, 19, 20, 21, 22] st st60 := hG2
              clear hG2
              obtain rfl := hw
              exact W.zret (v := 0) hx hb hr rfl (fun t ht hW => ⟨⟨0, (st60, sl61), rfl, ⟨hG, hL, Or.inr (rfl)⟩, mB.of ht hP⟩, hS.F ht⟩) hS.2.2 dX12_readLine_78
          · refine lv_if_ne (tgt := 66) hx hb dX12_readLine_57 (by decide) (fun cc => absurd (by decide) cc) (fun _ => ?_)
            refine lv_aload_n hx hb dX12_readLine_60 rfl (lv_at hl 0 rfl) ?_
            refine lv_iconst (v := 1) hx hb dX12_readLine_61 (by decide) ?_
            refine va_calli (va_runV (As := [.int 1]) (rest := []) ⟨hx, hb, hml, hown, hts⟩ (m_bad l dC dI ar cy _ hN st sl 1  hG.1) (cwV 1 hts gX12_readLine_X12_bad rfl rfl rfl (by decide +kernel) ⟨Nat.le_of_ble_eq_true rfl, Nat.le_of_ble_eq_true rfl⟩) ⟨fun a U g mk q => ⟨q.1, mPre.blind q.2⟩, va_recv hK hP (ci := 11) (q0 := 0) rfl rfl, fun U hU hW => ⟨rfl, mPre.of hP hK hU hW⟩⟩ rfl rfl hl.1 rfl (lv_room (Nat.le_of_ble_eq_true rfl)) dX12_readLine_62 ⟨Nat.le_of_ble_eq_true rfl, Nat.le_of_ble_eq_true rfl⟩) hS (fun q _ h => MA.le hS.1 q h) (MA.le hS.1) (fun r62 x t H locs ht hvm hw hB _ _ hS => ?_)
            have hP := mB.at ht hB
            clear hB ht hvm
            obtain ⟨st63, sl64⟩ := x
            obtain ⟨hG2, hL2, hw⟩ := hw
            have hL : LQ [7, 9] sl sl64 := hL.tr hL2 (by decide)
            clear hL2
            have hP : va_P (dC, dI) vwCl (mw ar cy st63 sl64) _ := hP
            have hG : MG [1, 2, 3, 6, 7, 8, 9, 10, 11, 12, 13, 14, 15, 20, 21, 22] st st63 := hG.tr hG2 (by decide)
            have hGst63 : MG [1, 2, 3, 4, 5, 6, 7, 8, 9, 10, 11, 12, 13, 14, 15, 16, 17, 19, 20, 21, 22] st st63 := hG2
            clear hG2
            obtain rfl := hw
            exact W.zret (v := 0) hx hb hr rfl (fun t ht hW => ⟨⟨0, (st63, sl64), rfl, ⟨hG, hL, Or.inr (rfl)⟩, mB.of ht hP⟩, hS.F ht⟩) hS.2.2 dX12_readLine_65
set_option maxHeartbeats 4000000 in
set_option maxRecDepth 100000 in
theorem m_startSo (l : Launch) (dC : Nat → ClassId) (dI : Nat → Nat → Nat) (ar : Nat → Nat) (cy : Nat → ClassId) (sz : Nat) (hN : MN ar) (st : Nat → Nat → Int32) (sl : Nat → Nat → Int64) (hI : MI st) : Met l yX12_startSo wsX12_startSo ({ frames := 0, cells := 0, slots := 0, locals := 0 }) (va_Pc [.ref (ar 0)] (mPre dC dI ar cy sz st sl)) (va_Qv (fun (x : MT) => MG [1, 2, 3, 4, 5, 7, 8, 9, 10, 11, 12, 13, 14, 15, 16, 17, 19, 20, 21, 22, 23] st x.1 ∧ LQ [7, 9] sl x.2 ∧ (∀ j, 133 ≤ j → j < 373 → x.1 2 j = 0)) (mB dC dI ar cy) (MA ar sz)) 0 0 (MA ar sz) := by
  refine Met.ofW (cc := cX12_startSo) (maxL := 2) (ret := none) (by decide) rfl ?_
  intro p e s m args below meth c s₁ B hml hv
  obtain ⟨rfl, hsz, hP, hK⟩ := hv
  have hx := B.exec
  have hb := B.bytes
  have hr := B.returns
  have hts := atoms_spec (ws := wsX12_startSo) B.pre
  have hown : s.vm.findClass RX12 = some m.cls := findClass_of_methodNamed B.named
  subst hsz
  have hS : va_S (MA ar s.heap.size) s.heap s.heap [] := va_S.rf
  have hG : MG [1, 2, 3, 4, 5, 7, 8, 9, 10, 11, 12, 13, 14, 15, 16, 17, 19, 20, 21, 22, 23] st st := MG.rf hI
  have hl := lv_entry ([.ref (ar 0)]) (n := 2) (Nat.le_of_ble_eq_true rfl)
  rw [lg_entry_eq]
  generalize (lg_sl ([.ref (ar 0)]) ++ List.replicate (2 - (lg_sl ([.ref (ar 0)])).length) Slot.unset).toArray = ls at hl ⊢
  have hl : lv_has ls 2 [(0, .ref (ar 0))] := hl
  clear hI
  have hL : LQ [7, 9] sl sl := LQ.rf
  refine lv_bipush (v := 61) hx hb dX12_startSo_0 (by decide) ?_
  refine lv_istore_n (lv' := [(1, .int 61), (0, .ref (ar 0))]) hx hb dX12_startSo_2 rfl hl (by decide) rfl (fun ls hl => ?_)
  refine zz_wf (fun n stk H locs ls => ∃ k1 : Nat, ∃ st2 : Nat → Nat → Int32, ∃ sl3 : Nat → Nat → Int64, n = 374 - k1 ∧ 61 ≤ k1 ∧ k1 < 374 ∧ (∀ j, 133 ≤ j → j < k1 → st2 2 j = 0) ∧ va_P (dC, dI) vwCl (mw ar cy st2 sl3) H ∧ MG [1, 2, 3, 4, 5, 7, 8, 9, 10, 11, 12, 13, 14, 15, 16, 17, 19, 20, 21, 22, 23] st st2 ∧ LQ [7, 9] sl sl3 ∧ va_S (MA ar s.heap.size) s.heap H locs ∧ lv_has ls 2 [(1, .int (nI k1)), (0, .ref (ar 0))] ∧ stk = []) ?_ (374 - 61) _ _ _ _ ⟨61, st, sl, rfl, by omega, by omega, by intro jj hk hh; omega, hP, hG, hL, hS, lv_sub hl [0, 1] rfl, rfl⟩
  rintro nn stk H locs ls ⟨k1, st2, sl3, hm6, hv4_0, hv5_1, hv6_0, hP, hG, hL, hS, hl, rfl⟩ ih7
  refine lv_iload_n hx hb dX12_startSo_3 rfl (lv_at hl 0 rfl) ?_
  refine lv_sipush (v := 373) hx hb dX12_startSo_4 (by decide) ?_
  refine lv_icmp_ge (tgt := 23) hx hb dX12_startSo_7 (by decide) (fun c1 => ?_) (fun c1 => ?_)
  · have c1 : 373 ≤ k1 := (nI_leI (a := 373) (b := k1) (by omega) (by omega)).mp c1
    have hZ : ∀ j, 133 ≤ j → j < 373 → st2 2 j = 0 := fun jj hk hh => hv6_0 jj hk (by omega)
    refine lv_aload_n hx hb dX12_startSo_23 rfl (lv_at hl 1 rfl) ?_
    refine va_get (D := (dC, dI)) (ci := 11) (v := .ref (ar 2)) (C := RX12) (T := TX12) (N := 47) hx hb hts ii_X12_startSo hown hK hP 0 rfl rfl 14 (by decide) (hts _ mm_X12_startSo_1) (fun _ hh => hh) rfl dX12_startSo_24 ?_
    refine lv_bipush (v := 62) hx hb dX12_startSo_27 (by decide) ?_
    refine lv_aload_n hx hb dX12_startSo_29 rfl (lv_at hl 1 rfl) ?_
    refine va_get (D := (dC, dI)) (ci := 11) (v := .ref (ar 2)) (C := RX12) (T := TX12) (N := 47) hx hb hts ii_X12_startSo hown hK hP 0 rfl rfl 14 (by decide) (hts _ mm_X12_startSo_1) (fun _ hh => hh) rfl dX12_startSo_30 ?_
    refine lv_bipush (v := 60) hx hb dX12_startSo_33 (by decide) ?_
    refine va_iald hx hb hK hP 2 1 rfl rfl (i := 60) (zz_in (by decide)) dX12_startSo_35 ?_
    obtain ⟨n8, hn8, en8⟩ := hG.1.at (r := 2) (k := 60) (by decide : mr 2 60 = 13) (by decide)
    refine zz_top (v := nI n8) (by exact en8) ?_
    refine va_iast hx hb hK hP (mD hN _ _ _ _) hS 2 1 rfl rfl (i := 62) (zz_in (by decide)) dX12_startSo_36 (fun H locs hP _ hS => ?_)
    have hP : va_P (dC, dI) vwCl (mw ar cy (up2 st2 2 62 (nI n8)) sl3) H := hP
    obtain ⟨st9, est9⟩ : ∃ y, y = up2 st2 2 62 (nI n8) := ⟨_, rfl⟩
    have hG : MG [1, 2, 3, 4, 5, 7, 8, 9, 10, 11, 12, 13, 14, 15, 16, 17, 19, 20, 21, 22, 23] st st9 := by rw [est9]; exact hG.up (rn (n := n8) (by decide : mr 2 62 = 13) (by omega)) (pn (by decide : pcl 2 62 = 0) (by decide))
    rw [← est9] at hP
    have hZ : ∀ j, 133 ≤ j → j < 373 → st9 2 j = 0 := fun jj hk hh => by rw [est9, up2_ne (r := 2) (k := 62) (a := 2) (j := jj) _ _ (by omega)]; exact hZ jj hk hh
    refine lv_aload_n hx hb dX12_startSo_37 rfl (lv_at hl 1 rfl) ?_
    refine va_get (D := (dC, dI)) (ci := 11) (v := .ref (ar 2)) (C := RX12) (T := TX12) (N := 47) hx hb hts ii_X12_startSo hown hK hP 0 rfl rfl 14 (by decide) (hts _ mm_X12_startSo_1) (fun _ hh => hh) rfl dX12_startSo_38 ?_
    refine lv_bipush (v := 65) hx hb dX12_startSo_41 (by decide) ?_
    refine lv_aload_n hx hb dX12_startSo_43 rfl (lv_at hl 1 rfl) ?_
    refine va_get (D := (dC, dI)) (ci := 11) (v := .ref (ar 2)) (C := RX12) (T := TX12) (N := 47) hx hb hts ii_X12_startSo hown hK hP 0 rfl rfl 14 (by decide) (hts _ mm_X12_startSo_1) (fun _ hh => hh) rfl dX12_startSo_44 ?_
    refine lv_bipush (v := 9) hx hb dX12_startSo_47 (by decide) ?_
    refine va_iald hx hb hK hP 2 1 rfl rfl (i := 9) (zz_in (by decide)) dX12_startSo_49 ?_
    refine lv_topi (fun z10 ez10 => ?_)
    refine va_iast hx hb hK hP (mD hN _ _ _ _) hS 2 1 rfl rfl (i := 65) (zz_in (by decide)) dX12_startSo_50 (fun H locs hP _ hS => ?_)
    have hP : va_P (dC, dI) vwCl (mw ar cy (up2 st9 2 65 z10) sl3) H := hP
    obtain ⟨st11, est11⟩ : ∃ y, y = up2 st9 2 65 z10 := ⟨_, rfl⟩
    have hG : MG [1, 2, 3, 4, 5, 7, 8, 9, 10, 11, 12, 13, 14, 15, 16, 17, 19, 20, 21, 22, 23] st st11 := by rw [est11]; exact hG.up (rz (by decide : mr 2 65 = 0)) (pn (by decide : pcl 2 65 = 0) (by decide))
    rw [← est11] at hP
    have hZ : ∀ j, 133 ≤ j → j < 373 → st11 2 j = 0 := fun jj hk hh => by rw [est11, up2_ne (r := 2) (k := 65) (a := 2) (j := jj) _ _ (by omega)]; exact hZ jj hk hh
    refine lv_iconst (v := 0) hx hb dX12_startSo_51 (by decide) ?_
    refine lv_istore_n (lv' := [(1, .int 0), (0, .ref (ar 0))]) hx hb dX12_startSo_52 rfl hl (by decide) rfl (fun ls hl => ?_)
    refine zz_wf (fun n stk H locs ls => ∃ k12 : Nat, ∃ st13 : Nat → Nat → Int32, ∃ sl14 : Nat → Nat → Int64, n = 6 - k12 ∧ 0 ≤ k12 ∧ k12 < 6 ∧ (∀ j, 133 ≤ j → j < 373 → st13 2 j = 0) ∧ va_P (dC, dI) vwCl (mw ar cy st13 sl14) H ∧ MG [1, 2, 3, 4, 5, 7, 8, 9, 10, 11, 12, 13, 14, 15, 16, 17, 19, 20, 21, 22, 23] st st13 ∧ LQ [7, 9] sl sl14 ∧ va_S (MA ar s.heap.size) s.heap H locs ∧ lv_has ls 2 [(1, .int (nI k12)), (0, .ref (ar 0))] ∧ stk = []) ?_ (6 - 0) _ _ _ _ ⟨0, st11, sl3, rfl, by omega, by omega, hZ, hP, hG, hL, hS, lv_sub hl [0, 1] rfl, rfl⟩
    rintro nn stk H locs ls ⟨k12, st13, sl14, hm17, hv15_0, hv16_1, hv17_0, hP, hG, hL, hS, hl, rfl⟩ ih18
    refine lv_iload_n hx hb dX12_startSo_53 rfl (lv_at hl 0 rfl) ?_
    refine lv_iconst (v := 5) hx hb dX12_startSo_54 (by decide) ?_
    refine lv_icmp_ge (tgt := 81) hx hb dX12_startSo_55 (by decide) (fun c2 => ?_) (fun c2 => ?_)
    · have c2 : 5 ≤ k12 := (nI_leI (a := 5) (b := k12) (by omega) (by omega)).mp c2
      refine lv_iconst (v := 0) hx hb dX12_startSo_81 (by decide) ?_
      refine lv_istore_n (lv' := [(1, .int 0), (0, .ref (ar 0))]) hx hb dX12_startSo_82 rfl hl (by decide) rfl (fun ls hl => ?_)
      refine zz_wf (fun n stk H locs ls => ∃ k19 : Nat, ∃ st20 : Nat → Nat → Int32, ∃ sl21 : Nat → Nat → Int64, n = 9 - k19 ∧ 0 ≤ k19 ∧ k19 < 9 ∧ (∀ j, 133 ≤ j → j < 373 → st20 2 j = 0) ∧ va_P (dC, dI) vwCl (mw ar cy st20 sl21) H ∧ MG [1, 2, 3, 4, 5, 7, 8, 9, 10, 11, 12, 13, 14, 15, 16, 17, 19, 20, 21, 22, 23] st st20 ∧ LQ [7, 9] sl sl21 ∧ va_S (MA ar s.heap.size) s.heap H locs ∧ lv_has ls 2 [(1, .int (nI k19)), (0, .ref (ar 0))] ∧ stk = []) ?_ (9 - 0) _ _ _ _ ⟨0, st13, sl14, rfl, by omega, by omega, hv17_0, hP, hG, hL, hS, lv_sub hl [0, 1] rfl, rfl⟩
      rintro nn stk H locs ls ⟨k19, st20, sl21, hm24, hv22_0, hv23_1, hv24_0, hP, hG, hL, hS, hl, rfl⟩ ih25
      refine lv_iload_n hx hb dX12_startSo_83 rfl (lv_at hl 0 rfl) ?_
      refine lv_bipush (v := 8) hx hb dX12_startSo_84 (by decide) ?_
      refine lv_icmp_ge (tgt := 149) hx hb dX12_startSo_86 (by decide) (fun c3 => ?_) (fun c3 => ?_)
      · have c3 : 8 ≤ k19 := (nI_leI (a := 8) (b := k19) (by omega) (by omega)).mp c3
        exact W.vret hx hb hr (fun t ht hW => ⟨⟨(st20, sl21), rfl, ⟨hG, hL, hv24_0⟩, mB.of ht hP⟩, hS.F ht⟩) hS.2.2 dX12_startSo_149
      · have c3 : ¬ 8 ≤ k19 := fun hh => c3 ((nI_leI (a := 8) (b := k19) (by omega) (by omega)).mpr hh)
        refine lv_aload_n hx hb dX12_startSo_89 rfl (lv_at hl 1 rfl) ?_
        refine va_get (D := (dC, dI)) (ci := 11) (v := .ref (ar 2)) (C := RX12) (T := TX12) (N := 47) hx hb hts ii_X12_startSo hown hK hP 0 rfl rfl 14 (by decide) (hts _ mm_X12_startSo_1) (fun _ hh => hh) rfl dX12_startSo_90 ?_
        refine lv_bipush (v := 71) hx hb dX12_startSo_93 (by decide) ?_
        refine lv_iload_n hx hb dX12_startSo_95 rfl (lv_at hl 0 rfl) ?_
        refine lv_iadd hx hb dX12_startSo_96 ?_
        refine zz_top (v := nI (71 + k19)) (nI_add 71 k19) ?_
        refine lv_aload_n hx hb dX12_startSo_97 rfl (lv_at hl 1 rfl) ?_
        refine va_get (D := (dC, dI)) (ci := 11) (v := .ref (ar 2)) (C := RX12) (T := TX12) (N := 47) hx hb hts ii_X12_startSo hown hK hP 0 rfl rfl 14 (by decide) (hts _ mm_X12_startSo_1) (fun _ hh => hh) rfl dX12_startSo_98 ?_
        refine lv_bipush (v := 10) hx hb dX12_startSo_101 (by decide) ?_
        refine lv_iload_n hx hb dX12_startSo_103 rfl (lv_at hl 0 rfl) ?_
        refine lv_iadd hx hb dX12_startSo_104 ?_
        refine zz_top (v := nI (10 + k19)) (nI_add 10 k19) ?_
        refine va_iald hx hb hK hP 2 1 rfl rfl (i := (nI (10 + k19))) (vp_in_nI (by omega) (by decide)) dX12_startSo_105 ?_
        obtain ⟨n26, hn26, en26⟩ := hG.1.at (r := 2) (k := (10 + k19)) (mr_2_10_18 (10 + k19) (by omega) (by omega)) (by decide)
        refine zz_top (v := nI n26) (by rw [nI_clamp (by omega)]; exact en26) ?_
        refine va_iast hx hb hK hP (mD hN _ _ _ _) hS 2 1 rfl rfl (i := (nI (71 + k19))) (vp_in_nI (by omega) (by decide)) dX12_startSo_106 (fun H locs hP _ hS => ?_)
        rw [nI_clamp (by omega)] at hP
        have hP : va_P (dC, dI) vwCl (mw ar cy (up2 st20 2 (71 + k19) (nI n26)) sl21) H := hP
        obtain ⟨st27, est27⟩ : ∃ y, y = up2 st20 2 (71 + k19) (nI n26) := ⟨_, rfl⟩
        have hG : MG [1, 2, 3, 4, 5, 7, 8, 9, 10, 11, 12, 13, 14, 15, 16, 17, 19, 20, 21, 22, 23] st st27 := by rw [est27]; exact hG.up (rn (n := n26) (mr_2_71_79 (71 + k19) (by omega) (by omega)) (by omega)) (pn (pcl_2_71_79 (71 + k19) (by omega) (by omega)) (by decide))
        rw [← est27] at hP
        have hv24_0 : ∀ j, 133 ≤ j → j < 373 → st27 2 j = 0 := fun jj hk hh => by rw [est27, up2_ne (r := 2) (k := (71 + k19)) (a := 2) (j := jj) _ _ (by omega)]; exact hv24_0 jj hk hh
        refine lv_aload_n hx hb dX12_startSo_107 rfl (lv_at hl 1 rfl) ?_
        refine va_get (D := (dC, dI)) (ci := 11) (v := .ref (ar 2)) (C := RX12) (T := TX12) (N := 47) hx hb hts ii_X12_startSo hown hK hP 0 rfl rfl 14 (by decide) (hts _ mm_X12_startSo_1) (fun _ hh => hh) rfl dX12_startSo_108 ?_
        refine lv_bipush (v := 79) hx hb dX12_startSo_111 (by decide) ?_
        refine lv_iload_n hx hb dX12_startSo_113 rfl (lv_at hl 0 rfl) ?_
        refine lv_iadd hx hb dX12_startSo_114 ?_
        refine zz_top (v := nI (79 + k19)) (nI_add 79 k19) ?_
        refine lv_aload_n hx hb dX12_startSo_115 rfl (lv_at hl 1 rfl) ?_
        refine va_get (D := (dC, dI)) (ci := 11) (v := .ref (ar 2)) (C := RX12) (T := TX12) (N := 47) hx hb hts ii_X12_startSo hown hK hP 0 rfl rfl 14 (by decide) (hts _ mm_X12_startSo_1) (fun _ hh => hh) rfl dX12_startSo_116 ?_
        refine lv_bipush (v := 18) hx hb dX12_startSo_119 (by decide) ?_
        refine lv_iload_n hx hb dX12_startSo_121 rfl (lv_at hl 0 rfl) ?_
        refine lv_iadd hx hb dX12_startSo_122 ?_
        refine zz_top (v := nI (18 + k19)) (nI_add 18 k19) ?_
        refine va_iald hx hb hK hP 2 1 rfl rfl (i := (nI (18 + k19))) (vp_in_nI (by omega) (by decide)) dX12_startSo_123 ?_
        refine lv_topi (fun z28 ez28 => ?_)
        refine va_iast hx hb hK hP (mD hN _ _ _ _) hS 2 1 rfl rfl (i := (nI (79 + k19))) (vp_in_nI (by omega) (by decide)) dX12_startSo_124 (fun H locs hP _ hS => ?_)
        rw [nI_clamp (by omega)] at hP
        have hP : va_P (dC, dI) vwCl (mw ar cy (up2 st27 2 (79 + k19) z28) sl21) H := hP
        obtain ⟨st29, est29⟩ : ∃ y, y = up2 st27 2 (79 + k19) z28 := ⟨_, rfl⟩
        have hG : MG [1, 2, 3, 4, 5, 7, 8, 9, 10, 11, 12, 13, 14, 15, 16, 17, 19, 20, 21, 22, 23] st st29 := by rw [est29]; exact hG.up (rz (mr_2_79_87 (79 + k19) (by omega) (by omega))) (pn (pcl_2_79_87 (79 + k19) (by omega) (by omega)) (by decide))
        rw [← est29] at hP
        have hv24_0 : ∀ j, 133 ≤ j → j < 373 → st29 2 j = 0 := fun jj hk hh => by rw [est29, up2_ne (r := 2) (k := (79 + k19)) (a := 2) (j := jj) _ _ (by omega)]; exact hv24_0 jj hk hh
        refine lv_aload_n hx hb dX12_startSo_125 rfl (lv_at hl 1 rfl) ?_
        refine va_get (D := (dC, dI)) (ci := 11) (v := .ref (ar 2)) (C := RX12) (T := TX12) (N := 47) hx hb hts ii_X12_startSo hown hK hP 0 rfl rfl 14 (by decide) (hts _ mm_X12_startSo_1) (fun _ hh => hh) rfl dX12_startSo_126 ?_
        refine lv_bipush (v := 87) hx hb dX12_startSo_129 (by decide) ?_
        refine lv_iload_n hx hb dX12_startSo_131 rfl (lv_at hl 0 rfl) ?_
        refine lv_iadd hx hb dX12_startSo_132 ?_
        refine zz_top (v := nI (87 + k19)) (nI_add 87 k19) ?_
        refine lv_aload_n hx hb dX12_startSo_133 rfl (lv_at hl 1 rfl) ?_
        refine va_get (D := (dC, dI)) (ci := 11) (v := .ref (ar 2)) (C := RX12) (T := TX12) (N := 47) hx hb hts ii_X12_startSo hown hK hP 0 rfl rfl 14 (by decide) (hts _ mm_X12_startSo_1) (fun _ hh => hh) rfl dX12_startSo_134 ?_
        refine lv_bipush (v := 26) hx hb dX12_startSo_137 (by decide) ?_
        refine lv_iload_n hx hb dX12_startSo_139 rfl (lv_at hl 0 rfl) ?_
        refine lv_iadd hx hb dX12_startSo_140 ?_
        refine zz_top (v := nI (26 + k19)) (nI_add 26 k19) ?_
        refine va_iald hx hb hK hP 2 1 rfl rfl (i := (nI (26 + k19))) (vp_in_nI (by omega) (by decide)) dX12_startSo_141 ?_
        refine lv_topi (fun z30 ez30 => ?_)
        refine va_iast hx hb hK hP (mD hN _ _ _ _) hS 2 1 rfl rfl (i := (nI (87 + k19))) (vp_in_nI (by omega) (by decide)) dX12_startSo_142 (fun H locs hP _ hS => ?_)
        rw [nI_clamp (by omega)] at hP
        have hP : va_P (dC, dI) vwCl (mw ar cy (up2 st29 2 (87 + k19) z30) sl21) H := hP
        obtain ⟨st31, est31⟩ : ∃ y, y = up2 st29 2 (87 + k19) z30 := ⟨_, rfl⟩
        have hG : MG [1, 2, 3, 4, 5, 7, 8, 9, 10, 11, 12, 13, 14, 15, 16, 17, 19, 20, 21, 22, 23] st st31 := by rw [est31]; exact hG.up (rz (mr_2_87_95 (87 + k19) (by omega) (by omega))) (pn (pcl_2_87_95 (87 + k19) (by omega) (by omega)) (by decide))
        rw [← est31] at hP
        have hv24_0 : ∀ j, 133 ≤ j → j < 373 → st31 2 j = 0 := fun jj hk hh => by rw [est31, up2_ne (r := 2) (k := (87 + k19)) (a := 2) (j := jj) _ _ (by omega)]; exact hv24_0 jj hk hh
        refine lv_iinc (v := (nI (k19 + 1))) (lv' := [(1, .int (nI (k19 + 1))), (0, .ref (ar 0))]) hx hb dX12_startSo_143 hl (k := 0) rfl (nI_add k19 1) (by decide) rfl (fun ls hl => ?_)
        refine lv_goto (tgt := 83) hx hb dX12_startSo_146 (by decide) ?_
        exact ih25 (9 - (k19 + 1)) _ _ _ _ (by omega) ⟨(k19 + 1), st31, sl21, rfl, by omega, by omega, hv24_0, hP, hG, hL, hS, lv_sub hl [0, 1] rfl, rfl⟩
    · have c2 : ¬ 5 ≤ k12 := fun hh => c2 ((nI_leI (a := 5) (b := k12) (by omega) (by omega)).mpr hh)
      refine lv_aload_n hx hb dX12_startSo_58 rfl (lv_at hl 1 rfl) ?_
      refine va_get (D := (dC, dI)) (ci := 11) (v := .ref (ar 2)) (C := RX12) (T := TX12) (N := 47) hx hb hts ii_X12_startSo hown hK hP 0 rfl rfl 14 (by decide) (hts _ mm_X12_startSo_1) (fun _ hh => hh) rfl dX12_startSo_59 ?_
      refine lv_bipush (v := 66) hx hb dX12_startSo_62 (by decide) ?_
      refine lv_iload_n hx hb dX12_startSo_64 rfl (lv_at hl 0 rfl) ?_
      refine lv_iadd hx hb dX12_startSo_65 ?_
      refine zz_top (v := nI (66 + k12)) (nI_add 66 k12) ?_
      refine lv_aload_n hx hb dX12_startSo_66 rfl (lv_at hl 1 rfl) ?_
      refine va_get (D := (dC, dI)) (ci := 11) (v := .ref (ar 2)) (C := RX12) (T := TX12) (N := 47) hx hb hts ii_X12_startSo hown hK hP 0 rfl rfl 14 (by decide) (hts _ mm_X12_startSo_1) (fun _ hh => hh) rfl dX12_startSo_67 ?_
      refine lv_iconst (v := 4) hx hb dX12_startSo_70 (by decide) ?_
      refine lv_iload_n hx hb dX12_startSo_71 rfl (lv_at hl 0 rfl) ?_
      refine lv_iadd hx hb dX12_startSo_72 ?_
      refine zz_top (v := nI (4 + k12)) (nI_add 4 k12) ?_
      refine va_iald hx hb hK hP 2 1 rfl rfl (i := (nI (4 + k12))) (vp_in_nI (by omega) (by decide)) dX12_startSo_73 ?_
      obtain ⟨n32, hn32, en32⟩ := hG.1.at (r := 2) (k := (4 + k12)) (mr_2_4_9 (4 + k12) (by omega) (by omega)) (by decide)
      refine zz_top (v := nI n32) (by rw [nI_clamp (by omega)]; exact en32) ?_
      refine va_iast hx hb hK hP (mD hN _ _ _ _) hS 2 1 rfl rfl (i := (nI (66 + k12))) (vp_in_nI (by omega) (by decide)) dX12_startSo_74 (fun H locs hP _ hS => ?_)
      rw [nI_clamp (by omega)] at hP
      have hP : va_P (dC, dI) vwCl (mw ar cy (up2 st13 2 (66 + k12) (nI n32)) sl14) H := hP
      obtain ⟨st33, est33⟩ : ∃ y, y = up2 st13 2 (66 + k12) (nI n32) := ⟨_, rfl⟩
      have hG : MG [1, 2, 3, 4, 5, 7, 8, 9, 10, 11, 12, 13, 14, 15, 16, 17, 19, 20, 21, 22, 23] st st33 := by rw [est33]; exact hG.up (rn (n := n32) (mr_2_66_71 (66 + k12) (by omega) (by omega)) (by omega)) (pn (pcl_2_66_71 (66 + k12) (by omega) (by omega)) (by decide))
      rw [← est33] at hP
      have hv17_0 : ∀ j, 133 ≤ j → j < 373 → st33 2 j = 0 := fun jj hk hh => by rw [est33, up2_ne (r := 2) (k := (66 + k12)) (a := 2) (j := jj) _ _ (by omega)]; exact hv17_0 jj hk hh
      refine lv_iinc (v := (nI (k12 + 1))) (lv' := [(1, .int (nI (k12 + 1))), (0, .ref (ar 0))]) hx hb dX12_startSo_75 hl (k := 0) rfl (nI_add k12 1) (by decide) rfl (fun ls hl => ?_)
      refine lv_goto (tgt := 53) hx hb dX12_startSo_78 (by decide) ?_
      exact ih18 (6 - (k12 + 1)) _ _ _ _ (by omega) ⟨(k12 + 1), st33, sl14, rfl, by omega, by omega, hv17_0, hP, hG, hL, hS, lv_sub hl [0, 1] rfl, rfl⟩
  · have c1 : ¬ 373 ≤ k1 := fun hh => c1 ((nI_leI (a := 373) (b := k1) (by omega) (by omega)).mpr hh)
    refine lv_aload_n hx hb dX12_startSo_10 rfl (lv_at hl 1 rfl) ?_
    refine va_get (D := (dC, dI)) (ci := 11) (v := .ref (ar 2)) (C := RX12) (T := TX12) (N := 47) hx hb hts ii_X12_startSo hown hK hP 0 rfl rfl 14 (by decide) (hts _ mm_X12_startSo_1) (fun _ hh => hh) rfl dX12_startSo_11 ?_
    refine lv_iload_n hx hb dX12_startSo_14 rfl (lv_at hl 0 rfl) ?_
    refine lv_iconst (v := 0) hx hb dX12_startSo_15 (by decide) ?_
    refine va_iast hx hb hK hP (mD hN _ _ _ _) hS 2 1 rfl rfl (i := (nI k1)) (vp_in_nI (by omega) (by decide)) dX12_startSo_16 (fun H locs hP _ hS => ?_)
    rw [nI_clamp (by omega)] at hP
    have hP : va_P (dC, dI) vwCl (mw ar cy (up2 st2 2 k1 0) sl3) H := hP
    obtain ⟨st34, est34⟩ : ∃ y, y = up2 st2 2 k1 0 := ⟨_, rfl⟩
    have hG : MG [1, 2, 3, 4, 5, 7, 8, 9, 10, 11, 12, 13, 14, 15, 16, 17, 19, 20, 21, 22, 23] st st34 := by rw [est34]; exact hG.up (r0) (pns_2_61_373_1_2_3_4_5_7_8_9_10_11_12_13_14_15_16_17_19_20_21_22_23 k1 (by omega) (by omega))
    rw [← est34] at hP
    refine lv_iinc (v := (nI (k1 + 1))) (lv' := [(1, .int (nI (k1 + 1))), (0, .ref (ar 0))]) hx hb dX12_startSo_17 hl (k := 0) rfl (nI_add k1 1) (by decide) rfl (fun ls hl => ?_)
    refine lv_goto (tgt := 3) hx hb dX12_startSo_20 (by decide) ?_
    exact ih7 (374 - (k1 + 1)) _ _ _ _ (by omega) ⟨(k1 + 1), st34, sl3, rfl, by omega, by omega, by intro jj hk hh; rw [est34]; by_cases ee : jj = k1; (rw [ee, up2_same]); (rw [up2_ne (r := 2) (k := k1) (a := 2) (j := jj) _ _ (by omega)]; exact hv6_0 jj hk (by omega)), hP, hG, hL, hS, lv_sub hl [0, 1] rfl, rfl⟩
set_option maxHeartbeats 4000000 in
set_option maxRecDepth 100000 in
theorem m_park (l : Launch) (dC : Nat → ClassId) (dI : Nat → Nat → Nat) (ar : Nat → Nat) (cy : Nat → ClassId) (sz : Nat) (hN : MN ar) (st : Nat → Nat → Int32) (sl : Nat → Nat → Int64) (hI : MI st) : Met l yX12_park wsX12_park ({ frames := 6, cells := 0, slots := 0, locals := 133 }) (va_Pc [.ref (ar 0)] (mPre dC dI ar cy sz st sl)) (va_Qi (fun (r : Int32) (x : MT) => MG [2, 7, 8, 9, 10, 11, 12, 13, 14, 15, 20, 22] st x.1 ∧ LQ [9] sl x.2 ∧ (x.1 0 2 = 0 ∧ (NKn st → NKn x.1))) (mB dC dI ar cy) (MA ar sz)) 0 0 (MA ar sz) := by
  refine Met.ofW (cc := cX12_park) (maxL := 3) (ret := (some .int)) (by decide) rfl ?_
  intro p e s m args below meth c s₁ B hml hv
  obtain ⟨rfl, hsz, hP, hK⟩ := hv
  have hx := B.exec
  have hb := B.bytes
  have hr := B.returns
  have hts := atoms_spec (ws := wsX12_park) B.pre
  have hown : s.vm.findClass RX12 = some m.cls := findClass_of_methodNamed B.named
  subst hsz
  have hS : va_S (MA ar s.heap.size) s.heap s.heap [] := va_S.rf
  have hG : MG [2, 7, 8, 9, 10, 11, 12, 13, 14, 15, 20, 22] st st := MG.rf hI
  have hl := lv_entry ([.ref (ar 0)]) (n := 3) (Nat.le_of_ble_eq_true rfl)
  rw [lg_entry_eq]
  generalize (lg_sl ([.ref (ar 0)]) ++ List.replicate (3 - (lg_sl ([.ref (ar 0)])).length) Slot.unset).toArray = ls at hl ⊢
  have hl : lv_has ls 3 [(0, .ref (ar 0))] := hl
  clear hI
  have hG6 : MG [6] st st := MG.rf hG.1
  have hL : LQ [9] sl sl := LQ.rf
  refine lv_aload_n hx hb dX12_park_0 rfl (lv_at hl 0 rfl) ?_
  refine lv_sipush (v := 900) hx hb dX12_park_1 (by decide) ?_
  refine va_callv (va_runV (As := [.int 900]) (rest := []) ⟨hx, hb, hml, hown, hts⟩ (m_begin l dC dI ar cy _ hN st sl 900  hG.1) (cwV 1 hts gX12_park_X12_begin rfl rfl rfl (by decide +kernel) ⟨Nat.le_of_ble_eq_true rfl, Nat.le_of_ble_eq_true rfl⟩) ⟨fun a U g mk q => ⟨q.1, mPre.blind q.2⟩, va_recv hK hP (ci := 11) (q0 := 0) rfl rfl, fun U hU hW => ⟨rfl, mPre.of hP hK hU hW⟩⟩ rfl rfl hl.1 rfl (lv_room (Nat.le_of_ble_eq_true rfl)) dX12_park_4 ⟨Nat.le_of_ble_eq_true rfl, Nat.le_of_ble_eq_true rfl⟩) hS (fun q _ h => MA.le hS.1 q h) (MA.le hS.1) (fun x t H locs ht hvm hw hB _ _ hS => ?_)
  have hP := mB.at ht hB
  clear hB ht hvm
  obtain ⟨st2, sl3⟩ := x
  obtain ⟨hG2, hL2, hw⟩ := hw
  have hL : LQ [9] sl sl3 := hL.tr hL2 (by decide)
  clear hL2
  dsimp only at hw
  have hP : va_P (dC, dI) vwCl (mw ar cy st2 sl3) _ := hP
  have hG : MG [2, 7, 8, 9, 10, 11, 12, 13, 14, 15, 20, 22] st st2 := hG.tr hG2 (by decide)
  have hG4 : MG [6] st st2 := hG6.tr hG2 (by decide)
  have hGst2 : MG [2, 6, 7, 8, 9, 10, 11, 12, 13, 14, 15, 16, 19, 20, 21, 22] st st2 := hG2
  clear hG2
  obtain ⟨n5, n6, hf7, hf8⟩ := hw
  have hf7c := hf7.2.2.1
  have hf7d := hf7.2.2.2
  refine lv_iconst (v := 0) hx hb dX12_park_7 (by decide) ?_
  refine lv_istore_n (lv' := [(1, .int 0), (0, .ref (ar 0))]) hx hb dX12_park_8 rfl hl (by decide) rfl (fun ls hl => ?_)
  refine zz_wf (fun n stk H locs ls => ∃ k9 : Nat, ∃ st10 : Nat → Nat → Int32, ∃ sl11 : Nat → Nat → Int64, ∃ g14 : Nat, n = 62 - k9 ∧ 0 ≤ k9 ∧ k9 < 62 ∧ TS st10 g14 n6 ∧ 0 ≤ g14 ∧ va_P (dC, dI) vwCl (mw ar cy st10 sl11) H ∧ MG [2, 7, 8, 9, 10, 11, 12, 13, 14, 15, 20, 22] st st10 ∧ MG [6] st st10 ∧ MG [1] st2 st10 ∧ LQ [9] sl sl11 ∧ va_S (MA ar s.heap.size) s.heap H locs ∧ lv_has ls 3 [(1, .int (nI k9)), (0, .ref (ar 0))] ∧ stk = []) ?_ (62 - 0) _ _ _ _ ⟨0, st2, sl3, n5, rfl, by omega, by omega, ⟨by rw [hf7.1], by rw [hf7.2.1], by omega, by omega⟩, by omega, hP, hG, hG4, MG.rf hG.1, hL, hS, lv_sub hl [0, 1] rfl, rfl⟩
  rintro nn stk H locs ls ⟨k9, st10, sl11, g14, hm16, hv15_0, hv16_1, hTg14, hTg14g, hP, hG, hG12, hG13, hL, hS, hl, rfl⟩ ih17
  have hTg14c := hTg14.2.2.1
  have hTg14d := hTg14.2.2.2
  refine lv_iload_n hx hb dX12_park_9 rfl (lv_at hl 0 rfl) ?_
  refine lv_bipush (v := 61) hx hb dX12_park_10 (by decide) ?_
  refine lv_icmp_ge (tgt := 28) hx hb dX12_park_12 (by decide) (fun c1 => ?_) (fun c1 => ?_)
  · have c1 : 61 ≤ k9 := (nI_leI (a := 61) (b := k9) (by omega) (by omega)).mp c1
    refine lv_aload_n hx hb dX12_park_28 rfl (lv_at hl 1 rfl) ?_
    refine va_get (D := (dC, dI)) (ci := 11) (v := .ref (ar 3)) (C := RX12) (T := TX12) (N := 47) hx hb hts ii_X12_park hown hK hP 0 rfl rfl 15 (by decide) (hts _ mm_X12_park_1) (fun _ hh => hh) rfl dX12_park_29 ?_
    refine lv_bipush (v := 60) hx hb dX12_park_32 (by decide) ?_
    refine lv_iconst (v := 2) hx hb dX12_park_34 (by decide) ?_
    refine va_iast hx hb hK hP (mD hN _ _ _ _) hS 3 2 rfl rfl (i := 60) (zz_in (by decide)) dX12_park_35 (fun H locs hP _ hS => ?_)
    have hP : va_P (dC, dI) vwCl (mw ar cy (up2 st10 3 60 2) sl11) H := hP
    obtain ⟨st18, est18⟩ : ∃ y, y = up2 st10 3 60 2 := ⟨_, rfl⟩
    have hG : MG [2, 7, 8, 9, 10, 11, 12, 13, 14, 15, 20, 22] st st18 := by rw [est18]; exact hG.up (rn (n := 2) (by decide : mr 3 60 = 13) (by omega)) (pn (by decide : pcl 3 60 = 0) (by decide))
    have hG19 : MG [6] st st18 := by rw [est18]; exact hG12.up (rn (n := 2) (by decide : mr 3 60 = 13) (by omega)) (pn (by decide : pcl 3 60 = 0) (by decide))
    have hG20 : MG [1] st2 st18 := by rw [est18]; exact hG13.up (rn (n := 2) (by decide : mr 3 60 = 13) (by omega)) (pn (by decide : pcl 3 60 = 0) (by decide))
    rw [← est18] at hP
    refine lv_aload_n hx hb dX12_park_36 rfl (lv_at hl 1 rfl) ?_
    refine lv_iconst (v := 0) hx hb dX12_park_37 (by decide) ?_
    refine va_put (D := (dC, dI)) (ci := 11) (v := .int 0) (ty := .boolean) (C := RX12) (T := TX12) (N := 47) hx hb hts ii_X12_park tyX12 tyX12_ok nmX12 hown hK hP (mD hN _ _ _ _) hS 0 rfl rfl 24 (by decide) (hts _ mm_X12_park_2) (fun _ hh => hh) rfl (by decide +kernel) rfl rfl (Nat.le_of_ble_eq_true rfl) dX12_park_38 (fun H locs hP _ hS => ?_)
    have hP : va_P (dC, dI) vwCl (mw ar cy (up2 st18 0 24 0) sl11) H := hP
    obtain ⟨st21, est21⟩ : ∃ y, y = up2 st18 0 24 0 := ⟨_, rfl⟩
    have hG : MG [2, 7, 8, 9, 10, 11, 12, 13, 14, 15, 20, 22] st st21 := by rw [est21]; exact hG.up (rz (by decide : mr 0 24 = 0)) (pn (by decide : pcl 0 24 = 0) (by decide))
    have hG22 : MG [6] st st21 := by rw [est21]; exact hG19.up (rz (by decide : mr 0 24 = 0)) (pn (by decide : pcl 0 24 = 0) (by decide))
    have hG23 : MG [1] st2 st21 := by rw [est21]; exact hG20.up (rz (by decide : mr 0 24 = 0)) (pn (by decide : pcl 0 24 = 0) (by decide))
    rw [← est21] at hP
    refine lv_iconst (v := 0) hx hb dX12_park_41 (by decide) ?_
    refine lv_istore_n (lv' := [(1, .int 0), (0, .ref (ar 0))]) hx hb dX12_park_42 rfl hl (by decide) rfl (fun ls hl => ?_)
    refine zz_wf (fun n stk H locs ls => ∃ z24 : Int32, ∃ st25 : Nat → Nat → Int32, ∃ sl26 : Nat → Nat → Int64, ∃ g30 : Nat, n = n6 - g30 ∧ TS st25 g30 n6 ∧ 0 ≤ g30 ∧ va_P (dC, dI) vwCl (mw ar cy st25 sl26) H ∧ MG [2, 7, 8, 9, 10, 11, 12, 13, 14, 15, 20, 22] st st25 ∧ MG [6] st st25 ∧ MG [1] st2 st25 ∧ MG [1] st21 st25 ∧ LQ [9] sl sl26 ∧ va_S (MA ar s.heap.size) s.heap H locs ∧ lv_has ls 3 [(1, .int z24), (0, .ref (ar 0))] ∧ stk = []) ?_ (n6 - g14) _ _ _ _ ⟨0, st21, sl11, g14, rfl, ⟨by rw [est21, up2_ne (r := 0) (k := 24) (a := 0) (j := 5) _ _ (by omega), est18, up2_ne (r := 3) (k := 60) (a := 0) (j := 5) _ _ (by omega), hTg14.1], by rw [est21, up2_ne (r := 0) (k := 24) (a := 0) (j := 3) _ _ (by omega), est18, up2_ne (r := 3) (k := 60) (a := 0) (j := 3) _ _ (by omega), hTg14.2.1], by omega, by omega⟩, by omega, hP, hG, hG22, hG23, MG.rf hG.1, hL, hS, lv_sub hl [0, 1] rfl, rfl⟩
    rintro nn stk H locs ls ⟨z24, st25, sl26, g30, hm30, hTg30, hTg30g, hP, hG, hG27, hG28, hG29, hL, hS, hl, rfl⟩ ih31
    have hTg30c := hTg30.2.2.1
    have hTg30d := hTg30.2.2.2
    refine lv_aload_n hx hb dX12_park_43 rfl (lv_at hl 1 rfl) ?_
    refine va_get (D := (dC, dI)) (ci := 11) (v := .int (st25 0 7)) (C := RX12) (T := TX12) (N := 47) hx hb hts ii_X12_park hown hK hP 0 rfl rfl 7 (by decide) (hts _ mm_X12_park_3) (fun _ hh => hh) rfl dX12_park_44 ?_
    refine lv_topi (fun z32 ez32 => ?_)
    refine lv_if_eq (tgt := 77) hx hb dX12_park_47 (by decide) (fun c2 => ?_) (fun c2 => ?_)
    · refine lv_iconst (v := 0) hx hb dX12_park_77 (by decide) ?_
      refine lv_istore_n (lv' := [(2, .int 0), (1, .int z24), (0, .ref (ar 0))]) hx hb dX12_park_78 rfl hl (by decide) rfl (fun ls hl => ?_)
      refine zz_wf (fun n stk H locs ls => ∃ k33 : Nat, ∃ st34 : Nat → Nat → Int32, ∃ sl35 : Nat → Nat → Int64, n = 62 - k33 ∧ 0 ≤ k33 ∧ k33 < 62 ∧ va_P (dC, dI) vwCl (mw ar cy st34 sl35) H ∧ MG [2, 7, 8, 9, 10, 11, 12, 13, 14, 15, 20, 22] st st34 ∧ MG [6] st st34 ∧ MG [1] st2 st34 ∧ MG [1] st21 st34 ∧ MG [1] st25 st34 ∧ LQ [9] sl sl35 ∧ va_S (MA ar s.heap.size) s.heap H locs ∧ lv_has ls 3 [(2, .int (nI k33)), (1, .int z24), (0, .ref (ar 0))] ∧ stk = []) ?_ (62 - 0) _ _ _ _ ⟨0, st25, sl26, rfl, by omega, by omega, hP, hG, hG27, hG28, hG29, MG.rf hG.1, hL, hS, lv_sub hl [0, 1, 2] rfl, rfl⟩
      rintro nn stk H locs ls ⟨k33, st34, sl35, hm41, hv40_0, hv41_1, hP, hG, hG36, hG37, hG38, hG39, hL, hS, hl, rfl⟩ ih42
      refine lv_iload_n hx hb dX12_park_79 rfl (lv_at hl 0 rfl) ?_
      refine lv_bipush (v := 61) hx hb dX12_park_80 (by decide) ?_
      refine lv_icmp_ge (tgt := 103) hx hb dX12_park_82 (by decide) (fun c3 => ?_) (fun c3 => ?_)
      · have c3 : 61 ≤ k33 := (nI_leI (a := 61) (b := k33) (by omega) (by omega)).mp c3
        refine lv_iconst (v := 0) hx hb dX12_park_103 (by decide) ?_
        refine lv_istore_n (lv' := [(2, .int 0), (1, .int z24), (0, .ref (ar 0))]) hx hb dX12_park_104 rfl hl (by decide) rfl (fun ls hl => ?_)
        refine zz_wf (fun n stk H locs ls => ∃ k43 : Nat, ∃ st44 : Nat → Nat → Int32, ∃ sl45 : Nat → Nat → Int64, n = 20 - k43 ∧ 0 ≤ k43 ∧ k43 < 20 ∧ va_P (dC, dI) vwCl (mw ar cy st44 sl45) H ∧ MG [2, 7, 8, 9, 10, 11, 12, 13, 14, 15, 20, 22] st st44 ∧ MG [6] st st44 ∧ MG [1] st2 st44 ∧ MG [1] st21 st44 ∧ MG [1] st25 st44 ∧ MG [1] st34 st44 ∧ LQ [9] sl sl45 ∧ va_S (MA ar s.heap.size) s.heap H locs ∧ lv_has ls 3 [(2, .int (nI k43)), (1, .int z24), (0, .ref (ar 0))] ∧ stk = []) ?_ (20 - 0) _ _ _ _ ⟨0, st34, sl35, rfl, by omega, by omega, hP, hG, hG36, hG37, hG38, hG39, MG.rf hG.1, hL, hS, lv_sub hl [0, 1, 2] rfl, rfl⟩
        rintro nn stk H locs ls ⟨k43, st44, sl45, hm52, hv51_0, hv52_1, hP, hG, hG46, hG47, hG48, hG49, hG50, hL, hS, hl, rfl⟩ ih53
        refine lv_iload_n hx hb dX12_park_105 rfl (lv_at hl 0 rfl) ?_
        refine lv_bipush (v := 19) hx hb dX12_park_106 (by decide) ?_
        refine lv_icmp_ge (tgt := 129) hx hb dX12_park_108 (by decide) (fun c4 => ?_) (fun c4 => ?_)
        · have c4 : 19 ≤ k43 := (nI_leI (a := 19) (b := k43) (by omega) (by omega)).mp c4
          refine lv_aload_n hx hb dX12_park_129 rfl (lv_at hl 2 rfl) ?_
          refine va_callv (va_runV (As := []) (rest := []) ⟨hx, hb, hml, hown, hts⟩ (m_startSo l dC dI ar cy _ hN st44 sl45  hG.1) (cwV 0 hts gX12_park_X12_startSo rfl rfl rfl (by decide +kernel) ⟨Nat.le_of_ble_eq_true rfl, Nat.le_of_ble_eq_true rfl⟩) ⟨fun a U g mk q => ⟨q.1, mPre.blind q.2⟩, va_recv hK hP (ci := 11) (q0 := 0) rfl rfl, fun U hU hW => ⟨rfl, mPre.of hP hK hU hW⟩⟩ rfl rfl hl.1 rfl (lv_room (Nat.le_of_ble_eq_true rfl)) dX12_park_130 ⟨Nat.le_of_ble_eq_true rfl, Nat.le_of_ble_eq_true rfl⟩) hS (fun q _ h => MA.le hS.1 q h) (MA.le hS.1) (fun x t H locs ht hvm hw hB _ _ hS => ?_)
          have hP := mB.at ht hB
          clear hB ht hvm
          obtain ⟨st55, sl56⟩ := x
          obtain ⟨hG2, hL2, hw⟩ := hw
          have hL : LQ [9] sl sl56 := hL.tr hL2 (by decide)
          clear hL2
          dsimp only at hw
          have hP : va_P (dC, dI) vwCl (mw ar cy st55 sl56) _ := hP
          have hG : MG [2, 7, 8, 9, 10, 11, 12, 13, 14, 15, 20, 22] st st55 := hG.tr hG2 (by decide)
          have hG57 : MG [1] st2 st55 := hG47.tr hG2 (by decide)
          have hG58 : MG [1] st21 st55 := hG48.tr hG2 (by decide)
          have hG59 : MG [1] st25 st55 := hG49.tr hG2 (by decide)
          have hG60 : MG [1] st34 st55 := hG50.tr hG2 (by decide)
          have hGst55 : MG [1, 2, 3, 4, 5, 7, 8, 9, 10, 11, 12, 13, 14, 15, 16, 17, 19, 20, 21, 22, 23] st44 st55 := hG2
          clear hG2
          have hf61 := hw
          refine lv_aload_n hx hb dX12_park_133 rfl (lv_at hl 2 rfl) ?_
          refine lv_iconst (v := 0) hx hb dX12_park_134 (by decide) ?_
          refine va_put (D := (dC, dI)) (ci := 11) (v := .int 0) (ty := .int) (C := RX12) (T := TX12) (N := 47) hx hb hts ii_X12_park tyX12 tyX12_ok nmX12 hown hK hP (mD hN _ _ _ _) hS 0 rfl rfl 23 (by decide) (hts _ mm_X12_park_8) (fun _ hh => hh) rfl (by decide +kernel) rfl rfl (Nat.le_of_ble_eq_true rfl) dX12_park_135 (fun H locs hP _ hS => ?_)
          have hP : va_P (dC, dI) vwCl (mw ar cy (up2 st55 0 23 0) sl56) H := hP
          obtain ⟨st62, est62⟩ : ∃ y, y = up2 st55 0 23 0 := ⟨_, rfl⟩
          have hG : MG [2, 7, 8, 9, 10, 11, 12, 13, 14, 15, 20, 22] st st62 := by rw [est62]; exact hG.up (r0) (pn (by decide : pcl 0 23 = 18) (by decide))
          have hG63 : MG [1] st2 st62 := by rw [est62]; exact hG57.up (r0) (pn (by decide : pcl 0 23 = 18) (by decide))
          have hG64 : MG [1] st21 st62 := by rw [est62]; exact hG58.up (r0) (pn (by decide : pcl 0 23 = 18) (by decide))
          have hG65 : MG [1] st25 st62 := by rw [est62]; exact hG59.up (r0) (pn (by decide : pcl 0 23 = 18) (by decide))
          have hG66 : MG [1] st34 st62 := by rw [est62]; exact hG60.up (r0) (pn (by decide : pcl 0 23 = 18) (by decide))
          rw [← est62] at hP
          refine lv_iload_n hx hb dX12_park_138 rfl (lv_at hl 1 rfl) ?_
          exact W.iret (v := z24) hx hb hr (fun t ht hW => ⟨⟨z24, (st62, sl56), rfl, ⟨hG, hL, ⟨by show st62 0 2 = 0; rw [est62, up2_ne (r := 0) (k := 23) (a := 0) (j := 2) _ _ (by omega), hGst55.2 0 2 (by decide), hG50.2 0 2 (by decide), hG39.2 0 2 (by decide), hG29.2 0 2 (by decide), est21, up2_ne (r := 0) (k := 24) (a := 0) (j := 2) _ _ (by omega), est18, up2_ne (r := 3) (k := 60) (a := 0) (j := 2) _ _ (by omega), hG13.2 0 2 (by decide), hf8], fun _ => NKf.zero (fun jj hk => by show st62 2 (133 + jj) = 0; rw [est62, up2_ne (r := 0) (k := 23) (a := 2) (j := 133 + jj) _ _ (by omega)]; exact hf61 (133 + jj) (by omega) (by omega))⟩⟩, mB.of ht hP⟩, hS.F ht⟩) hS.2.2 dX12_park_139
        · have c4 : ¬ 19 ≤ k43 := fun hh => c4 ((nI_leI (a := 19) (b := k43) (by omega) (by omega)).mpr hh)
          refine lv_aload_n hx hb dX12_park_111 rfl (lv_at hl 2 rfl) ?_
          refine va_get (D := (dC, dI)) (ci := 11) (v := .ref (ar 7)) (C := RX12) (T := TX12) (N := 47) hx hb hts ii_X12_park hown hK hP 0 rfl rfl 19 (by decide) (hts _ mm_X12_park_6) (fun _ hh => hh) rfl dX12_park_112 ?_
          refine lv_iload_n hx hb dX12_park_115 rfl (lv_at hl 0 rfl) ?_
          refine lv_aload_n hx hb dX12_park_116 rfl (lv_at hl 2 rfl) ?_
          refine va_get (D := (dC, dI)) (ci := 11) (v := .ref (ar 8)) (C := RX12) (T := TX12) (N := 47) hx hb hts ii_X12_park hown hK hP 0 rfl rfl 20 (by decide) (hts _ mm_X12_park_7) (fun _ hh => hh) rfl dX12_park_117 ?_
          refine lv_iload_n hx hb dX12_park_120 rfl (lv_at hl 0 rfl) ?_
          refine va_lald hx hb hK hP 8 7 rfl rfl (i := (nI k43)) (vp_in_nI (by omega) (by decide)) dX12_park_121 ?_
          refine lv_topl (fun z67 ez67 => ?_)
          clear ez67
          refine va_last hx hb hK hP (mD hN _ _ _ _) hS 7 6 rfl rfl (i := (nI k43)) (vp_in_nI (by omega) (by decide)) dX12_park_122 (fun H locs hP _ hS => ?_)
          rw [nI_clamp (by omega)] at hP
          have hP : va_P (dC, dI) vwCl (mw ar cy st44 (upL sl45 7 k43 z67)) H := hP
          obtain ⟨sl68, esl68⟩ : ∃ y, y = upL sl45 7 k43 z67 := ⟨_, rfl⟩
          rw [← esl68] at hP
          have hL : LQ [9] sl sl68 := by rw [esl68]; exact hL.up (by decide)
          clear esl68
          refine lv_iinc (v := (nI (k43 + 1))) (lv' := [(2, .int (nI (k43 + 1))), (1, .int z24), (0, .ref (ar 0))]) hx hb dX12_park_123 hl (k := 0) rfl (nI_add k43 1) (by decide) rfl (fun ls hl => ?_)
          refine lv_goto (tgt := 105) hx hb dX12_park_126 (by decide) ?_
          exact ih53 (20 - (k43 + 1)) _ _ _ _ (by omega) ⟨(k43 + 1), st44, sl68, rfl, by omega, by omega, hP, hG, hG46, hG47, hG48, hG49, hG50, hL, hS, lv_sub hl [0, 1, 2] rfl, rfl⟩
      · have c3 : ¬ 61 ≤ k33 := fun hh => c3 ((nI_leI (a := 61) (b := k33) (by omega) (by omega)).mpr hh)
        refine lv_aload_n hx hb dX12_park_85 rfl (lv_at hl 2 rfl) ?_
        refine va_get (D := (dC, dI)) (ci := 11) (v := .ref (ar 2)) (C := RX12) (T := TX12) (N := 47) hx hb hts ii_X12_park hown hK hP 0 rfl rfl 14 (by decide) (hts _ mm_X12_park_5) (fun _ hh => hh) rfl dX12_park_86 ?_
        refine lv_iload_n hx hb dX12_park_89 rfl (lv_at hl 0 rfl) ?_
        refine lv_aload_n hx hb dX12_park_90 rfl (lv_at hl 2 rfl) ?_
        refine va_get (D := (dC, dI)) (ci := 11) (v := .ref (ar 3)) (C := RX12) (T := TX12) (N := 47) hx hb hts ii_X12_park hown hK hP 0 rfl rfl 15 (by decide) (hts _ mm_X12_park_1) (fun _ hh => hh) rfl dX12_park_91 ?_
        refine lv_iload_n hx hb dX12_park_94 rfl (lv_at hl 0 rfl) ?_
        refine va_iald hx hb hK hP 3 2 rfl rfl (i := (nI k33)) (vp_in_nI (by omega) (by decide)) dX12_park_95 ?_
        refine zz_top (v := st34 3 k33) (by rw [nI_clamp (by omega)]) ?_
        have hIst34 := hG.1
        refine va_iast hx hb hK hP (mD hN _ _ _ _) hS 2 1 rfl rfl (i := (nI k33)) (vp_in_nI (by omega) (by decide)) dX12_park_96 (fun H locs hP _ hS => ?_)
        rw [nI_clamp (by omega)] at hP
        have hP : va_P (dC, dI) vwCl (mw ar cy (up2 st34 2 k33 (st34 3 k33)) sl35) H := hP
        obtain ⟨st69, est69⟩ : ∃ y, y = up2 st34 2 k33 (st34 3 k33) := ⟨_, rfl⟩
        have hG : MG [2, 7, 8, 9, 10, 11, 12, 13, 14, 15, 20, 22] st st69 := by rw [est69]; exact hG.up (rc hIst34 (rfl)) (pns_2_0_61_2_7_8_9_10_11_12_13_14_15_20_22 k33 (by omega) (by omega))
        have hG70 : MG [6] st st69 := by rw [est69]; exact hG36.up (rc hIst34 (rfl)) (pns_2_0_61_6 k33 (by omega) (by omega))
        have hG71 : MG [1] st2 st69 := by rw [est69]; exact hG37.up (rc hIst34 (rfl)) (pns_2_0_61_1 k33 (by omega) (by omega))
        have hG72 : MG [1] st21 st69 := by rw [est69]; exact hG38.up (rc hIst34 (rfl)) (pns_2_0_61_1 k33 (by omega) (by omega))
        have hG73 : MG [1] st25 st69 := by rw [est69]; exact hG39.up (rc hIst34 (rfl)) (pns_2_0_61_1 k33 (by omega) (by omega))
        rw [← est69] at hP
        refine lv_iinc (v := (nI (k33 + 1))) (lv' := [(2, .int (nI (k33 + 1))), (1, .int z24), (0, .ref (ar 0))]) hx hb dX12_park_97 hl (k := 0) rfl (nI_add k33 1) (by decide) rfl (fun ls hl => ?_)
        refine lv_goto (tgt := 79) hx hb dX12_park_100 (by decide) ?_
        exact ih42 (62 - (k33 + 1)) _ _ _ _ (by omega) ⟨(k33 + 1), st69, sl35, rfl, by omega, by omega, hP, hG, hG70, hG71, hG72, hG73, hL, hS, lv_sub hl [0, 1, 2] rfl, rfl⟩
    · refine lv_aload_n hx hb dX12_park_50 rfl (lv_at hl 1 rfl) ?_
      refine va_calli (va_runV (As := []) (rest := []) ⟨hx, hb, hml, hown, hts⟩ (m_readLine l dC dI ar cy _ hN st25 sl26 g30 n6  hG.1 ((⟨by rw [hTg30.1], by rw [hTg30.2.1], by omega, by omega⟩ : TS st25 g30 n6))) (cwV 0 hts gX12_park_X12_readLine rfl rfl rfl (by decide +kernel) ⟨Nat.le_of_ble_eq_true rfl, Nat.le_of_ble_eq_true rfl⟩) ⟨fun a U g mk q => ⟨q.1, mPre.blind q.2⟩, va_recv hK hP (ci := 11) (q0 := 0) rfl rfl, fun U hU hW => ⟨rfl, mPre.of hP hK hU hW⟩⟩ rfl rfl hl.1 rfl (lv_room (Nat.le_of_ble_eq_true rfl)) dX12_park_51 ⟨Nat.le_of_ble_eq_true rfl, Nat.le_of_ble_eq_true rfl⟩) hS (fun q _ h => MA.le hS.1 q h) (MA.le hS.1) (fun r74 x t H locs ht hvm hw hB _ _ hS => ?_)
      have hP := mB.at ht hB
      clear hB ht hvm
      obtain ⟨st75, sl76⟩ := x
      obtain ⟨hG2, hL2, hw⟩ := hw
      have hL : LQ [9] sl sl76 := hL.tr hL2 (by decide)
      clear hL2
      dsimp only at hw
      have hP : va_P (dC, dI) vwCl (mw ar cy st75 sl76) _ := hP
      have hG : MG [2, 7, 8, 9, 10, 11, 12, 13, 14, 15, 20, 22] st st75 := hG.tr hG2 (by decide)
      have hG77 : MG [6] st st75 := hG27.tr hG2 (by decide)
      have hG78 : MG [1] st2 st75 := hG28.tr hG2 (by decide)
      have hG79 : MG [1] st21 st75 := hG29.tr hG2 (by decide)
      have hGst75 : MG [1, 2, 3, 6, 7, 8, 9, 10, 11, 12, 13, 14, 15, 20, 21, 22] st25 st75 := hG2
      clear hG2
      rcases hw with ⟨n80, rfl, hf81, hf82, hf83⟩ | rfl
      · have hf81c := hf81.2.2.1
        have hf81d := hf81.2.2.2
        refine lv_if_eq (tgt := 64) hx hb dX12_park_54 (by decide) (fun cc => absurd cc (by decide)) (fun _ => ?_)
        refine lv_aload_n hx hb dX12_park_57 rfl (lv_at hl 1 rfl) ?_
        refine va_calli (va_runV (As := []) (rest := []) ⟨hx, hb, hml, hown, hts⟩ (m_readEnd l dC dI ar cy _ hN st75 sl76 n80 n6  hG.1 ((⟨by rw [hf81.1], by rw [hf81.2.1], by omega, by omega⟩ : TS st75 n80 n6))) (cwV 0 hts gX12_park_X12_readEnd rfl rfl rfl (by decide +kernel) ⟨Nat.le_of_ble_eq_true rfl, Nat.le_of_ble_eq_true rfl⟩) ⟨fun a U g mk q => ⟨q.1, mPre.blind q.2⟩, va_recv hK hP (ci := 11) (q0 := 0) rfl rfl, fun U hU hW => ⟨rfl, mPre.of hP hK hU hW⟩⟩ rfl rfl hl.1 rfl (lv_room (Nat.le_of_ble_eq_true rfl)) dX12_park_58 ⟨Nat.le_of_ble_eq_true rfl, Nat.le_of_ble_eq_true rfl⟩) hS (fun q _ h => MA.le hS.1 q h) (MA.le hS.1) (fun r84 x t H locs ht hvm hw hB _ _ hS => ?_)
        have hP := mB.at ht hB
        clear hB ht hvm
        obtain ⟨st85, sl86⟩ := x
        obtain ⟨hG2, hL2, hw⟩ := hw
        have hL : LQ [9] sl sl86 := hL.tr hL2 (by decide)
        clear hL2
        dsimp only at hw
        have hP : va_P (dC, dI) vwCl (mw ar cy st85 sl86) _ := hP
        have hG : MG [2, 7, 8, 9, 10, 11, 12, 13, 14, 15, 20, 22] st st85 := hG.tr hG2 (by decide)
        have hG87 : MG [6] st st85 := hG77.tr hG2 (by decide)
        have hG88 : MG [1] st2 st85 := hG78.tr hG2 (by decide)
        have hG89 : MG [1] st21 st85 := hG79.tr hG2 (by decide)
        have hGst85 : MG [1, 2, 3, 6, 7, 8, 9, 10, 11, 12, 13, 14, 15, 19, 20, 21, 22] st75 st85 := hG2
        clear hG2
        rcases hw with ⟨n90, rfl, hf91, hf92, hf93, hf94⟩ | rfl
        · have hf91c := hf91.2.2.1
          have hf91d := hf91.2.2.2
          have hpr := hf83 hf94
          refine lv_if_ne (tgt := 71) hx hb dX12_park_61 (by decide) (fun _ => ?_) (fun cc => absurd cc (by decide))
          obtain ⟨z95, ez95⟩ : ∃ y : Int32, y = z24 + 1 := ⟨_, rfl⟩
          refine lv_iinc (v := z95) (lv' := [(1, .int z95), (0, .ref (ar 0))]) hx hb dX12_park_71 hl (k := 0) rfl (by rw [ez95]; rfl) (by decide) rfl (fun ls hl => ?_)
          refine lv_goto (tgt := 43) hx hb dX12_park_74 (by decide) ?_
          exact ih31 (n6 - n90) _ _ _ _ (by omega) ⟨z95, st85, sl86, n90, rfl, ⟨by rw [hf91.1], by rw [hf91.2.1], by omega, by omega⟩, by omega, hP, hG, hG87, hG88, hG89, hL, hS, lv_sub hl [0, 1] rfl, rfl⟩
        · refine lv_if_ne (tgt := 71) hx hb dX12_park_61 (by decide) (fun cc => absurd (by decide) cc) (fun _ => ?_)
          refine lv_iconst (v := (-1)) hx hb dX12_park_64 (by decide) ?_
          refine lv_aload_n hx hb dX12_park_65 rfl (lv_at hl 1 rfl) ?_
          refine va_get (D := (dC, dI)) (ci := 11) (v := .int (st85 0 11)) (C := RX12) (T := TX12) (N := 47) hx hb hts ii_X12_park hown hK hP 0 rfl rfl 11 (by decide) (hts _ mm_X12_park_4) (fun _ hh => hh) rfl dX12_park_66 ?_
          refine lv_topi (fun z96 ez96 => ?_)
          refine lv_isub hx hb dX12_park_69 ?_
          refine lv_topi (fun z97 ez97 => ?_)
          exact W.iret (v := z97) hx hb hr (fun t ht hW => ⟨⟨z97, (st85, sl86), rfl, ⟨hG, hL, ⟨by show st85 0 2 = 0; rw [hGst85.2 0 2 (by decide), hGst75.2 0 2 (by decide), hG29.2 0 2 (by decide), est21, up2_ne (r := 0) (k := 24) (a := 0) (j := 2) _ _ (by omega), est18, up2_ne (r := 3) (k := 60) (a := 0) (j := 2) _ _ (by omega), hG13.2 0 2 (by decide), hf8], fun hh => NKn.mg hG87 (by decide) hh⟩⟩, mB.of ht hP⟩, hS.F ht⟩) hS.2.2 dX12_park_70
      · refine lv_if_eq (tgt := 64) hx hb dX12_park_54 (by decide) (fun _ => ?_) (fun cc => absurd (by decide) cc)
        refine lv_iconst (v := (-1)) hx hb dX12_park_64 (by decide) ?_
        refine lv_aload_n hx hb dX12_park_65 rfl (lv_at hl 1 rfl) ?_
        refine va_get (D := (dC, dI)) (ci := 11) (v := .int (st75 0 11)) (C := RX12) (T := TX12) (N := 47) hx hb hts ii_X12_park hown hK hP 0 rfl rfl 11 (by decide) (hts _ mm_X12_park_4) (fun _ hh => hh) rfl dX12_park_66 ?_
        refine lv_topi (fun z98 ez98 => ?_)
        refine lv_isub hx hb dX12_park_69 ?_
        refine lv_topi (fun z99 ez99 => ?_)
        exact W.iret (v := z99) hx hb hr (fun t ht hW => ⟨⟨z99, (st75, sl76), rfl, ⟨hG, hL, ⟨by show st75 0 2 = 0; rw [hGst75.2 0 2 (by decide), hG29.2 0 2 (by decide), est21, up2_ne (r := 0) (k := 24) (a := 0) (j := 2) _ _ (by omega), est18, up2_ne (r := 3) (k := 60) (a := 0) (j := 2) _ _ (by omega), hG13.2 0 2 (by decide), hf8], fun hh => NKn.mg hG77 (by decide) hh⟩⟩, mB.of ht hP⟩, hS.F ht⟩) hS.2.2 dX12_park_70
  · have c1 : ¬ 61 ≤ k9 := fun hh => c1 ((nI_leI (a := 61) (b := k9) (by omega) (by omega)).mpr hh)
    refine lv_aload_n hx hb dX12_park_15 rfl (lv_at hl 1 rfl) ?_
    refine va_get (D := (dC, dI)) (ci := 11) (v := .ref (ar 3)) (C := RX12) (T := TX12) (N := 47) hx hb hts ii_X12_park hown hK hP 0 rfl rfl 15 (by decide) (hts _ mm_X12_park_1) (fun _ hh => hh) rfl dX12_park_16 ?_
    refine lv_iload_n hx hb dX12_park_19 rfl (lv_at hl 0 rfl) ?_
    refine lv_iconst (v := 0) hx hb dX12_park_20 (by decide) ?_
    refine va_iast hx hb hK hP (mD hN _ _ _ _) hS 3 2 rfl rfl (i := (nI k9)) (vp_in_nI (by omega) (by decide)) dX12_park_21 (fun H locs hP _ hS => ?_)
    rw [nI_clamp (by omega)] at hP
    have hP : va_P (dC, dI) vwCl (mw ar cy (up2 st10 3 k9 0) sl11) H := hP
    obtain ⟨st100, est100⟩ : ∃ y, y = up2 st10 3 k9 0 := ⟨_, rfl⟩
    have hG : MG [2, 7, 8, 9, 10, 11, 12, 13, 14, 15, 20, 22] st st100 := by rw [est100]; exact hG.up (r0) (pns_3_0_61_2_7_8_9_10_11_12_13_14_15_20_22 k9 (by omega) (by omega))
    have hG101 : MG [6] st st100 := by rw [est100]; exact hG12.up (r0) (pns_3_0_61_6 k9 (by omega) (by omega))
    have hG102 : MG [1] st2 st100 := by rw [est100]; exact hG13.up (r0) (pns_3_0_61_1 k9 (by omega) (by omega))
    rw [← est100] at hP
    refine lv_iinc (v := (nI (k9 + 1))) (lv' := [(1, .int (nI (k9 + 1))), (0, .ref (ar 0))]) hx hb dX12_park_22 hl (k := 0) rfl (nI_add k9 1) (by decide) rfl (fun ls hl => ?_)
    refine lv_goto (tgt := 9) hx hb dX12_park_25 (by decide) ?_
    exact ih17 (62 - (k9 + 1)) _ _ _ _ (by omega) ⟨(k9 + 1), st100, sl11, g14, rfl, by omega, by omega, ⟨by rw [est100, up2_ne (r := 3) (k := k9) (a := 0) (j := 5) _ _ (by omega), hTg14.1], by rw [est100, up2_ne (r := 3) (k := k9) (a := 0) (j := 3) _ _ (by omega), hTg14.2.1], by omega, by omega⟩, by omega, hP, hG, hG101, hG102, hL, hS, lv_sub hl [0, 1] rfl, rfl⟩
