set_option maxHeartbeats 4000000 in
set_option maxRecDepth 100000 in
theorem m_odds (l : Launch) (dC : Nat → ClassId) (dI : Nat → Nat → Nat) (ar : Nat → Nat) (cy : Nat → ClassId) (sz : Nat) (hN : MN ar) (st : Nat → Nat → Int32) (sl : Nat → Nat → Int64) (va : Int32) (vb : Int32) (vc : Int32) (hI : MI st) : Met l yX12_odds wsX12_odds ({ frames := 7, cells := 0, slots := 0, locals := 159 }) (va_Pc [.ref (ar 0), .int va, .int vb, .int vc] (mPre dC dI ar cy sz st sl)) (va_Qi (fun (r : Int32) (x : MT) => MG [1, 2, 3, 4, 5, 6, 7, 8, 9, 10, 11, 12, 13, 14, 15, 16, 17, 19, 20, 21, 22, 23] st x.1 ∧ LQ [7, 9] sl x.2 ∧ (True)) (mB dC dI ar cy) (MA ar sz)) 0 0 (MA ar sz) := by
  refine Met.ofW (cc := cX12_odds) (maxL := 7) (ret := (some .int)) (by decide) rfl ?_
  intro p e s m args below meth c s₁ B hml hv
  obtain ⟨rfl, hsz, hP, hK⟩ := hv
  have hx := B.exec
  have hb := B.bytes
  have hr := B.returns
  have hts := atoms_spec (ws := wsX12_odds) B.pre
  have hown : s.vm.findClass RX12 = some m.cls := findClass_of_methodNamed B.named
  subst hsz
  have hS : va_S (MA ar s.heap.size) s.heap s.heap [] := va_S.rf
  have hG : MG [1, 2, 3, 4, 5, 6, 7, 8, 9, 10, 11, 12, 13, 14, 15, 16, 17, 19, 20, 21, 22, 23] st st := MG.rf hI
  have hl := lv_entry ([.ref (ar 0), .int va, .int vb, .int vc]) (n := 7) (Nat.le_of_ble_eq_true rfl)
  rw [lg_entry_eq]
  generalize (lg_sl ([.ref (ar 0), .int va, .int vb, .int vc]) ++ List.replicate (7 - (lg_sl ([.ref (ar 0), .int va, .int vb, .int vc])).length) Slot.unset).toArray = ls at hl ⊢
  have hl : lv_has ls 7 [(0, .ref (ar 0)), (1, .int va), (2, .int vb), (3, .int vc)] := hl
  clear hI
  have hL : LQ [7, 9] sl sl := LQ.rf
  refine lv_aload_n hx hb dX12_odds_0 rfl (lv_at hl 0 rfl) ?_
  refine lv_iconst (v := 0) hx hb dX12_odds_1 (by decide) ?_
  refine va_put (D := (dC, dI)) (ci := 11) (v := .int 0) (ty := .int) (C := RX12) (T := TX12) (N := 47) hx hb hts ii_X12_odds tyX12 tyX12_ok nmX12 hown hK hP (mD hN _ _ _ _) hS 0 rfl rfl 0 (by decide) (hts _ mm_X12_odds_1) (fun _ hh => hh) rfl (by decide +kernel) rfl rfl (Nat.le_of_ble_eq_true rfl) dX12_odds_2 (fun H locs hP _ hS => ?_)
  have hP : va_P (dC, dI) vwCl (mw ar cy (up2 st 0 0 0) sl) H := hP
  obtain ⟨st1, hP, hG⟩ : ∃ y, va_P (dC, dI) vwCl (mw ar cy y sl) H ∧ MG [1, 2, 3, 4, 5, 6, 7, 8, 9, 10, 11, 12, 13, 14, 15, 16, 17, 19, 20, 21, 22, 23] st y := ⟨up2 st 0 0 0, hP, hG.up (rz (by decide : mr 0 0 = 0)) (pn (by decide : pcl 0 0 = 0) (by decide))⟩
  refine lv_aload_n hx hb dX12_odds_5 rfl (lv_at hl 0 rfl) ?_
  refine lv_iload_n hx hb dX12_odds_6 rfl (lv_at hl 1 rfl) ?_
  refine va_calli (va_runV (As := [.int va]) (rest := []) ⟨hx, hb, hml, hown, hts⟩ (m_isPerson l dC dI ar cy _ hN st1 sl va  hG.1) (cwV 1 hts gX12_odds_X12_isPerson rfl rfl rfl (by decide +kernel) ⟨Nat.le_of_ble_eq_true rfl, Nat.le_of_ble_eq_true rfl⟩) ⟨fun a U g mk q => ⟨q.1, mPre.blind q.2⟩, va_recv hK hP (ci := 11) (q0 := 0) rfl rfl, fun U hU hW => ⟨rfl, mPre.of hP hK hU hW⟩⟩ rfl rfl hl.1 rfl (lv_room (Nat.le_of_ble_eq_true rfl)) dX12_odds_7 ⟨Nat.le_of_ble_eq_true rfl, Nat.le_of_ble_eq_true rfl⟩) hS (fun q _ h => MA.le hS.1 q h) (MA.le hS.1) (fun r2 x t H locs ht hvm hw hB _ _ hS => ?_)
  have hP := mB.at ht hB
  clear hB ht hvm
  obtain ⟨rfl, hw⟩ := hw
  have hP : va_P (dC, dI) vwCl (mw ar cy st1 sl) _ := hP
  rcases hw with ⟨n3, rfl, hf4, rfl⟩ | rfl
  · refine lv_if_eq (tgt := 23) hx hb dX12_odds_10 (by decide) (fun cc => absurd cc (by decide)) (fun _ => ?_)
    refine lv_iload_n hx hb dX12_odds_13 rfl (lv_at hl 2 rfl) ?_
    refine lv_iconst (v := 1) hx hb dX12_odds_14 (by decide) ?_
    refine lv_bipush (v := 30) hx hb dX12_odds_15 (by decide) ?_
    refine va_calli (va_runS (As := [.int vb, .int 1, .int 30]) (rest := []) ⟨hx, hb, hml, hown, hts⟩ (m_isIn l dC dI ar cy _ hN st1 sl vb 1 30  hG.1) (va_cwS 3 hts gX12_odds_X12_isIn rfl rfl rfl (by decide +kernel) ⟨Nat.le_of_ble_eq_true rfl, Nat.le_of_ble_eq_true rfl⟩) ⟨fun a U g mk q => ⟨q.1, mPre.blind q.2⟩, fun U hU hW => ⟨rfl, mPre.of hP hK hU hW⟩⟩ rfl rfl hl.1 rfl (lv_room (Nat.le_of_ble_eq_true rfl)) dX12_odds_17 ⟨Nat.le_of_ble_eq_true rfl, Nat.le_of_ble_eq_true rfl⟩) hS (fun q _ h => MA.le hS.1 q h) (MA.le hS.1) (fun r5 x t H locs ht hvm hw hB _ _ hS => ?_)
    have hP := mB.at ht hB
    clear hB ht hvm
    obtain ⟨rfl, hw⟩ := hw
    have hP : va_P (dC, dI) vwCl (mw ar cy st1 sl) _ := hP
    rcases hw with ⟨rfl, hf6, hf7⟩ | rfl
    · obtain ⟨n8, hn8a, hn8b, rfl⟩ := zz_rng (a := 1) (b := 30) (by omega) hf6 (by omega) hf7
      refine lv_if_ne (tgt := 25) hx hb dX12_odds_20 (by decide) (fun _ => ?_) (fun cc => absurd cc (by decide))
      refine lv_aload_n hx hb dX12_odds_25 rfl (lv_at hl 0 rfl) ?_
      refine va_callv (va_runV (As := []) (rest := []) ⟨hx, hb, hml, hown, hts⟩ (m_layAside l dC dI ar cy _ hN st1 sl  hG.1) (cwV 0 hts gX12_odds_X12_layAside rfl rfl rfl (by decide +kernel) ⟨Nat.le_of_ble_eq_true rfl, Nat.le_of_ble_eq_true rfl⟩) ⟨fun a U g mk q => ⟨q.1, mPre.blind q.2⟩, va_recv hK hP (ci := 11) (q0 := 0) rfl rfl, fun U hU hW => ⟨rfl, mPre.of hP hK hU hW⟩⟩ rfl rfl hl.1 rfl (lv_room (Nat.le_of_ble_eq_true rfl)) dX12_odds_26 ⟨Nat.le_of_ble_eq_true rfl, Nat.le_of_ble_eq_true rfl⟩) hS (fun q _ h => MA.le hS.1 q h) (MA.le hS.1) (fun x t H locs ht hvm hw hB _ _ hS => ?_)
      have hP := mB.at ht hB
      clear hB ht hvm
      obtain ⟨st10, sl11⟩ := x
      obtain ⟨hG2, hL2, hw⟩ := hw
      have hL : LQ [7, 9] sl sl11 := hL.tr hL2 (by decide)
      clear hL2
      have hP : va_P (dC, dI) vwCl (mw ar cy st10 sl11) _ := hP
      have hG : MG [1, 2, 3, 4, 5, 6, 7, 8, 9, 10, 11, 12, 13, 14, 15, 16, 17, 19, 20, 21, 22, 23] st st10 := hG.tr hG2 (by decide)
      clear hG2
      clear hw
      refine lv_aload_n hx hb dX12_odds_29 rfl (lv_at hl 0 rfl) ?_
      refine va_get (D := (dC, dI)) (ci := 11) (v := .ref (ar 2)) (C := RX12) (T := TX12) (N := 47) hx hb hts ii_X12_odds hown hK hP 0 rfl rfl 14 (by decide) (hts _ mm_X12_odds_2) (fun _ hh => hh) rfl dX12_odds_30 ?_
      refine lv_bipush (v := 103) hx hb dX12_odds_33 (by decide) ?_
      refine lv_iload_n hx hb dX12_odds_35 rfl (lv_at hl 1 rfl) ?_
      refine lv_iadd hx hb dX12_odds_36 ?_
      refine zz_top (v := nI (103 + n3)) (nI_add 103 n3) ?_
      refine va_iald hx hb hK hP 2 1 rfl rfl (i := (nI (103 + n3))) (vp_in_nI (by omega) (by decide)) dX12_odds_37 ?_
      refine lv_topi (fun z12 ez12 => ?_)
      clear ez12
      refine lv_istore (lv' := [(4, .int z12), (0, .ref (ar 0)), (1, .int (nI n3)), (2, .int (nI n8)), (3, .int vc)]) hx hb dX12_odds_38 hl (by decide) rfl (fun ls hl => ?_)
      refine lv_iconst (v := 0) hx hb dX12_odds_40 (by decide) ?_
      refine lv_istore (lv' := [(5, .int 0), (4, .int z12), (0, .ref (ar 0)), (1, .int (nI n3)), (2, .int (nI n8)), (3, .int vc)]) hx hb dX12_odds_41 hl (by decide) rfl (fun ls hl => ?_)
      refine lv_iconst (v := 0) hx hb dX12_odds_43 (by decide) ?_
      refine lv_istore (lv' := [(6, .int 0), (5, .int 0), (4, .int z12), (0, .ref (ar 0)), (1, .int (nI n3)), (2, .int (nI n8)), (3, .int vc)]) hx hb dX12_odds_44 hl (by decide) rfl (fun ls hl => ?_)
      refine zz_wf (fun n stk H locs ls => ∃ k13 : Nat, ∃ z14 : Int32, ∃ st15 : Nat → Nat → Int32, ∃ sl16 : Nat → Nat → Int64, n = 32 - k13 ∧ 0 ≤ k13 ∧ k13 < 32 ∧ va_P (dC, dI) vwCl (mw ar cy st15 sl16) H ∧ MG [1, 2, 3, 4, 5, 6, 7, 8, 9, 10, 11, 12, 13, 14, 15, 16, 17, 19, 20, 21, 22, 23] st st15 ∧ LQ [7, 9] sl sl16 ∧ va_S (MA ar s.heap.size) s.heap H locs ∧ lv_has ls 7 [(6, .int (nI k13)), (5, .int z14), (4, .int z12), (0, .ref (ar 0)), (1, .int (nI n3)), (2, .int (nI n8)), (3, .int vc)] ∧ stk = []) ?_ (32 - 0) _ _ _ _ ⟨0, 0, st10, sl11, rfl, by omega, by omega, hP, hG, hL, hS, lv_sub hl [0, 1, 2, 3, 4, 5, 6] rfl, rfl⟩
      rintro nn stk H locs ls ⟨k13, z14, st15, sl16, hm18, hv17_0, hv18_1, hP, hG, hL, hS, hl, rfl⟩ ih19
      refine lv_iload hx hb dX12_odds_46 (lv_at hl 0 rfl) ?_
      refine lv_iload_n hx hb dX12_odds_48 rfl (lv_at hl 5 rfl) ?_
      refine lv_icmp_ge (tgt := 90) hx hb dX12_odds_49 (by decide) (fun c3 => ?_) (fun c3 => ?_)
      · have c3 : n8 ≤ k13 := (nI_leI (a := n8) (b := k13) (by omega) (by omega)).mp c3
        refine lv_iload hx hb dX12_odds_90 (lv_at hl 1 rfl) ?_
        exact W.iret (v := z14) hx hb hr (fun t ht hW => ⟨⟨z14, (st15, sl16), rfl, ⟨hG, hL, trivial⟩, mB.of ht hP⟩, hS.F ht⟩) hS.2.2 dX12_odds_92
      · have c3 : ¬ n8 ≤ k13 := fun hh => c3 ((nI_leI (a := n8) (b := k13) (by omega) (by omega)).mpr hh)
        refine lv_aload_n hx hb dX12_odds_52 rfl (lv_at hl 3 rfl) ?_
        refine lv_bipush (v := 7) hx hb dX12_odds_53 (by decide) ?_
        refine lv_iload_n hx hb dX12_odds_55 rfl (lv_at hl 6 rfl) ?_
        refine lv_iload hx hb dX12_odds_56 (lv_at hl 0 rfl) ?_
        refine lv_iadd hx hb dX12_odds_58 ?_
        refine lv_topi (fun z20 ez20 => ?_)
        clear ez20
        refine va_calli (va_runV (As := [.int 7, .int z20]) (rest := []) ⟨hx, hb, hml, hown, hts⟩ (m_passDays l dC dI ar cy _ hN st15 sl16 7 z20  hG.1) (cwV 2 hts gX12_odds_X12_passDays rfl rfl rfl (by decide +kernel) ⟨Nat.le_of_ble_eq_true rfl, Nat.le_of_ble_eq_true rfl⟩) ⟨fun a U g mk q => ⟨q.1, mPre.blind q.2⟩, va_recv hK hP (ci := 11) (q0 := 0) rfl rfl, fun U hU hW => ⟨rfl, mPre.of hP hK hU hW⟩⟩ rfl rfl hl.1 rfl (lv_room (Nat.le_of_ble_eq_true rfl)) dX12_odds_59 ⟨Nat.le_of_ble_eq_true rfl, Nat.le_of_ble_eq_true rfl⟩) hS (fun q _ h => MA.le hS.1 q h) (MA.le hS.1) (fun r21 x t H locs ht hvm hw hB _ _ hS => ?_)
        have hP := mB.at ht hB
        clear hB ht hvm
        obtain ⟨st22, sl23⟩ := x
        obtain ⟨hG2, hL2, hw⟩ := hw
        have hL : LQ [7, 9] sl sl23 := hL.tr hL2 (by decide)
        clear hL2
        have hP : va_P (dC, dI) vwCl (mw ar cy st22 sl23) _ := hP
        have hG : MG [1, 2, 3, 4, 5, 6, 7, 8, 9, 10, 11, 12, 13, 14, 15, 16, 17, 19, 20, 21, 22, 23] st st22 := hG.tr hG2 (by decide)
        clear hG2
        clear hw
        refine lv_pop hx hb dX12_odds_62 rfl ?_
        refine lv_aload_n hx hb dX12_odds_63 rfl (lv_at hl 3 rfl) ?_
        refine va_get (D := (dC, dI)) (ci := 11) (v := .ref (ar 2)) (C := RX12) (T := TX12) (N := 47) hx hb hts ii_X12_odds hown hK hP 0 rfl rfl 14 (by decide) (hts _ mm_X12_odds_2) (fun _ hh => hh) rfl dX12_odds_64 ?_
        refine lv_bipush (v := 103) hx hb dX12_odds_67 (by decide) ?_
        refine lv_iload_n hx hb dX12_odds_69 rfl (lv_at hl 4 rfl) ?_
        refine lv_iadd hx hb dX12_odds_70 ?_
        refine zz_top (v := nI (103 + n3)) (nI_add 103 n3) ?_
        refine va_iald hx hb hK hP 2 1 rfl rfl (i := (nI (103 + n3))) (vp_in_nI (by omega) (by decide)) dX12_odds_71 ?_
        refine lv_topi (fun z24 ez24 => ?_)
        clear ez24
        refine lv_iload hx hb dX12_odds_72 (lv_at hl 2 rfl) ?_
        refine lv_icmp_le (tgt := 80) hx hb dX12_odds_74 (by decide) (fun c4 => ?_) (fun c4 => ?_)
        · refine lv_aload_n hx hb dX12_odds_80 rfl (lv_at hl 3 rfl) ?_
          refine va_callv (va_runV (As := []) (rest := []) ⟨hx, hb, hml, hown, hts⟩ (m_takeBack l dC dI ar cy _ hN st22 sl23  hG.1) (cwV 0 hts gX12_odds_X12_takeBack rfl rfl rfl (by decide +kernel) ⟨Nat.le_of_ble_eq_true rfl, Nat.le_of_ble_eq_true rfl⟩) ⟨fun a U g mk q => ⟨q.1, mPre.blind q.2⟩, va_recv hK hP (ci := 11) (q0 := 0) rfl rfl, fun U hU hW => ⟨rfl, mPre.of hP hK hU hW⟩⟩ rfl rfl hl.1 rfl (lv_room (Nat.le_of_ble_eq_true rfl)) dX12_odds_81 ⟨Nat.le_of_ble_eq_true rfl, Nat.le_of_ble_eq_true rfl⟩) hS (fun q _ h => MA.le hS.1 q h) (MA.le hS.1) (fun x t H locs ht hvm hw hB _ _ hS => ?_)
          have hP := mB.at ht hB
          clear hB ht hvm
          obtain ⟨st26, sl27⟩ := x
          obtain ⟨hG2, hL2, hw⟩ := hw
          have hL : LQ [7, 9] sl sl27 := hL.tr hL2 (by decide)
          clear hL2
          have hP : va_P (dC, dI) vwCl (mw ar cy st26 sl27) _ := hP
          have hG : MG [1, 2, 3, 4, 5, 6, 7, 8, 9, 10, 11, 12, 13, 14, 15, 16, 17, 19, 20, 21, 22, 23] st st26 := hG.tr hG2 (by decide)
          clear hG2
          clear hw
          refine lv_iinc (v := (nI (k13 + 1))) (lv' := [(6, .int (nI (k13 + 1))), (5, .int z14), (4, .int z12), (0, .ref (ar 0)), (1, .int (nI n3)), (2, .int (nI n8)), (3, .int vc)]) hx hb dX12_odds_84 hl (k := 0) rfl (nI_add k13 1) (by decide) rfl (fun ls hl => ?_)
          refine lv_goto (tgt := 46) hx hb dX12_odds_87 (by decide) ?_
          exact ih19 (32 - (k13 + 1)) _ _ _ _ (by omega) ⟨(k13 + 1), z14, st26, sl27, rfl, by omega, by omega, hP, hG, hL, hS, lv_sub hl [0, 1, 2, 3, 4, 5, 6] rfl, rfl⟩
        · obtain ⟨z28, ez28⟩ : ∃ y : Int32, y = z14 + 1 := ⟨_, rfl⟩
          refine lv_iinc (v := z28) (lv' := [(5, .int z28), (6, .int (nI k13)), (4, .int z12), (0, .ref (ar 0)), (1, .int (nI n3)), (2, .int (nI n8)), (3, .int vc)]) hx hb dX12_odds_77 hl (k := 1) rfl (by rw [ez28]; rfl) (by decide) rfl (fun ls hl => ?_)
          refine lv_aload_n hx hb dX12_odds_80 rfl (lv_at hl 3 rfl) ?_
          refine va_callv (va_runV (As := []) (rest := []) ⟨hx, hb, hml, hown, hts⟩ (m_takeBack l dC dI ar cy _ hN st22 sl23  hG.1) (cwV 0 hts gX12_odds_X12_takeBack rfl rfl rfl (by decide +kernel) ⟨Nat.le_of_ble_eq_true rfl, Nat.le_of_ble_eq_true rfl⟩) ⟨fun a U g mk q => ⟨q.1, mPre.blind q.2⟩, va_recv hK hP (ci := 11) (q0 := 0) rfl rfl, fun U hU hW => ⟨rfl, mPre.of hP hK hU hW⟩⟩ rfl rfl hl.1 rfl (lv_room (Nat.le_of_ble_eq_true rfl)) dX12_odds_81 ⟨Nat.le_of_ble_eq_true rfl, Nat.le_of_ble_eq_true rfl⟩) hS (fun q _ h => MA.le hS.1 q h) (MA.le hS.1) (fun x t H locs ht hvm hw hB _ _ hS => ?_)
          have hP := mB.at ht hB
          clear hB ht hvm
          obtain ⟨st30, sl31⟩ := x
          obtain ⟨hG2, hL2, hw⟩ := hw
          have hL : LQ [7, 9] sl sl31 := hL.tr hL2 (by decide)
          clear hL2
          have hP : va_P (dC, dI) vwCl (mw ar cy st30 sl31) _ := hP
          have hG : MG [1, 2, 3, 4, 5, 6, 7, 8, 9, 10, 11, 12, 13, 14, 15, 16, 17, 19, 20, 21, 22, 23] st st30 := hG.tr hG2 (by decide)
          clear hG2
          clear hw
          refine lv_iinc (v := (nI (k13 + 1))) (lv' := [(6, .int (nI (k13 + 1))), (5, .int z28), (4, .int z12), (0, .ref (ar 0)), (1, .int (nI n3)), (2, .int (nI n8)), (3, .int vc)]) hx hb dX12_odds_84 hl (k := 1) rfl (nI_add k13 1) (by decide) rfl (fun ls hl => ?_)
          refine lv_goto (tgt := 46) hx hb dX12_odds_87 (by decide) ?_
          exact ih19 (32 - (k13 + 1)) _ _ _ _ (by omega) ⟨(k13 + 1), z28, st30, sl31, rfl, by omega, by omega, hP, hG, hL, hS, lv_sub hl [0, 1, 2, 3, 4, 5, 6] rfl, rfl⟩
    · refine lv_if_ne (tgt := 25) hx hb dX12_odds_20 (by decide) (fun cc => absurd (by decide) cc) (fun _ => ?_)
      refine lv_iconst (v := (-1)) hx hb dX12_odds_23 (by decide) ?_
      exact W.iret (v := (-1)) hx hb hr (fun t ht hW => ⟨⟨(-1), (st1, sl), rfl, ⟨hG, hL, trivial⟩, mB.of ht hP⟩, hS.F ht⟩) hS.2.2 dX12_odds_24
  · refine lv_if_eq (tgt := 23) hx hb dX12_odds_10 (by decide) (fun _ => ?_) (fun cc => absurd (by decide) cc)
    refine lv_iconst (v := (-1)) hx hb dX12_odds_23 (by decide) ?_
    exact W.iret (v := (-1)) hx hb hr (fun t ht hW => ⟨⟨(-1), (st1, sl), rfl, ⟨hG, hL, trivial⟩, mB.of ht hP⟩, hS.F ht⟩) hS.2.2 dX12_odds_24
set_option maxHeartbeats 4000000 in
set_option maxRecDepth 100000 in
theorem m_tracks (l : Launch) (dC : Nat → ClassId) (dI : Nat → Nat → Nat) (ar : Nat → Nat) (cy : Nat → ClassId) (sz : Nat) (hN : MN ar) (st : Nat → Nat → Int32) (sl : Nat → Nat → Int64) (hI : MI st) : Met l yX12_tracks wsX12_tracks ({ frames := 3, cells := 0, slots := 0, locals := 65 }) (va_Pc [.ref (ar 0)] (mPre dC dI ar cy sz st sl)) (va_Qi (fun (r : Int32) (x : MT) => MG [2, 3, 4, 5, 6, 7, 8, 9, 10, 11, 12, 13, 14, 15, 16, 17, 19, 20, 21, 22, 23] st x.1 ∧ LQ [7, 9] sl x.2 ∧ (x.1 0 2 = 0)) (mB dC dI ar cy) (MA ar sz)) 0 0 (MA ar sz) := by
  refine Met.ofW (cc := cX12_tracks) (maxL := 6) (ret := (some .int)) (by decide) rfl ?_
  intro p e s m args below meth c s₁ B hml hv
  obtain ⟨rfl, hsz, hP, hK⟩ := hv
  have hx := B.exec
  have hb := B.bytes
  have hr := B.returns
  have hts := atoms_spec (ws := wsX12_tracks) B.pre
  have hown : s.vm.findClass RX12 = some m.cls := findClass_of_methodNamed B.named
  subst hsz
  have hS : va_S (MA ar s.heap.size) s.heap s.heap [] := va_S.rf
  have hG : MG [2, 3, 4, 5, 6, 7, 8, 9, 10, 11, 12, 13, 14, 15, 16, 17, 19, 20, 21, 22, 23] st st := MG.rf hI
  have hl := lv_entry ([.ref (ar 0)]) (n := 6) (Nat.le_of_ble_eq_true rfl)
  rw [lg_entry_eq]
  generalize (lg_sl ([.ref (ar 0)]) ++ List.replicate (6 - (lg_sl ([.ref (ar 0)])).length) Slot.unset).toArray = ls at hl ⊢
  have hl : lv_has ls 6 [(0, .ref (ar 0))] := hl
  clear hI
  have hL : LQ [7, 9] sl sl := LQ.rf
  refine lv_aload_n hx hb dX12_tracks_0 rfl (lv_at hl 0 rfl) ?_
  refine lv_iconst (v := 0) hx hb dX12_tracks_1 (by decide) ?_
  refine va_put (D := (dC, dI)) (ci := 11) (v := .int 0) (ty := .int) (C := RX12) (T := TX12) (N := 47) hx hb hts ii_X12_tracks tyX12 tyX12_ok nmX12 hown hK hP (mD hN _ _ _ _) hS 0 rfl rfl 0 (by decide) (hts _ mm_X12_tracks_1) (fun _ hh => hh) rfl (by decide +kernel) rfl rfl (Nat.le_of_ble_eq_true rfl) dX12_tracks_2 (fun H locs hP _ hS => ?_)
  have hP : va_P (dC, dI) vwCl (mw ar cy (up2 st 0 0 0) sl) H := hP
  obtain ⟨st1, est1⟩ : ∃ y, y = up2 st 0 0 0 := ⟨_, rfl⟩
  have hG : MG [2, 3, 4, 5, 6, 7, 8, 9, 10, 11, 12, 13, 14, 15, 16, 17, 19, 20, 21, 22, 23] st st1 := by rw [est1]; exact hG.up (rz (by decide : mr 0 0 = 0)) (pn (by decide : pcl 0 0 = 0) (by decide))
  rw [← est1] at hP
  refine lv_aload_n hx hb dX12_tracks_5 rfl (lv_at hl 0 rfl) ?_
  refine va_calli (va_runV (As := []) (rest := []) ⟨hx, hb, hml, hown, hts⟩ (m_take l dC dI ar cy _ hN st1 sl  hG.1) (cwV 0 hts gX12_tracks_X12_take rfl rfl rfl (by decide +kernel) ⟨Nat.le_of_ble_eq_true rfl, Nat.le_of_ble_eq_true rfl⟩) ⟨fun a U g mk q => ⟨q.1, mPre.blind q.2⟩, va_recv hK hP (ci := 11) (q0 := 0) rfl rfl, fun U hU hW => ⟨rfl, mPre.of hP hK hU hW⟩⟩ rfl rfl hl.1 rfl (lv_room (Nat.le_of_ble_eq_true rfl)) dX12_tracks_6 ⟨Nat.le_of_ble_eq_true rfl, Nat.le_of_ble_eq_true rfl⟩) hS (fun q _ h => MA.le hS.1 q h) (MA.le hS.1) (fun r2 x t H locs ht hvm hw hB _ _ hS => ?_)
  have hP := mB.at ht hB
  clear hB ht hvm
  obtain ⟨st3, sl4⟩ := x
  obtain ⟨hG2, hL2, hw⟩ := hw
  have hL : LQ [7, 9] sl sl4 := hL.tr hL2 (by decide)
  clear hL2
  dsimp only at hw
  have hP : va_P (dC, dI) vwCl (mw ar cy st3 sl4) _ := hP
  have hG : MG [2, 3, 4, 5, 6, 7, 8, 9, 10, 11, 12, 13, 14, 15, 16, 17, 19, 20, 21, 22, 23] st st3 := hG.tr hG2 (by decide)
  have hGst3 : MG [2, 3, 4, 5, 6, 7, 8, 9, 10, 11, 12, 13, 14, 15, 16, 17, 19, 20, 21, 22, 23] st1 st3 := hG2
  clear hG2
  obtain ⟨n5, rfl, hf6, hf7⟩ := hw
  refine lv_istore_n (lv' := [(1, .int (nI n5)), (0, .ref (ar 0))]) hx hb dX12_tracks_9 rfl hl (by decide) rfl (fun ls hl => ?_)
  refine lv_iload_n hx hb dX12_tracks_10 rfl (lv_at hl 0 rfl) ?_
  refine lv_iconst (v := 2) hx hb dX12_tracks_11 (by decide) ?_
  refine lv_irem hx hb dX12_tracks_12 (by decide) ?_
  refine lv_topi (fun z8 ez8 => ?_)
  clear ez8
  refine lv_if_ne (tgt := 28) hx hb dX12_tracks_13 (by decide) (fun c1 => ?_) (fun c1 => ?_)
  · refine lv_iconst (v := (-1)) hx hb dX12_tracks_28 (by decide) ?_
    exact W.iret (v := (-1)) hx hb hr (fun t ht hW => ⟨⟨(-1), (st3, sl4), rfl, ⟨hG, hL, by show st3 0 2 = 0; rw [hf7]⟩, mB.of ht hP⟩, hS.F ht⟩) hS.2.2 dX12_tracks_29
  · refine lv_iload_n hx hb dX12_tracks_16 rfl (lv_at hl 0 rfl) ?_
    refine lv_iconst (v := 2) hx hb dX12_tracks_17 (by decide) ?_
    refine lv_idiv hx hb dX12_tracks_18 (by decide) ?_
    refine zz_top (v := nI (n5 / 2)) (nI_divN (b := 2) (by omega) (by omega)) ?_
    refine lv_iconst (v := 1) hx hb dX12_tracks_19 (by decide) ?_
    refine lv_bipush (v := 10) hx hb dX12_tracks_20 (by decide) ?_
    refine va_calli (va_runS (As := [.int (nI (n5 / 2)), .int 1, .int 10]) (rest := []) ⟨hx, hb, hml, hown, hts⟩ (m_isIn l dC dI ar cy _ hN st3 sl4 (nI (n5 / 2)) 1 10  hG.1) (va_cwS 3 hts gX12_tracks_X12_isIn rfl rfl rfl (by decide +kernel) ⟨Nat.le_of_ble_eq_true rfl, Nat.le_of_ble_eq_true rfl⟩) ⟨fun a U g mk q => ⟨q.1, mPre.blind q.2⟩, fun U hU hW => ⟨rfl, mPre.of hP hK hU hW⟩⟩ rfl rfl hl.1 rfl (lv_room (Nat.le_of_ble_eq_true rfl)) dX12_tracks_22 ⟨Nat.le_of_ble_eq_true rfl, Nat.le_of_ble_eq_true rfl⟩) hS (fun q _ h => MA.le hS.1 q h) (MA.le hS.1) (fun r9 x t H locs ht hvm hw hB _ _ hS => ?_)
    have hP := mB.at ht hB
    clear hB ht hvm
    obtain ⟨rfl, hw⟩ := hw
    have hP : va_P (dC, dI) vwCl (mw ar cy st3 sl4) _ := hP
    rcases hw with ⟨rfl, hf10, hf11⟩ | rfl
    · have hf10 := (nI_leI (a := 1) (b := (n5 / 2)) (by omega) (by omega)).mp hf10
      have hf11 := (nI_leI (a := (n5 / 2)) (b := 10) (by omega) (by omega)).mp hf11
      refine lv_if_ne (tgt := 30) hx hb dX12_tracks_25 (by decide) (fun _ => ?_) (fun cc => absurd cc (by decide))
      refine lv_iconst (v := 0) hx hb dX12_tracks_30 (by decide) ?_
      refine lv_istore_n (lv' := [(2, .int 0), (1, .int (nI n5)), (0, .ref (ar 0))]) hx hb dX12_tracks_31 rfl hl (by decide) rfl (fun ls hl => ?_)
      refine zz_wf (fun n stk H locs ls => ∃ k12 : Nat, n = 24 - k12 ∧ 0 ≤ k12 ∧ k12 < 24 ∧ va_P (dC, dI) vwCl (mw ar cy st3 sl4) H ∧ va_S (MA ar s.heap.size) s.heap H locs ∧ lv_has ls 6 [(2, .int (nI k12)), (1, .int (nI n5)), (0, .ref (ar 0))] ∧ stk = []) ?_ (24 - 0) _ _ _ _ ⟨0, rfl, by omega, by omega, hP, hS, lv_sub hl [0, 1, 2] rfl, rfl⟩
      rintro nn stk H locs ls ⟨k12, hm14, hv13_0, hv14_1, hP, hS, hl, rfl⟩ ih15
      refine lv_iload_n hx hb dX12_tracks_32 rfl (lv_at hl 0 rfl) ?_
      refine lv_iload_n hx hb dX12_tracks_33 rfl (lv_at hl 1 rfl) ?_
      refine lv_icmp_ge (tgt := 71) hx hb dX12_tracks_34 (by decide) (fun c3 => ?_) (fun c3 => ?_)
      · have c3 : n5 ≤ k12 := (nI_leI (a := n5) (b := k12) (by omega) (by omega)).mp c3
        refine lv_iconst (v := 0) hx hb dX12_tracks_71 (by decide) ?_
        refine lv_istore_n (lv' := [(2, .int 0), (1, .int (nI n5)), (0, .ref (ar 0))]) hx hb dX12_tracks_72 rfl hl (by decide) rfl (fun ls hl => ?_)
        refine lv_iconst (v := 0) hx hb dX12_tracks_73 (by decide) ?_
        refine lv_istore_n (lv' := [(3, .int 0), (2, .int 0), (1, .int (nI n5)), (0, .ref (ar 0))]) hx hb dX12_tracks_74 rfl hl (by decide) rfl (fun ls hl => ?_)
        refine zz_wf (fun n stk H locs ls => ∃ k16 : Nat, ∃ z17 : Int32, n = 7 - k16 ∧ 0 ≤ k16 ∧ k16 < 7 ∧ va_P (dC, dI) vwCl (mw ar cy st3 sl4) H ∧ va_S (MA ar s.heap.size) s.heap H locs ∧ lv_has ls 6 [(3, .int (nI k16)), (2, .int z17), (1, .int (nI n5)), (0, .ref (ar 0))] ∧ stk = []) ?_ (7 - 0) _ _ _ _ ⟨0, 0, rfl, by omega, by omega, hP, hS, lv_sub hl [0, 1, 2, 3] rfl, rfl⟩
        rintro nn stk H locs ls ⟨k16, z17, hm19, hv18_0, hv19_1, hP, hS, hl, rfl⟩ ih20
        refine lv_iload_n hx hb dX12_tracks_75 rfl (lv_at hl 0 rfl) ?_
        refine lv_aload_n hx hb dX12_tracks_76 rfl (lv_at hl 3 rfl) ?_
        refine va_get (D := (dC, dI)) (ci := 11) (v := .ref (ar 2)) (C := RX12) (T := TX12) (N := 47) hx hb hts ii_X12_tracks hown hK hP 0 rfl rfl 14 (by decide) (hts _ mm_X12_tracks_3) (fun _ hh => hh) rfl dX12_tracks_77 ?_
        refine lv_iconst (v := 2) hx hb dX12_tracks_80 (by decide) ?_
        refine va_iald hx hb hK hP 2 1 rfl rfl (i := 2) (zz_in (by decide)) dX12_tracks_81 ?_
        obtain ⟨n21, hn21, en21⟩ := hG.1.at (r := 2) (k := 2) (by decide : mr 2 2 = 7) (by decide)
        refine zz_top (v := nI n21) (by exact en21) ?_
        refine lv_icmp_ge (tgt := 164) hx hb dX12_tracks_82 (by decide) (fun c4 => ?_) (fun c4 => ?_)
        · have c4 : n21 ≤ k16 := (nI_leI (a := n21) (b := k16) (by omega) (by omega)).mp c4
          refine lv_iload_n hx hb dX12_tracks_164 rfl (lv_at hl 1 rfl) ?_
          exact W.iret (v := z17) hx hb hr (fun t ht hW => ⟨⟨z17, (st3, sl4), rfl, ⟨hG, hL, by show st3 0 2 = 0; rw [hf7]⟩, mB.of ht hP⟩, hS.F ht⟩) hS.2.2 dX12_tracks_165
        · have c4 : ¬ n21 ≤ k16 := fun hh => c4 ((nI_leI (a := n21) (b := k16) (by omega) (by omega)).mpr hh)
          refine lv_iconst (v := 1) hx hb dX12_tracks_85 (by decide) ?_
          refine lv_istore (lv' := [(4, .int 1), (3, .int (nI k16)), (2, .int z17), (1, .int (nI n5)), (0, .ref (ar 0))]) hx hb dX12_tracks_86 hl (by decide) rfl (fun ls hl => ?_)
          refine lv_iconst (v := 0) hx hb dX12_tracks_88 (by decide) ?_
          refine lv_istore (lv' := [(5, .int 0), (4, .int 1), (3, .int (nI k16)), (2, .int z17), (1, .int (nI n5)), (0, .ref (ar 0))]) hx hb dX12_tracks_89 hl (by decide) rfl (fun ls hl => ?_)
          refine zz_wf (fun n stk H locs ls => ∃ k22 : Nat, ∃ z23 : Int32, n = 24 - k22 ∧ 0 ≤ k22 ∧ k22 < 24 ∧ va_P (dC, dI) vwCl (mw ar cy st3 sl4) H ∧ va_S (MA ar s.heap.size) s.heap H locs ∧ lv_has ls 6 [(5, .int (nI k22)), (4, .int z23), (3, .int (nI k16)), (2, .int z17), (1, .int (nI n5)), (0, .ref (ar 0))] ∧ stk = []) ?_ (24 - 0) _ _ _ _ ⟨0, 1, rfl, by omega, by omega, hP, hS, lv_sub hl [0, 1, 2, 3, 4, 5] rfl, rfl⟩
          rintro nn stk H locs ls ⟨k22, z23, hm25, hv24_0, hv25_1, hP, hS, hl, rfl⟩ ih26
          refine lv_iload hx hb dX12_tracks_91 (lv_at hl 0 rfl) ?_
          refine lv_iload_n hx hb dX12_tracks_93 rfl (lv_at hl 4 rfl) ?_
          refine lv_icmp_ge (tgt := 147) hx hb dX12_tracks_94 (by decide) (fun c5 => ?_) (fun c5 => ?_)
          · have c5 : n5 ≤ k22 := (nI_leI (a := n5) (b := k22) (by omega) (by omega)).mp c5
            refine lv_iload hx hb dX12_tracks_147 (lv_at hl 1 rfl) ?_
            refine lv_if_eq (tgt := 158) hx hb dX12_tracks_149 (by decide) (fun c6 => ?_) (fun c6 => ?_)
            · refine lv_iinc (v := (nI (k16 + 1))) (lv' := [(3, .int (nI (k16 + 1))), (5, .int (nI k22)), (4, .int z23), (2, .int z17), (1, .int (nI n5)), (0, .ref (ar 0))]) hx hb dX12_tracks_158 hl (k := 2) rfl (nI_add k16 1) (by decide) rfl (fun ls hl => ?_)
              refine lv_goto (tgt := 75) hx hb dX12_tracks_161 (by decide) ?_
              exact ih20 (7 - (k16 + 1)) _ _ _ _ (by omega) ⟨(k16 + 1), z17, rfl, by omega, by omega, hP, hS, lv_sub hl [0, 3, 4, 5] rfl, rfl⟩
            · refine lv_iload_n hx hb dX12_tracks_152 rfl (lv_at hl 3 rfl) ?_
              refine lv_iconst (v := 1) hx hb dX12_tracks_153 (by decide) ?_
              refine lv_iload_n hx hb dX12_tracks_154 rfl (lv_at hl 2 rfl) ?_
              refine lv_ishl hx hb dX12_tracks_155 ?_
              refine lv_topi (fun z27 ez27 => ?_)
              refine lv_ior hx hb dX12_tracks_156 ?_
              refine lv_topi (fun z28 ez28 => ?_)
              refine lv_istore_n (lv' := [(2, .int z28), (5, .int (nI k22)), (4, .int z23), (3, .int (nI k16)), (1, .int (nI n5)), (0, .ref (ar 0))]) hx hb dX12_tracks_157 rfl hl (by decide) rfl (fun ls hl => ?_)
              refine lv_iinc (v := (nI (k16 + 1))) (lv' := [(3, .int (nI (k16 + 1))), (2, .int z28), (5, .int (nI k22)), (4, .int z23), (1, .int (nI n5)), (0, .ref (ar 0))]) hx hb dX12_tracks_158 hl (k := 3) rfl (nI_add k16 1) (by decide) rfl (fun ls hl => ?_)
              refine lv_goto (tgt := 75) hx hb dX12_tracks_161 (by decide) ?_
              exact ih20 (7 - (k16 + 1)) _ _ _ _ (by omega) ⟨(k16 + 1), z28, rfl, by omega, by omega, hP, hS, lv_sub hl [0, 1, 4, 5] rfl, rfl⟩
          · have c5 : ¬ n5 ≤ k22 := fun hh => c5 ((nI_leI (a := n5) (b := k22) (by omega) (by omega)).mpr hh)
            refine lv_iload hx hb dX12_tracks_97 (lv_at hl 1 rfl) ?_
            refine lv_if_eq (tgt := 138) hx hb dX12_tracks_99 (by decide) (fun c7 => ?_) (fun c7 => ?_)
            · refine lv_iconst (v := 0) hx hb dX12_tracks_138 (by decide) ?_
              refine lv_istore (lv' := [(4, .int 0), (5, .int (nI k22)), (3, .int (nI k16)), (2, .int z17), (1, .int (nI n5)), (0, .ref (ar 0))]) hx hb dX12_tracks_139 hl (by decide) rfl (fun ls hl => ?_)
              refine lv_iinc (v := (nI (k22 + 2))) (lv' := [(5, .int (nI (k22 + 2))), (4, .int 0), (3, .int (nI k16)), (2, .int z17), (1, .int (nI n5)), (0, .ref (ar 0))]) hx hb dX12_tracks_141 hl (k := 1) rfl (nI_add k22 2) (by decide) rfl (fun ls hl => ?_)
              refine lv_goto (tgt := 91) hx hb dX12_tracks_144 (by decide) ?_
              exact ih26 (24 - (k22 + 2)) _ _ _ _ (by omega) ⟨(k22 + 2), 0, rfl, by omega, by omega, hP, hS, lv_sub hl [0, 1, 2, 3, 4, 5] rfl, rfl⟩
            · refine lv_aload_n hx hb dX12_tracks_102 rfl (lv_at hl 5 rfl) ?_
              refine lv_aload_n hx hb dX12_tracks_103 rfl (lv_at hl 5 rfl) ?_
              refine va_get (D := (dC, dI)) (ci := 11) (v := .ref (ar 2)) (C := RX12) (T := TX12) (N := 47) hx hb hts ii_X12_tracks hown hK hP 0 rfl rfl 14 (by decide) (hts _ mm_X12_tracks_3) (fun _ hh => hh) rfl dX12_tracks_104 ?_
              refine lv_bipush (v := 42) hx hb dX12_tracks_107 (by decide) ?_
              refine lv_iload_n hx hb dX12_tracks_109 rfl (lv_at hl 2 rfl) ?_
              refine lv_iadd hx hb dX12_tracks_110 ?_
              refine zz_top (v := nI (42 + k16)) (nI_add 42 k16) ?_
              refine va_iald hx hb hK hP 2 1 rfl rfl (i := (nI (42 + k16))) (vp_in_nI (by omega) (by decide)) dX12_tracks_111 ?_
              obtain ⟨n29, hn29, en29⟩ := hG.1.at (r := 2) (k := (42 + k16)) (mr_2_42_48 (42 + k16) (by omega) (by omega)) (by decide)
              refine zz_top (v := nI n29) (by rw [nI_clamp (by omega)]; exact en29) ?_
              refine lv_aload_n hx hb dX12_tracks_112 rfl (lv_at hl 5 rfl) ?_
              refine va_get (D := (dC, dI)) (ci := 11) (v := .ref (ar 1)) (C := RX12) (T := TX12) (N := 47) hx hb hts ii_X12_tracks hown hK hP 0 rfl rfl 1 (by decide) (hts _ mm_X12_tracks_2) (fun _ hh => hh) rfl dX12_tracks_113 ?_
              refine lv_iload hx hb dX12_tracks_116 (lv_at hl 0 rfl) ?_
              refine va_iald hx hb hK hP 1 0 rfl rfl (i := (nI k22)) (vp_in_nI (by omega) (by decide)) dX12_tracks_118 ?_
              refine lv_topi (fun z30 ez30 => ?_)
              refine lv_aload_n hx hb dX12_tracks_119 rfl (lv_at hl 5 rfl) ?_
              refine va_get (D := (dC, dI)) (ci := 11) (v := .ref (ar 1)) (C := RX12) (T := TX12) (N := 47) hx hb hts ii_X12_tracks hown hK hP 0 rfl rfl 1 (by decide) (hts _ mm_X12_tracks_2) (fun _ hh => hh) rfl dX12_tracks_120 ?_
              refine lv_iload hx hb dX12_tracks_123 (lv_at hl 0 rfl) ?_
              refine lv_iconst (v := 1) hx hb dX12_tracks_125 (by decide) ?_
              refine lv_iadd hx hb dX12_tracks_126 ?_
              refine zz_top (v := nI (k22 + 1)) (nI_add k22 1) ?_
              refine va_iald hx hb hK hP 1 0 rfl rfl (i := (nI (k22 + 1))) (vp_in_nI (by omega) (by decide)) dX12_tracks_127 ?_
              refine lv_topi (fun z31 ez31 => ?_)
              refine va_calli (va_runV (As := [.int (nI n29), .int z30, .int z31]) (rest := []) ⟨hx, hb, hml, hown, hts⟩ (m_comesIn l dC dI ar cy _ hN st3 sl4 n29 z30 z31 (by omega) hG.1) (cwV 3 hts gX12_tracks_X12_comesIn rfl rfl rfl (by decide +kernel) ⟨Nat.le_of_ble_eq_true rfl, Nat.le_of_ble_eq_true rfl⟩) ⟨fun a U g mk q => ⟨q.1, mPre.blind q.2⟩, va_recv hK hP (ci := 11) (q0 := 0) rfl rfl, fun U hU hW => ⟨rfl, mPre.of hP hK hU hW⟩⟩ rfl rfl hl.1 rfl (lv_room (Nat.le_of_ble_eq_true rfl)) dX12_tracks_128 ⟨Nat.le_of_ble_eq_true rfl, Nat.le_of_ble_eq_true rfl⟩) hS (fun q _ h => MA.le hS.1 q h) (MA.le hS.1) (fun r32 x t H locs ht hvm hw hB _ _ hS => ?_)
              have hP := mB.at ht hB
              clear hB ht hvm
              obtain ⟨rfl, hw⟩ := hw
              have hP : va_P (dC, dI) vwCl (mw ar cy st3 sl4) _ := hP
              rcases hw with rfl | rfl
              · refine lv_if_eq (tgt := 138) hx hb dX12_tracks_131 (by decide) (fun cc => absurd cc (by decide)) (fun _ => ?_)
                refine lv_iconst (v := 1) hx hb dX12_tracks_134 (by decide) ?_
                refine lv_goto (tgt := 139) hx hb dX12_tracks_135 (by decide) ?_
                refine lv_istore (lv' := [(4, .int 1), (5, .int (nI k22)), (3, .int (nI k16)), (2, .int z17), (1, .int (nI n5)), (0, .ref (ar 0))]) hx hb dX12_tracks_139 hl (by decide) rfl (fun ls hl => ?_)
                refine lv_iinc (v := (nI (k22 + 2))) (lv' := [(5, .int (nI (k22 + 2))), (4, .int 1), (3, .int (nI k16)), (2, .int z17), (1, .int (nI n5)), (0, .ref (ar 0))]) hx hb dX12_tracks_141 hl (k := 1) rfl (nI_add k22 2) (by decide) rfl (fun ls hl => ?_)
                refine lv_goto (tgt := 91) hx hb dX12_tracks_144 (by decide) ?_
                exact ih26 (24 - (k22 + 2)) _ _ _ _ (by omega) ⟨(k22 + 2), 1, rfl, by omega, by omega, hP, hS, lv_sub hl [0, 1, 2, 3, 4, 5] rfl, rfl⟩
              · refine lv_if_eq (tgt := 138) hx hb dX12_tracks_131 (by decide) (fun _ => ?_) (fun cc => absurd (by decide) cc)
                refine lv_iconst (v := 0) hx hb dX12_tracks_138 (by decide) ?_
                refine lv_istore (lv' := [(4, .int 0), (5, .int (nI k22)), (3, .int (nI k16)), (2, .int z17), (1, .int (nI n5)), (0, .ref (ar 0))]) hx hb dX12_tracks_139 hl (by decide) rfl (fun ls hl => ?_)
                refine lv_iinc (v := (nI (k22 + 2))) (lv' := [(5, .int (nI (k22 + 2))), (4, .int 0), (3, .int (nI k16)), (2, .int z17), (1, .int (nI n5)), (0, .ref (ar 0))]) hx hb dX12_tracks_141 hl (k := 1) rfl (nI_add k22 2) (by decide) rfl (fun ls hl => ?_)
                refine lv_goto (tgt := 91) hx hb dX12_tracks_144 (by decide) ?_
                exact ih26 (24 - (k22 + 2)) _ _ _ _ (by omega) ⟨(k22 + 2), 0, rfl, by omega, by omega, hP, hS, lv_sub hl [0, 1, 2, 3, 4, 5] rfl, rfl⟩
      · have c3 : ¬ n5 ≤ k12 := fun hh => c3 ((nI_leI (a := n5) (b := k12) (by omega) (by omega)).mpr hh)
        refine lv_aload_n hx hb dX12_tracks_37 rfl (lv_at hl 2 rfl) ?_
        refine lv_aload_n hx hb dX12_tracks_38 rfl (lv_at hl 2 rfl) ?_
        refine va_get (D := (dC, dI)) (ci := 11) (v := .ref (ar 1)) (C := RX12) (T := TX12) (N := 47) hx hb hts ii_X12_tracks hown hK hP 0 rfl rfl 1 (by decide) (hts _ mm_X12_tracks_2) (fun _ hh => hh) rfl dX12_tracks_39 ?_
        refine lv_iload_n hx hb dX12_tracks_42 rfl (lv_at hl 0 rfl) ?_
        refine va_iald hx hb hK hP 1 0 rfl rfl (i := (nI k12)) (vp_in_nI (by omega) (by decide)) dX12_tracks_43 ?_
        refine lv_topi (fun z33 ez33 => ?_)
        refine va_calli (va_runV (As := [.int z33]) (rest := []) ⟨hx, hb, hml, hown, hts⟩ (m_isPlace l dC dI ar cy _ hN st3 sl4 z33  hG.1) (cwV 1 hts gX12_tracks_X12_isPlace rfl rfl rfl (by decide +kernel) ⟨Nat.le_of_ble_eq_true rfl, Nat.le_of_ble_eq_true rfl⟩) ⟨fun a U g mk q => ⟨q.1, mPre.blind q.2⟩, va_recv hK hP (ci := 11) (q0 := 0) rfl rfl, fun U hU hW => ⟨rfl, mPre.of hP hK hU hW⟩⟩ rfl rfl hl.1 rfl (lv_room (Nat.le_of_ble_eq_true rfl)) dX12_tracks_44 ⟨Nat.le_of_ble_eq_true rfl, Nat.le_of_ble_eq_true rfl⟩) hS (fun q _ h => MA.le hS.1 q h) (MA.le hS.1) (fun r34 x t H locs ht hvm hw hB _ _ hS => ?_)
        have hP := mB.at ht hB
        clear hB ht hvm
        obtain ⟨rfl, hw⟩ := hw
        have hP : va_P (dC, dI) vwCl (mw ar cy st3 sl4) _ := hP
        rcases hw with ⟨n35, rfl, hf36, rfl⟩ | rfl
        · refine lv_if_eq (tgt := 63) hx hb dX12_tracks_47 (by decide) (fun cc => absurd cc (by decide)) (fun _ => ?_)
          refine lv_aload_n hx hb dX12_tracks_50 rfl (lv_at hl 2 rfl) ?_
          refine va_get (D := (dC, dI)) (ci := 11) (v := .ref (ar 1)) (C := RX12) (T := TX12) (N := 47) hx hb hts ii_X12_tracks hown hK hP 0 rfl rfl 1 (by decide) (hts _ mm_X12_tracks_2) (fun _ hh => hh) rfl dX12_tracks_51 ?_
          refine lv_iload_n hx hb dX12_tracks_54 rfl (lv_at hl 0 rfl) ?_
          refine lv_iconst (v := 1) hx hb dX12_tracks_55 (by decide) ?_
          refine lv_iadd hx hb dX12_tracks_56 ?_
          refine zz_top (v := nI (k12 + 1)) (nI_add k12 1) ?_
          refine va_iald hx hb hK hP 1 0 rfl rfl (i := (nI (k12 + 1))) (vp_in_nI (by omega) (by decide)) dX12_tracks_57 ?_
          refine lv_topi (fun z37 ez37 => ?_)
          refine lv_bipush (v := 23) hx hb dX12_tracks_58 (by decide) ?_
          refine lv_icmp_le (tgt := 65) hx hb dX12_tracks_60 (by decide) (fun c11 => ?_) (fun c11 => ?_)
          · refine lv_iinc (v := (nI (k12 + 2))) (lv' := [(2, .int (nI (k12 + 2))), (1, .int (nI n5)), (0, .ref (ar 0))]) hx hb dX12_tracks_65 hl (k := 0) rfl (nI_add k12 2) (by decide) rfl (fun ls hl => ?_)
            refine lv_goto (tgt := 32) hx hb dX12_tracks_68 (by decide) ?_
            exact ih15 (24 - (k12 + 2)) _ _ _ _ (by omega) ⟨(k12 + 2), rfl, by omega, by omega, hP, hS, lv_sub hl [0, 1, 2] rfl, rfl⟩
          · refine lv_iconst (v := (-1)) hx hb dX12_tracks_63 (by decide) ?_
            exact W.iret (v := (-1)) hx hb hr (fun t ht hW => ⟨⟨(-1), (st3, sl4), rfl, ⟨hG, hL, by show st3 0 2 = 0; rw [hf7]⟩, mB.of ht hP⟩, hS.F ht⟩) hS.2.2 dX12_tracks_64
        · refine lv_if_eq (tgt := 63) hx hb dX12_tracks_47 (by decide) (fun _ => ?_) (fun cc => absurd (by decide) cc)
          refine lv_iconst (v := (-1)) hx hb dX12_tracks_63 (by decide) ?_
          exact W.iret (v := (-1)) hx hb hr (fun t ht hW => ⟨⟨(-1), (st3, sl4), rfl, ⟨hG, hL, by show st3 0 2 = 0; rw [hf7]⟩, mB.of ht hP⟩, hS.F ht⟩) hS.2.2 dX12_tracks_64
    · refine lv_if_ne (tgt := 30) hx hb dX12_tracks_25 (by decide) (fun cc => absurd (by decide) cc) (fun _ => ?_)
      refine lv_iconst (v := (-1)) hx hb dX12_tracks_28 (by decide) ?_
      exact W.iret (v := (-1)) hx hb hr (fun t ht hW => ⟨⟨(-1), (st3, sl4), rfl, ⟨hG, hL, by show st3 0 2 = 0; rw [hf7]⟩, mB.of ht hP⟩, hS.F ht⟩) hS.2.2 dX12_tracks_29
set_option maxHeartbeats 4000000 in
set_option maxRecDepth 100000 in
theorem m_byteAt (l : Launch) (dC : Nat → ClassId) (dI : Nat → Nat → Nat) (ar : Nat → Nat) (cy : Nat → ClassId) (sz : Nat) (hN : MN ar) (st : Nat → Nat → Int32) (sl : Nat → Nat → Int64) (va : Int32) (hI : MI st) : Met l yX12_byteAt wsX12_byteAt ({ frames := 1, cells := 0, slots := 0, locals := 22 }) (va_Pc [.ref (ar 0), .int va] (mPre dC dI ar cy sz st sl)) (va_Qi (fun (r : Int32) (x : MT) => MG [1, 2, 3, 4, 5, 6, 7, 8, 9, 10, 11, 12, 13, 14, 15, 16, 17, 19, 20, 21, 22, 23] st x.1 ∧ LQ [7, 9] sl x.2 ∧ (True)) (mB dC dI ar cy) (MA ar sz)) 0 0 (MA ar sz) := by
  refine Met.ofW (cc := cX12_byteAt) (maxL := 2) (ret := (some .int)) (by decide) rfl ?_
  intro p e s m args below meth c s₁ B hml hv
  obtain ⟨rfl, hsz, hP, hK⟩ := hv
  have hx := B.exec
  have hb := B.bytes
  have hr := B.returns
  have hts := atoms_spec (ws := wsX12_byteAt) B.pre
  have hown : s.vm.findClass RX12 = some m.cls := findClass_of_methodNamed B.named
  subst hsz
  have hS : va_S (MA ar s.heap.size) s.heap s.heap [] := va_S.rf
  have hG : MG [1, 2, 3, 4, 5, 6, 7, 8, 9, 10, 11, 12, 13, 14, 15, 16, 17, 19, 20, 21, 22, 23] st st := MG.rf hI
  have hl := lv_entry ([.ref (ar 0), .int va]) (n := 2) (Nat.le_of_ble_eq_true rfl)
  rw [lg_entry_eq]
  generalize (lg_sl ([.ref (ar 0), .int va]) ++ List.replicate (2 - (lg_sl ([.ref (ar 0), .int va])).length) Slot.unset).toArray = ls at hl ⊢
  have hl : lv_has ls 2 [(0, .ref (ar 0)), (1, .int va)] := hl
  clear hI
  have hL : LQ [7, 9] sl sl := LQ.rf
  refine lv_aload_n hx hb dX12_byteAt_0 rfl (lv_at hl 0 rfl) ?_
  refine lv_iconst (v := 0) hx hb dX12_byteAt_1 (by decide) ?_
  refine va_put (D := (dC, dI)) (ci := 11) (v := .int 0) (ty := .int) (C := RX12) (T := TX12) (N := 47) hx hb hts ii_X12_byteAt tyX12 tyX12_ok nmX12 hown hK hP (mD hN _ _ _ _) hS 0 rfl rfl 0 (by decide) (hts _ mm_X12_byteAt_1) (fun _ hh => hh) rfl (by decide +kernel) rfl rfl (Nat.le_of_ble_eq_true rfl) dX12_byteAt_2 (fun H locs hP _ hS => ?_)
  have hP : va_P (dC, dI) vwCl (mw ar cy (up2 st 0 0 0) sl) H := hP
  obtain ⟨st1, hP, hG⟩ : ∃ y, va_P (dC, dI) vwCl (mw ar cy y sl) H ∧ MG [1, 2, 3, 4, 5, 6, 7, 8, 9, 10, 11, 12, 13, 14, 15, 16, 17, 19, 20, 21, 22, 23] st y := ⟨up2 st 0 0 0, hP, hG.up (rz (by decide : mr 0 0 = 0)) (pn (by decide : pcl 0 0 = 0) (by decide))⟩
  refine lv_iload_n hx hb dX12_byteAt_5 rfl (lv_at hl 1 rfl) ?_
  refine lv_iconst (v := 0) hx hb dX12_byteAt_6 (by decide) ?_
  refine lv_aload_n hx hb dX12_byteAt_7 rfl (lv_at hl 0 rfl) ?_
  refine va_get (D := (dC, dI)) (ci := 11) (v := .int (st1 0 37)) (C := RX12) (T := TX12) (N := 47) hx hb hts ii_X12_byteAt hown hK hP 0 rfl rfl 37 (by decide) (hts _ mm_X12_byteAt_2) (fun _ hh => hh) rfl dX12_byteAt_8 ?_
  obtain ⟨n2, hn2, en2⟩ := hG.1.at (r := 0) (k := 37) (by decide : mr 0 37 = 65) (by decide)
  refine zz_top (v := nI n2) (by exact en2) ?_
  clear en2
  refine lv_iconst (v := 1) hx hb dX12_byteAt_11 (by decide) ?_
  refine lv_isub hx hb dX12_byteAt_12 ?_
  refine lv_topi (fun z3 ez3 => ?_)
  refine va_calli (va_runS (As := [.int va, .int 0, .int z3]) (rest := []) ⟨hx, hb, hml, hown, hts⟩ (m_isIn l dC dI ar cy _ hN st1 sl va 0 z3  hG.1) (va_cwS 3 hts gX12_byteAt_X12_isIn rfl rfl rfl (by decide +kernel) ⟨Nat.le_of_ble_eq_true rfl, Nat.le_of_ble_eq_true rfl⟩) ⟨fun a U g mk q => ⟨q.1, mPre.blind q.2⟩, fun U hU hW => ⟨rfl, mPre.of hP hK hU hW⟩⟩ rfl rfl hl.1 rfl (lv_room (Nat.le_of_ble_eq_true rfl)) dX12_byteAt_13 ⟨Nat.le_of_ble_eq_true rfl, Nat.le_of_ble_eq_true rfl⟩) hS (fun q _ h => MA.le hS.1 q h) (MA.le hS.1) (fun r4 x t H locs ht hvm hw hB _ _ hS => ?_)
  have hP := mB.at ht hB
  clear hB ht hvm
  obtain ⟨rfl, hw⟩ := hw
  have hP : va_P (dC, dI) vwCl (mw ar cy st1 sl) _ := hP
  rcases hw with ⟨rfl, hf5, hf6⟩ | rfl
  · obtain ⟨n7, hn7, rfl⟩ := zz_inidx (a := n2) (by omega) hf5 (by rw [← ez3]; exact hf6)
    refine lv_if_eq (tgt := 28) hx hb dX12_byteAt_16 (by decide) (fun cc => absurd cc (by decide)) (fun _ => ?_)
    refine lv_aload_n hx hb dX12_byteAt_19 rfl (lv_at hl 0 rfl) ?_
    refine va_get (D := (dC, dI)) (ci := 11) (v := .ref (ar 13)) (C := RX12) (T := TX12) (N := 47) hx hb hts ii_X12_byteAt hown hK hP 0 rfl rfl 36 (by decide) (hts _ mm_X12_byteAt_3) (fun _ hh => hh) rfl dX12_byteAt_20 ?_
    refine lv_iload_n hx hb dX12_byteAt_23 rfl (lv_at hl 1 rfl) ?_
    refine va_iald hx hb hK hP 13 12 rfl rfl (i := (nI n7)) (vp_in_nI (by omega) (by decide)) dX12_byteAt_24 ?_
    refine lv_topi (fun z8 ez8 => ?_)
    clear ez8
    refine lv_goto (tgt := 29) hx hb dX12_byteAt_25 (by decide) ?_
    exact W.iret (v := z8) hx hb hr (fun t ht hW => ⟨⟨z8, (st1, sl), rfl, ⟨hG, hL, trivial⟩, mB.of ht hP⟩, hS.F ht⟩) hS.2.2 dX12_byteAt_29
  · refine lv_if_eq (tgt := 28) hx hb dX12_byteAt_16 (by decide) (fun _ => ?_) (fun cc => absurd (by decide) cc)
    refine lv_iconst (v := (-1)) hx hb dX12_byteAt_28 (by decide) ?_
    exact W.iret (v := (-1)) hx hb hr (fun t ht hW => ⟨⟨(-1), (st1, sl), rfl, ⟨hG, hL, trivial⟩, mB.of ht hP⟩, hS.F ht⟩) hS.2.2 dX12_byteAt_29
set_option maxHeartbeats 4000000 in
set_option maxRecDepth 100000 in
theorem m_write (l : Launch) (dC : Nat → ClassId) (dI : Nat → Nat → Nat) (ar : Nat → Nat) (cy : Nat → ClassId) (sz : Nat) (hN : MN ar) (st : Nat → Nat → Int32) (sl : Nat → Nat → Int64) (va : Int32) (gt : Nat) (hI : MI st) (h37 : st 0 37 = nI gt) (h37b : gt < 64) : Met l yX12_write wsX12_write ({ frames := 0, cells := 0, slots := 0, locals := 0 }) (va_Pc [.ref (ar 0), .int va] (mPre dC dI ar cy sz st sl)) (va_Qv (fun (x : MT) => MG [1, 2, 3, 4, 5, 6, 7, 8, 9, 10, 11, 12, 13, 14, 16, 17, 19, 20, 21, 22, 23] st x.1 ∧ LQ [7, 9] sl x.2 ∧ (x.1 0 37 = nI (gt + 1))) (mB dC dI ar cy) (MA ar sz)) 0 0 (MA ar sz) := by
  refine Met.ofW (cc := cX12_write) (maxL := 2) (ret := none) (by decide) rfl ?_
  intro p e s m args below meth c s₁ B hml hv
  obtain ⟨rfl, hsz, hP, hK⟩ := hv
  have hx := B.exec
  have hb := B.bytes
  have hr := B.returns
  have hts := atoms_spec (ws := wsX12_write) B.pre
  have hown : s.vm.findClass RX12 = some m.cls := findClass_of_methodNamed B.named
  subst hsz
  have hS : va_S (MA ar s.heap.size) s.heap s.heap [] := va_S.rf
  have hG : MG [1, 2, 3, 4, 5, 6, 7, 8, 9, 10, 11, 12, 13, 14, 16, 17, 19, 20, 21, 22, 23] st st := MG.rf hI
  have hl := lv_entry ([.ref (ar 0), .int va]) (n := 2) (Nat.le_of_ble_eq_true rfl)
  rw [lg_entry_eq]
  generalize (lg_sl ([.ref (ar 0), .int va]) ++ List.replicate (2 - (lg_sl ([.ref (ar 0), .int va])).length) Slot.unset).toArray = ls at hl ⊢
  have hl : lv_has ls 2 [(0, .ref (ar 0)), (1, .int va)] := hl
  clear hI
  have hL : LQ [7, 9] sl sl := LQ.rf
  refine lv_aload_n hx hb dX12_write_0 rfl (lv_at hl 0 rfl) ?_
  refine va_get (D := (dC, dI)) (ci := 11) (v := .ref (ar 13)) (C := RX12) (T := TX12) (N := 47) hx hb hts ii_X12_write hown hK hP 0 rfl rfl 36 (by decide) (hts _ mm_X12_write_1) (fun _ hh => hh) rfl dX12_write_1 ?_
  refine lv_aload_n hx hb dX12_write_4 rfl (lv_at hl 0 rfl) ?_
  refine va_get (D := (dC, dI)) (ci := 11) (v := .int (st 0 37)) (C := RX12) (T := TX12) (N := 47) hx hb hts ii_X12_write hown hK hP 0 rfl rfl 37 (by decide) (hts _ mm_X12_write_2) (fun _ hh => hh) rfl dX12_write_5 ?_
  refine zz_top (v := (nI gt)) (by show st 0 37 = _; rw [h37]) ?_
  refine lv_iload_n hx hb dX12_write_8 rfl (lv_at hl 1 rfl) ?_
  refine va_iast hx hb hK hP (mD hN _ _ _ _) hS 13 12 rfl rfl (i := (nI gt)) (vp_in_nI (by omega) (by decide)) dX12_write_9 (fun H locs hP _ hS => ?_)
  rw [nI_clamp (by omega)] at hP
  have hP : va_P (dC, dI) vwCl (mw ar cy (up2 st 13 gt va) sl) H := hP
  obtain ⟨st1, est1⟩ : ∃ y, y = up2 st 13 gt va := ⟨_, rfl⟩
  have hG : MG [1, 2, 3, 4, 5, 6, 7, 8, 9, 10, 11, 12, 13, 14, 16, 17, 19, 20, 21, 22, 23] st st1 := by rw [est1]; exact hG.up (rz (mr_13_0_64 gt (by omega) (by omega))) (pn (pcl_13_0_64 gt (by omega) (by omega)) (by decide))
  rw [← est1] at hP
  refine lv_aload_n hx hb dX12_write_10 rfl (lv_at hl 0 rfl) ?_
  refine lv_dup hx hb dX12_write_11 rfl ?_
  refine va_get (D := (dC, dI)) (ci := 11) (v := .int (st1 0 37)) (C := RX12) (T := TX12) (N := 47) hx hb hts ii_X12_write hown hK hP 0 rfl rfl 37 (by decide) (hts _ mm_X12_write_2) (fun _ hh => hh) rfl dX12_write_12 ?_
  refine zz_top (v := (nI gt)) (by show st1 0 37 = _; rw [est1, up2_ne (r := 13) (k := gt) (a := 0) (j := 37) _ _ (by omega), h37]) ?_
  refine lv_iconst (v := 1) hx hb dX12_write_15 (by decide) ?_
  refine lv_iadd hx hb dX12_write_16 ?_
  refine zz_top (v := nI (gt + 1)) (nI_add gt 1) ?_
  refine va_put (D := (dC, dI)) (ci := 11) (v := .int (nI (gt + 1))) (ty := .int) (C := RX12) (T := TX12) (N := 47) hx hb hts ii_X12_write tyX12 tyX12_ok nmX12 hown hK hP (mD hN _ _ _ _) hS 0 rfl rfl 37 (by decide) (hts _ mm_X12_write_2) (fun _ hh => hh) rfl (by decide +kernel) rfl rfl (Nat.le_of_ble_eq_true rfl) dX12_write_17 (fun H locs hP _ hS => ?_)
  have hP : va_P (dC, dI) vwCl (mw ar cy (up2 st1 0 37 (nI (gt + 1))) sl) H := hP
  obtain ⟨st2, est2⟩ : ∃ y, y = up2 st1 0 37 (nI (gt + 1)) := ⟨_, rfl⟩
  have hG : MG [1, 2, 3, 4, 5, 6, 7, 8, 9, 10, 11, 12, 13, 14, 16, 17, 19, 20, 21, 22, 23] st st2 := by rw [est2]; exact hG.up (rn (n := (gt + 1)) (by decide : mr 0 37 = 65) (by omega)) (pn (by decide : pcl 0 37 = 15) (by decide))
  rw [← est2] at hP
  exact W.vret hx hb hr (fun t ht hW => ⟨⟨(st2, sl), rfl, ⟨hG, hL, by show st2 0 37 = _; rw [est2, up2_same]⟩, mB.of ht hP⟩, hS.F ht⟩) hS.2.2 dX12_write_20
set_option maxHeartbeats 4000000 in
set_option maxRecDepth 100000 in
theorem m_writeWord0 (l : Launch) (dC : Nat → ClassId) (dI : Nat → Nat → Nat) (ar : Nat → Nat) (cy : Nat → ClassId) (sz : Nat) (hN : MN ar) (st : Nat → Nat → Int32) (sl : Nat → Nat → Int64) (vw : Int64) (gt : Nat) (hI : MI st) (h37 : st 0 37 = nI gt) (h37b : gt + 1 ≤ 64) (hw9 : vw.toInt < 27) : Met l yX12_writeWord wsX12_writeWord ({ frames := 1, cells := 0, slots := 0, locals := 21 }) (va_Pc [.ref (ar 0), .long vw] (mPre dC dI ar cy sz st sl)) (va_Qv (fun (x : MT) => MG [1, 2, 3, 4, 5, 6, 7, 8, 9, 10, 11, 12, 13, 14, 16, 17, 19, 20, 21, 22, 23] st x.1 ∧ LQ [7, 9] sl x.2 ∧ (∃ n : Nat, x.1 0 37 = nI n ∧ n ≤ gt + 1)) (mB dC dI ar cy) (MA ar sz)) 0 0 (MA ar sz) := by
  refine Met.ofW (cc := cX12_writeWord) (maxL := 3) (ret := none) (by decide) rfl ?_
  intro p e s m args below meth c s₁ B hml hv
  obtain ⟨rfl, hsz, hP, hK⟩ := hv
  have hx := B.exec
  have hb := B.bytes
  have hr := B.returns
  have hts := atoms_spec (ws := wsX12_writeWord) B.pre
  have hown : s.vm.findClass RX12 = some m.cls := findClass_of_methodNamed B.named
  subst hsz
  have hS : va_S (MA ar s.heap.size) s.heap s.heap [] := va_S.rf
  have hG : MG [1, 2, 3, 4, 5, 6, 7, 8, 9, 10, 11, 12, 13, 14, 16, 17, 19, 20, 21, 22, 23] st st := MG.rf hI
  have hl := lv_entry ([.ref (ar 0), .long vw]) (n := 3) (Nat.le_of_ble_eq_true rfl)
  rw [lg_entry_eq]
  generalize (lg_sl ([.ref (ar 0), .long vw]) ++ List.replicate (3 - (lg_sl ([.ref (ar 0), .long vw])).length) Slot.unset).toArray = ls at hl ⊢
  have hl : lv_has ls 3 [(0, .ref (ar 0)), (1, .long vw)] := hl
  clear hI
  have hL : LQ [7, 9] sl sl := LQ.rf
  refine lv_lload_n hx hb dX12_writeWord_0 rfl (lv_at hl 1 rfl) ?_
  refine lv_ldc2 (v := 27) hx hb hown (hts _ mm_X12_writeWord_1) dX12_writeWord_1 ?_
  refine W.lcmp hx hb dX12_writeWord_4 ?_
  refine lv_topi (fun z1 ez1 => ?_)
  refine lv_if_lt (tgt := 17) hx hb dX12_writeWord_5 (by decide) (fun c1 => ?_) (fun c1 => ?_)
  · refine lv_aload_n hx hb dX12_writeWord_17 rfl (lv_at hl 0 rfl) ?_
    refine lv_bipush (v := 96) hx hb dX12_writeWord_18 (by decide) ?_
    refine lv_lload_n hx hb dX12_writeWord_20 rfl (lv_at hl 1 rfl) ?_
    refine lv_ldc2 (v := 27) hx hb hown (hts _ mm_X12_writeWord_1) dX12_writeWord_21 ?_
    refine lv_lrem hx hb dX12_writeWord_24 (by decide) ?_
    refine lv_topl (fun z2 ez2 => ?_)
    clear ez2
    refine lv_l2i hx hb dX12_writeWord_25 rfl ?_
    refine lv_topi (fun z3 ez3 => ?_)
    clear ez3
    refine lv_iadd hx hb dX12_writeWord_26 ?_
    refine lv_topi (fun z4 ez4 => ?_)
    refine va_callv (va_runV (As := [.int z4]) (rest := []) ⟨hx, hb, hml, hown, hts⟩ (m_write l dC dI ar cy _ hN st sl z4 gt  hG.1 (by rw [h37]) (by omega)) (cwV 1 hts gX12_writeWord_X12_write rfl rfl rfl (by decide +kernel) ⟨Nat.le_of_ble_eq_true rfl, Nat.le_of_ble_eq_true rfl⟩) ⟨fun a U g mk q => ⟨q.1, mPre.blind q.2⟩, va_recv hK hP (ci := 11) (q0 := 0) rfl rfl, fun U hU hW => ⟨rfl, mPre.of hP hK hU hW⟩⟩ rfl rfl hl.1 rfl (lv_room (Nat.le_of_ble_eq_true rfl)) dX12_writeWord_27 ⟨Nat.le_of_ble_eq_true rfl, Nat.le_of_ble_eq_true rfl⟩) hS (fun q _ h => MA.le hS.1 q h) (MA.le hS.1) (fun x t H locs ht hvm hw hB _ _ hS => ?_)
    have hP := mB.at ht hB
    clear hB ht hvm
    obtain ⟨st6, sl7⟩ := x
    obtain ⟨hG2, hL2, hw⟩ := hw
    have hL : LQ [7, 9] sl sl7 := hL.tr hL2 (by decide)
    clear hL2
    dsimp only at hw
    have hP : va_P (dC, dI) vwCl (mw ar cy st6 sl7) _ := hP
    have hG : MG [1, 2, 3, 4, 5, 6, 7, 8, 9, 10, 11, 12, 13, 14, 16, 17, 19, 20, 21, 22, 23] st st6 := hG.tr hG2 (by decide)
    have hGst6 : MG [1, 2, 3, 4, 5, 6, 7, 8, 9, 10, 11, 12, 13, 14, 16, 17, 19, 20, 21, 22, 23] st st6 := hG2
    clear hG2
    have hf8 := hw
    exact W.vret hx hb hr (fun t ht hW => ⟨⟨(st6, sl7), rfl, ⟨hG, hL, ⟨(gt + 1), by show st6 0 37 = (nI (gt + 1)); rw [hf8], by omega⟩⟩, mB.of ht hP⟩, hS.F ht⟩) hS.2.2 dX12_writeWord_30
  · exact (zz_lt27 ez1 hw9 c1).elim
set_option maxHeartbeats 4000000 in
set_option maxRecDepth 100000 in
theorem m_writeWord1 (l : Launch) (dC : Nat → ClassId) (dI : Nat → Nat → Nat) (ar : Nat → Nat) (cy : Nat → ClassId) (sz : Nat) (hN : MN ar) (st : Nat → Nat → Int32) (sl : Nat → Nat → Int64) (vw : Int64) (gt : Nat) (hI : MI st) (h37 : st 0 37 = nI gt) (h37b : gt + 2 ≤ 64) (hw9 : vw.toInt < 729) : Met l yX12_writeWord wsX12_writeWord ({ frames := 2, cells := 0, slots := 0, locals := 43 }) (va_Pc [.ref (ar 0), .long vw] (mPre dC dI ar cy sz st sl)) (va_Qv (fun (x : MT) => MG [1, 2, 3, 4, 5, 6, 7, 8, 9, 10, 11, 12, 13, 14, 16, 17, 19, 20, 21, 22, 23] st x.1 ∧ LQ [7, 9] sl x.2 ∧ (∃ n : Nat, x.1 0 37 = nI n ∧ n ≤ gt + 2)) (mB dC dI ar cy) (MA ar sz)) 0 0 (MA ar sz) := by
  refine Met.ofW (cc := cX12_writeWord) (maxL := 3) (ret := none) (by decide) rfl ?_
  intro p e s m args below meth c s₁ B hml hv
  obtain ⟨rfl, hsz, hP, hK⟩ := hv
  have hx := B.exec
  have hb := B.bytes
  have hr := B.returns
  have hts := atoms_spec (ws := wsX12_writeWord) B.pre
  have hown : s.vm.findClass RX12 = some m.cls := findClass_of_methodNamed B.named
  subst hsz
  have hS : va_S (MA ar s.heap.size) s.heap s.heap [] := va_S.rf
  have hG : MG [1, 2, 3, 4, 5, 6, 7, 8, 9, 10, 11, 12, 13, 14, 16, 17, 19, 20, 21, 22, 23] st st := MG.rf hI
  have hl := lv_entry ([.ref (ar 0), .long vw]) (n := 3) (Nat.le_of_ble_eq_true rfl)
  rw [lg_entry_eq]
  generalize (lg_sl ([.ref (ar 0), .long vw]) ++ List.replicate (3 - (lg_sl ([.ref (ar 0), .long vw])).length) Slot.unset).toArray = ls at hl ⊢
  have hl : lv_has ls 3 [(0, .ref (ar 0)), (1, .long vw)] := hl
  clear hI
  have hL : LQ [7, 9] sl sl := LQ.rf
  refine lv_lload_n hx hb dX12_writeWord_0 rfl (lv_at hl 1 rfl) ?_
  refine lv_ldc2 (v := 27) hx hb hown (hts _ mm_X12_writeWord_1) dX12_writeWord_1 ?_
  refine W.lcmp hx hb dX12_writeWord_4 ?_
  refine lv_topi (fun z1 ez1 => ?_)
  refine lv_if_lt (tgt := 17) hx hb dX12_writeWord_5 (by decide) (fun c1 => ?_) (fun c1 => ?_)
  · refine lv_aload_n hx hb dX12_writeWord_17 rfl (lv_at hl 0 rfl) ?_
    refine lv_bipush (v := 96) hx hb dX12_writeWord_18 (by decide) ?_
    refine lv_lload_n hx hb dX12_writeWord_20 rfl (lv_at hl 1 rfl) ?_
    refine lv_ldc2 (v := 27) hx hb hown (hts _ mm_X12_writeWord_1) dX12_writeWord_21 ?_
    refine lv_lrem hx hb dX12_writeWord_24 (by decide) ?_
    refine lv_topl (fun z2 ez2 => ?_)
    clear ez2
    refine lv_l2i hx hb dX12_writeWord_25 rfl ?_
    refine lv_topi (fun z3 ez3 => ?_)
    clear ez3
    refine lv_iadd hx hb dX12_writeWord_26 ?_
    refine lv_topi (fun z4 ez4 => ?_)
    refine va_callv (va_runV (As := [.int z4]) (rest := []) ⟨hx, hb, hml, hown, hts⟩ (m_write l dC dI ar cy _ hN st sl z4 gt  hG.1 (by rw [h37]) (by omega)) (cwV 1 hts gX12_writeWord_X12_write rfl rfl rfl (by decide +kernel) ⟨Nat.le_of_ble_eq_true rfl, Nat.le_of_ble_eq_true rfl⟩) ⟨fun a U g mk q => ⟨q.1, mPre.blind q.2⟩, va_recv hK hP (ci := 11) (q0 := 0) rfl rfl, fun U hU hW => ⟨rfl, mPre.of hP hK hU hW⟩⟩ rfl rfl hl.1 rfl (lv_room (Nat.le_of_ble_eq_true rfl)) dX12_writeWord_27 ⟨Nat.le_of_ble_eq_true rfl, Nat.le_of_ble_eq_true rfl⟩) hS (fun q _ h => MA.le hS.1 q h) (MA.le hS.1) (fun x t H locs ht hvm hw hB _ _ hS => ?_)
    have hP := mB.at ht hB
    clear hB ht hvm
    obtain ⟨st6, sl7⟩ := x
    obtain ⟨hG2, hL2, hw⟩ := hw
    have hL : LQ [7, 9] sl sl7 := hL.tr hL2 (by decide)
    clear hL2
    dsimp only at hw
    have hP : va_P (dC, dI) vwCl (mw ar cy st6 sl7) _ := hP
    have hG : MG [1, 2, 3, 4, 5, 6, 7, 8, 9, 10, 11, 12, 13, 14, 16, 17, 19, 20, 21, 22, 23] st st6 := hG.tr hG2 (by decide)
    have hGst6 : MG [1, 2, 3, 4, 5, 6, 7, 8, 9, 10, 11, 12, 13, 14, 16, 17, 19, 20, 21, 22, 23] st st6 := hG2
    clear hG2
    have hf8 := hw
    exact W.vret hx hb hr (fun t ht hW => ⟨⟨(st6, sl7), rfl, ⟨hG, hL, ⟨(gt + 1), by show st6 0 37 = (nI (gt + 1)); rw [hf8], by omega⟩⟩, mB.of ht hP⟩, hS.F ht⟩) hS.2.2 dX12_writeWord_30
  · refine lv_aload_n hx hb dX12_writeWord_8 rfl (lv_at hl 0 rfl) ?_
    refine lv_lload_n hx hb dX12_writeWord_9 rfl (lv_at hl 1 rfl) ?_
    refine lv_ldc2 (v := 27) hx hb hown (hts _ mm_X12_writeWord_1) dX12_writeWord_10 ?_
    refine lv_ldiv hx hb dX12_writeWord_13 (by decide) ?_
    refine lv_topl (fun z9 ez9 => ?_)
    refine va_callv (va_runV (As := [.long z9]) (rest := []) ⟨hx, hb, hml, hown, hts⟩ (m_writeWord0 l dC dI ar cy _ hN st sl z9 gt  hG.1 (by rw [h37]) (by omega) (by rw [ez9]; exact Int64.lt_iff_toInt_lt.mp (zz_div27 (A := 27) (by have h5 := Int64.toInt_lt vw; show vw.toInt < 27 * 27; omega) (by decide)))) (cwV 1 hts gX12_writeWord_X12_writeWord rfl rfl rfl (by decide +kernel) ⟨Nat.le_of_ble_eq_true rfl, Nat.le_of_ble_eq_true rfl⟩) ⟨fun a U g mk q => ⟨q.1, mPre.blind q.2⟩, va_recv hK hP (ci := 11) (q0 := 0) rfl rfl, fun U hU hW => ⟨rfl, mPre.of hP hK hU hW⟩⟩ rfl rfl hl.1 rfl (lv_room (Nat.le_of_ble_eq_true rfl)) dX12_writeWord_14 ⟨Nat.le_of_ble_eq_true rfl, Nat.le_of_ble_eq_true rfl⟩) hS (fun q _ h => MA.le hS.1 q h) (MA.le hS.1) (fun x t H locs ht hvm hw hB _ _ hS => ?_)
    have hP := mB.at ht hB
    clear hB ht hvm
    obtain ⟨st11, sl12⟩ := x
    obtain ⟨hG2, hL2, hw⟩ := hw
    have hL : LQ [7, 9] sl sl12 := hL.tr hL2 (by decide)
    clear hL2
    dsimp only at hw
    have hP : va_P (dC, dI) vwCl (mw ar cy st11 sl12) _ := hP
    have hG : MG [1, 2, 3, 4, 5, 6, 7, 8, 9, 10, 11, 12, 13, 14, 16, 17, 19, 20, 21, 22, 23] st st11 := hG.tr hG2 (by decide)
    have hGst11 : MG [1, 2, 3, 4, 5, 6, 7, 8, 9, 10, 11, 12, 13, 14, 16, 17, 19, 20, 21, 22, 23] st st11 := hG2
    clear hG2
    obtain ⟨n13, hf14, hf15⟩ := hw
    refine lv_aload_n hx hb dX12_writeWord_17 rfl (lv_at hl 0 rfl) ?_
    refine lv_bipush (v := 96) hx hb dX12_writeWord_18 (by decide) ?_
    refine lv_lload_n hx hb dX12_writeWord_20 rfl (lv_at hl 1 rfl) ?_
    refine lv_ldc2 (v := 27) hx hb hown (hts _ mm_X12_writeWord_1) dX12_writeWord_21 ?_
    refine lv_lrem hx hb dX12_writeWord_24 (by decide) ?_
    refine lv_topl (fun z16 ez16 => ?_)
    clear ez16
    refine lv_l2i hx hb dX12_writeWord_25 rfl ?_
    refine lv_topi (fun z17 ez17 => ?_)
    clear ez17
    refine lv_iadd hx hb dX12_writeWord_26 ?_
    refine lv_topi (fun z18 ez18 => ?_)
    refine va_callv (va_runV (As := [.int z18]) (rest := []) ⟨hx, hb, hml, hown, hts⟩ (m_write l dC dI ar cy _ hN st11 sl12 z18 n13  hG.1 (by rw [hf14]) (by omega)) (cwV 1 hts gX12_writeWord_X12_write rfl rfl rfl (by decide +kernel) ⟨Nat.le_of_ble_eq_true rfl, Nat.le_of_ble_eq_true rfl⟩) ⟨fun a U g mk q => ⟨q.1, mPre.blind q.2⟩, va_recv hK hP (ci := 11) (q0 := 0) rfl rfl, fun U hU hW => ⟨rfl, mPre.of hP hK hU hW⟩⟩ rfl rfl hl.1 rfl (lv_room (Nat.le_of_ble_eq_true rfl)) dX12_writeWord_27 ⟨Nat.le_of_ble_eq_true rfl, Nat.le_of_ble_eq_true rfl⟩) hS (fun q _ h => MA.le hS.1 q h) (MA.le hS.1) (fun x t H locs ht hvm hw hB _ _ hS => ?_)
    have hP := mB.at ht hB
    clear hB ht hvm
    obtain ⟨st20, sl21⟩ := x
    obtain ⟨hG2, hL2, hw⟩ := hw
    have hL : LQ [7, 9] sl sl21 := hL.tr hL2 (by decide)
    clear hL2
    dsimp only at hw
    have hP : va_P (dC, dI) vwCl (mw ar cy st20 sl21) _ := hP
    have hG : MG [1, 2, 3, 4, 5, 6, 7, 8, 9, 10, 11, 12, 13, 14, 16, 17, 19, 20, 21, 22, 23] st st20 := hG.tr hG2 (by decide)
    have hGst20 : MG [1, 2, 3, 4, 5, 6, 7, 8, 9, 10, 11, 12, 13, 14, 16, 17, 19, 20, 21, 22, 23] st11 st20 := hG2
    clear hG2
    have hf22 := hw
    exact W.vret hx hb hr (fun t ht hW => ⟨⟨(st20, sl21), rfl, ⟨hG, hL, ⟨(n13 + 1), by show st20 0 37 = (nI (n13 + 1)); rw [hf22], by omega⟩⟩, mB.of ht hP⟩, hS.F ht⟩) hS.2.2 dX12_writeWord_30
set_option maxHeartbeats 4000000 in
set_option maxRecDepth 100000 in
theorem m_writeWord2 (l : Launch) (dC : Nat → ClassId) (dI : Nat → Nat → Nat) (ar : Nat → Nat) (cy : Nat → ClassId) (sz : Nat) (hN : MN ar) (st : Nat → Nat → Int32) (sl : Nat → Nat → Int64) (vw : Int64) (gt : Nat) (hI : MI st) (h37 : st 0 37 = nI gt) (h37b : gt + 3 ≤ 64) (hw9 : vw.toInt < 19683) : Met l yX12_writeWord wsX12_writeWord ({ frames := 3, cells := 0, slots := 0, locals := 65 }) (va_Pc [.ref (ar 0), .long vw] (mPre dC dI ar cy sz st sl)) (va_Qv (fun (x : MT) => MG [1, 2, 3, 4, 5, 6, 7, 8, 9, 10, 11, 12, 13, 14, 16, 17, 19, 20, 21, 22, 23] st x.1 ∧ LQ [7, 9] sl x.2 ∧ (∃ n : Nat, x.1 0 37 = nI n ∧ n ≤ gt + 3)) (mB dC dI ar cy) (MA ar sz)) 0 0 (MA ar sz) := by
  refine Met.ofW (cc := cX12_writeWord) (maxL := 3) (ret := none) (by decide) rfl ?_
  intro p e s m args below meth c s₁ B hml hv
  obtain ⟨rfl, hsz, hP, hK⟩ := hv
  have hx := B.exec
  have hb := B.bytes
  have hr := B.returns
  have hts := atoms_spec (ws := wsX12_writeWord) B.pre
  have hown : s.vm.findClass RX12 = some m.cls := findClass_of_methodNamed B.named
  subst hsz
  have hS : va_S (MA ar s.heap.size) s.heap s.heap [] := va_S.rf
  have hG : MG [1, 2, 3, 4, 5, 6, 7, 8, 9, 10, 11, 12, 13, 14, 16, 17, 19, 20, 21, 22, 23] st st := MG.rf hI
  have hl := lv_entry ([.ref (ar 0), .long vw]) (n := 3) (Nat.le_of_ble_eq_true rfl)
  rw [lg_entry_eq]
  generalize (lg_sl ([.ref (ar 0), .long vw]) ++ List.replicate (3 - (lg_sl ([.ref (ar 0), .long vw])).length) Slot.unset).toArray = ls at hl ⊢
  have hl : lv_has ls 3 [(0, .ref (ar 0)), (1, .long vw)] := hl
  clear hI
  have hL : LQ [7, 9] sl sl := LQ.rf
  refine lv_lload_n hx hb dX12_writeWord_0 rfl (lv_at hl 1 rfl) ?_
  refine lv_ldc2 (v := 27) hx hb hown (hts _ mm_X12_writeWord_1) dX12_writeWord_1 ?_
  refine W.lcmp hx hb dX12_writeWord_4 ?_
  refine lv_topi (fun z1 ez1 => ?_)
  refine lv_if_lt (tgt := 17) hx hb dX12_writeWord_5 (by decide) (fun c1 => ?_) (fun c1 => ?_)
  · refine lv_aload_n hx hb dX12_writeWord_17 rfl (lv_at hl 0 rfl) ?_
    refine lv_bipush (v := 96) hx hb dX12_writeWord_18 (by decide) ?_
    refine lv_lload_n hx hb dX12_writeWord_20 rfl (lv_at hl 1 rfl) ?_
    refine lv_ldc2 (v := 27) hx hb hown (hts _ mm_X12_writeWord_1) dX12_writeWord_21 ?_
    refine lv_lrem hx hb dX12_writeWord_24 (by decide) ?_
    refine lv_topl (fun z2 ez2 => ?_)
    clear ez2
    refine lv_l2i hx hb dX12_writeWord_25 rfl ?_
    refine lv_topi (fun z3 ez3 => ?_)
    clear ez3
    refine lv_iadd hx hb dX12_writeWord_26 ?_
    refine lv_topi (fun z4 ez4 => ?_)
    refine va_callv (va_runV (As := [.int z4]) (rest := []) ⟨hx, hb, hml, hown, hts⟩ (m_write l dC dI ar cy _ hN st sl z4 gt  hG.1 (by rw [h37]) (by omega)) (cwV 1 hts gX12_writeWord_X12_write rfl rfl rfl (by decide +kernel) ⟨Nat.le_of_ble_eq_true rfl, Nat.le_of_ble_eq_true rfl⟩) ⟨fun a U g mk q => ⟨q.1, mPre.blind q.2⟩, va_recv hK hP (ci := 11) (q0 := 0) rfl rfl, fun U hU hW => ⟨rfl, mPre.of hP hK hU hW⟩⟩ rfl rfl hl.1 rfl (lv_room (Nat.le_of_ble_eq_true rfl)) dX12_writeWord_27 ⟨Nat.le_of_ble_eq_true rfl, Nat.le_of_ble_eq_true rfl⟩) hS (fun q _ h => MA.le hS.1 q h) (MA.le hS.1) (fun x t H locs ht hvm hw hB _ _ hS => ?_)
    have hP := mB.at ht hB
    clear hB ht hvm
    obtain ⟨st6, sl7⟩ := x
    obtain ⟨hG2, hL2, hw⟩ := hw
    have hL : LQ [7, 9] sl sl7 := hL.tr hL2 (by decide)
    clear hL2
    dsimp only at hw
    have hP : va_P (dC, dI) vwCl (mw ar cy st6 sl7) _ := hP
    have hG : MG [1, 2, 3, 4, 5, 6, 7, 8, 9, 10, 11, 12, 13, 14, 16, 17, 19, 20, 21, 22, 23] st st6 := hG.tr hG2 (by decide)
    have hGst6 : MG [1, 2, 3, 4, 5, 6, 7, 8, 9, 10, 11, 12, 13, 14, 16, 17, 19, 20, 21, 22, 23] st st6 := hG2
    clear hG2
    have hf8 := hw
    exact W.vret hx hb hr (fun t ht hW => ⟨⟨(st6, sl7), rfl, ⟨hG, hL, ⟨(gt + 1), by show st6 0 37 = (nI (gt + 1)); rw [hf8], by omega⟩⟩, mB.of ht hP⟩, hS.F ht⟩) hS.2.2 dX12_writeWord_30
  · refine lv_aload_n hx hb dX12_writeWord_8 rfl (lv_at hl 0 rfl) ?_
    refine lv_lload_n hx hb dX12_writeWord_9 rfl (lv_at hl 1 rfl) ?_
    refine lv_ldc2 (v := 27) hx hb hown (hts _ mm_X12_writeWord_1) dX12_writeWord_10 ?_
    refine lv_ldiv hx hb dX12_writeWord_13 (by decide) ?_
    refine lv_topl (fun z9 ez9 => ?_)
    refine va_callv (va_runV (As := [.long z9]) (rest := []) ⟨hx, hb, hml, hown, hts⟩ (m_writeWord1 l dC dI ar cy _ hN st sl z9 gt  hG.1 (by rw [h37]) (by omega) (by rw [ez9]; exact Int64.lt_iff_toInt_lt.mp (zz_div27 (A := 729) (by have h5 := Int64.toInt_lt vw; show vw.toInt < 27 * 729; omega) (by decide)))) (cwV 1 hts gX12_writeWord_X12_writeWord rfl rfl rfl (by decide +kernel) ⟨Nat.le_of_ble_eq_true rfl, Nat.le_of_ble_eq_true rfl⟩) ⟨fun a U g mk q => ⟨q.1, mPre.blind q.2⟩, va_recv hK hP (ci := 11) (q0 := 0) rfl rfl, fun U hU hW => ⟨rfl, mPre.of hP hK hU hW⟩⟩ rfl rfl hl.1 rfl (lv_room (Nat.le_of_ble_eq_true rfl)) dX12_writeWord_14 ⟨Nat.le_of_ble_eq_true rfl, Nat.le_of_ble_eq_true rfl⟩) hS (fun q _ h => MA.le hS.1 q h) (MA.le hS.1) (fun x t H locs ht hvm hw hB _ _ hS => ?_)
    have hP := mB.at ht hB
    clear hB ht hvm
    obtain ⟨st11, sl12⟩ := x
    obtain ⟨hG2, hL2, hw⟩ := hw
    have hL : LQ [7, 9] sl sl12 := hL.tr hL2 (by decide)
    clear hL2
    dsimp only at hw
    have hP : va_P (dC, dI) vwCl (mw ar cy st11 sl12) _ := hP
    have hG : MG [1, 2, 3, 4, 5, 6, 7, 8, 9, 10, 11, 12, 13, 14, 16, 17, 19, 20, 21, 22, 23] st st11 := hG.tr hG2 (by decide)
    have hGst11 : MG [1, 2, 3, 4, 5, 6, 7, 8, 9, 10, 11, 12, 13, 14, 16, 17, 19, 20, 21, 22, 23] st st11 := hG2
    clear hG2
    obtain ⟨n13, hf14, hf15⟩ := hw
    refine lv_aload_n hx hb dX12_writeWord_17 rfl (lv_at hl 0 rfl) ?_
    refine lv_bipush (v := 96) hx hb dX12_writeWord_18 (by decide) ?_
    refine lv_lload_n hx hb dX12_writeWord_20 rfl (lv_at hl 1 rfl) ?_
    refine lv_ldc2 (v := 27) hx hb hown (hts _ mm_X12_writeWord_1) dX12_writeWord_21 ?_
    refine lv_lrem hx hb dX12_writeWord_24 (by decide) ?_
    refine lv_topl (fun z16 ez16 => ?_)
    clear ez16
    refine lv_l2i hx hb dX12_writeWord_25 rfl ?_
    refine lv_topi (fun z17 ez17 => ?_)
    clear ez17
    refine lv_iadd hx hb dX12_writeWord_26 ?_
    refine lv_topi (fun z18 ez18 => ?_)
    refine va_callv (va_runV (As := [.int z18]) (rest := []) ⟨hx, hb, hml, hown, hts⟩ (m_write l dC dI ar cy _ hN st11 sl12 z18 n13  hG.1 (by rw [hf14]) (by omega)) (cwV 1 hts gX12_writeWord_X12_write rfl rfl rfl (by decide +kernel) ⟨Nat.le_of_ble_eq_true rfl, Nat.le_of_ble_eq_true rfl⟩) ⟨fun a U g mk q => ⟨q.1, mPre.blind q.2⟩, va_recv hK hP (ci := 11) (q0 := 0) rfl rfl, fun U hU hW => ⟨rfl, mPre.of hP hK hU hW⟩⟩ rfl rfl hl.1 rfl (lv_room (Nat.le_of_ble_eq_true rfl)) dX12_writeWord_27 ⟨Nat.le_of_ble_eq_true rfl, Nat.le_of_ble_eq_true rfl⟩) hS (fun q _ h => MA.le hS.1 q h) (MA.le hS.1) (fun x t H locs ht hvm hw hB _ _ hS => ?_)
    have hP := mB.at ht hB
    clear hB ht hvm
    obtain ⟨st20, sl21⟩ := x
    obtain ⟨hG2, hL2, hw⟩ := hw
    have hL : LQ [7, 9] sl sl21 := hL.tr hL2 (by decide)
    clear hL2
    dsimp only at hw
    have hP : va_P (dC, dI) vwCl (mw ar cy st20 sl21) _ := hP
    have hG : MG [1, 2, 3, 4, 5, 6, 7, 8, 9, 10, 11, 12, 13, 14, 16, 17, 19, 20, 21, 22, 23] st st20 := hG.tr hG2 (by decide)
    have hGst20 : MG [1, 2, 3, 4, 5, 6, 7, 8, 9, 10, 11, 12, 13, 14, 16, 17, 19, 20, 21, 22, 23] st11 st20 := hG2
    clear hG2
    have hf22 := hw
    exact W.vret hx hb hr (fun t ht hW => ⟨⟨(st20, sl21), rfl, ⟨hG, hL, ⟨(n13 + 1), by show st20 0 37 = (nI (n13 + 1)); rw [hf22], by omega⟩⟩, mB.of ht hP⟩, hS.F ht⟩) hS.2.2 dX12_writeWord_30
set_option maxHeartbeats 4000000 in
set_option maxRecDepth 100000 in
theorem m_writeWord3 (l : Launch) (dC : Nat → ClassId) (dI : Nat → Nat → Nat) (ar : Nat → Nat) (cy : Nat → ClassId) (sz : Nat) (hN : MN ar) (st : Nat → Nat → Int32) (sl : Nat → Nat → Int64) (vw : Int64) (gt : Nat) (hI : MI st) (h37 : st 0 37 = nI gt) (h37b : gt + 4 ≤ 64) (hw9 : vw.toInt < 531441) : Met l yX12_writeWord wsX12_writeWord ({ frames := 4, cells := 0, slots := 0, locals := 87 }) (va_Pc [.ref (ar 0), .long vw] (mPre dC dI ar cy sz st sl)) (va_Qv (fun (x : MT) => MG [1, 2, 3, 4, 5, 6, 7, 8, 9, 10, 11, 12, 13, 14, 16, 17, 19, 20, 21, 22, 23] st x.1 ∧ LQ [7, 9] sl x.2 ∧ (∃ n : Nat, x.1 0 37 = nI n ∧ n ≤ gt + 4)) (mB dC dI ar cy) (MA ar sz)) 0 0 (MA ar sz) := by
  refine Met.ofW (cc := cX12_writeWord) (maxL := 3) (ret := none) (by decide) rfl ?_
  intro p e s m args below meth c s₁ B hml hv
  obtain ⟨rfl, hsz, hP, hK⟩ := hv
  have hx := B.exec
  have hb := B.bytes
  have hr := B.returns
  have hts := atoms_spec (ws := wsX12_writeWord) B.pre
  have hown : s.vm.findClass RX12 = some m.cls := findClass_of_methodNamed B.named
  subst hsz
  have hS : va_S (MA ar s.heap.size) s.heap s.heap [] := va_S.rf
  have hG : MG [1, 2, 3, 4, 5, 6, 7, 8, 9, 10, 11, 12, 13, 14, 16, 17, 19, 20, 21, 22, 23] st st := MG.rf hI
  have hl := lv_entry ([.ref (ar 0), .long vw]) (n := 3) (Nat.le_of_ble_eq_true rfl)
  rw [lg_entry_eq]
  generalize (lg_sl ([.ref (ar 0), .long vw]) ++ List.replicate (3 - (lg_sl ([.ref (ar 0), .long vw])).length) Slot.unset).toArray = ls at hl ⊢
  have hl : lv_has ls 3 [(0, .ref (ar 0)), (1, .long vw)] := hl
  clear hI
  have hL : LQ [7, 9] sl sl := LQ.rf
  refine lv_lload_n hx hb dX12_writeWord_0 rfl (lv_at hl 1 rfl) ?_
  refine lv_ldc2 (v := 27) hx hb hown (hts _ mm_X12_writeWord_1) dX12_writeWord_1 ?_
  refine W.lcmp hx hb dX12_writeWord_4 ?_
  refine lv_topi (fun z1 ez1 => ?_)
  refine lv_if_lt (tgt := 17) hx hb dX12_writeWord_5 (by decide) (fun c1 => ?_) (fun c1 => ?_)
  · refine lv_aload_n hx hb dX12_writeWord_17 rfl (lv_at hl 0 rfl) ?_
    refine lv_bipush (v := 96) hx hb dX12_writeWord_18 (by decide) ?_
    refine lv_lload_n hx hb dX12_writeWord_20 rfl (lv_at hl 1 rfl) ?_
    refine lv_ldc2 (v := 27) hx hb hown (hts _ mm_X12_writeWord_1) dX12_writeWord_21 ?_
    refine lv_lrem hx hb dX12_writeWord_24 (by decide) ?_
    refine lv_topl (fun z2 ez2 => ?_)
    clear ez2
    refine lv_l2i hx hb dX12_writeWord_25 rfl ?_
    refine lv_topi (fun z3 ez3 => ?_)
    clear ez3
    refine lv_iadd hx hb dX12_writeWord_26 ?_
    refine lv_topi (fun z4 ez4 => ?_)
    refine va_callv (va_runV (As := [.int z4]) (rest := []) ⟨hx, hb, hml, hown, hts⟩ (m_write l dC dI ar cy _ hN st sl z4 gt  hG.1 (by rw [h37]) (by omega)) (cwV 1 hts gX12_writeWord_X12_write rfl rfl rfl (by decide +kernel) ⟨Nat.le_of_ble_eq_true rfl, Nat.le_of_ble_eq_true rfl⟩) ⟨fun a U g mk q => ⟨q.1, mPre.blind q.2⟩, va_recv hK hP (ci := 11) (q0 := 0) rfl rfl, fun U hU hW => ⟨rfl, mPre.of hP hK hU hW⟩⟩ rfl rfl hl.1 rfl (lv_room (Nat.le_of_ble_eq_true rfl)) dX12_writeWord_27 ⟨Nat.le_of_ble_eq_true rfl, Nat.le_of_ble_eq_true rfl⟩) hS (fun q _ h => MA.le hS.1 q h) (MA.le hS.1) (fun x t H locs ht hvm hw hB _ _ hS => ?_)
    have hP := mB.at ht hB
    clear hB ht hvm
    obtain ⟨st6, sl7⟩ := x
    obtain ⟨hG2, hL2, hw⟩ := hw
    have hL : LQ [7, 9] sl sl7 := hL.tr hL2 (by decide)
    clear hL2
    dsimp only at hw
    have hP : va_P (dC, dI) vwCl (mw ar cy st6 sl7) _ := hP
    have hG : MG [1, 2, 3, 4, 5, 6, 7, 8, 9, 10, 11, 12, 13, 14, 16, 17, 19, 20, 21, 22, 23] st st6 := hG.tr hG2 (by decide)
    have hGst6 : MG [1, 2, 3, 4, 5, 6, 7, 8, 9, 10, 11, 12, 13, 14, 16, 17, 19, 20, 21, 22, 23] st st6 := hG2
    clear hG2
    have hf8 := hw
    exact W.vret hx hb hr (fun t ht hW => ⟨⟨(st6, sl7), rfl, ⟨hG, hL, ⟨(gt + 1), by show st6 0 37 = (nI (gt + 1)); rw [hf8], by omega⟩⟩, mB.of ht hP⟩, hS.F ht⟩) hS.2.2 dX12_writeWord_30
  · refine lv_aload_n hx hb dX12_writeWord_8 rfl (lv_at hl 0 rfl) ?_
    refine lv_lload_n hx hb dX12_writeWord_9 rfl (lv_at hl 1 rfl) ?_
    refine lv_ldc2 (v := 27) hx hb hown (hts _ mm_X12_writeWord_1) dX12_writeWord_10 ?_
    refine lv_ldiv hx hb dX12_writeWord_13 (by decide) ?_
    refine lv_topl (fun z9 ez9 => ?_)
    refine va_callv (va_runV (As := [.long z9]) (rest := []) ⟨hx, hb, hml, hown, hts⟩ (m_writeWord2 l dC dI ar cy _ hN st sl z9 gt  hG.1 (by rw [h37]) (by omega) (by rw [ez9]; exact Int64.lt_iff_toInt_lt.mp (zz_div27 (A := 19683) (by have h5 := Int64.toInt_lt vw; show vw.toInt < 27 * 19683; omega) (by decide)))) (cwV 1 hts gX12_writeWord_X12_writeWord rfl rfl rfl (by decide +kernel) ⟨Nat.le_of_ble_eq_true rfl, Nat.le_of_ble_eq_true rfl⟩) ⟨fun a U g mk q => ⟨q.1, mPre.blind q.2⟩, va_recv hK hP (ci := 11) (q0 := 0) rfl rfl, fun U hU hW => ⟨rfl, mPre.of hP hK hU hW⟩⟩ rfl rfl hl.1 rfl (lv_room (Nat.le_of_ble_eq_true rfl)) dX12_writeWord_14 ⟨Nat.le_of_ble_eq_true rfl, Nat.le_of_ble_eq_true rfl⟩) hS (fun q _ h => MA.le hS.1 q h) (MA.le hS.1) (fun x t H locs ht hvm hw hB _ _ hS => ?_)
    have hP := mB.at ht hB
    clear hB ht hvm
    obtain ⟨st11, sl12⟩ := x
    obtain ⟨hG2, hL2, hw⟩ := hw
    have hL : LQ [7, 9] sl sl12 := hL.tr hL2 (by decide)
    clear hL2
    dsimp only at hw
    have hP : va_P (dC, dI) vwCl (mw ar cy st11 sl12) _ := hP
    have hG : MG [1, 2, 3, 4, 5, 6, 7, 8, 9, 10, 11, 12, 13, 14, 16, 17, 19, 20, 21, 22, 23] st st11 := hG.tr hG2 (by decide)
    have hGst11 : MG [1, 2, 3, 4, 5, 6, 7, 8, 9, 10, 11, 12, 13, 14, 16, 17, 19, 20, 21, 22, 23] st st11 := hG2
    clear hG2
    obtain ⟨n13, hf14, hf15⟩ := hw
    refine lv_aload_n hx hb dX12_writeWord_17 rfl (lv_at hl 0 rfl) ?_
    refine lv_bipush (v := 96) hx hb dX12_writeWord_18 (by decide) ?_
    refine lv_lload_n hx hb dX12_writeWord_20 rfl (lv_at hl 1 rfl) ?_
    refine lv_ldc2 (v := 27) hx hb hown (hts _ mm_X12_writeWord_1) dX12_writeWord_21 ?_
    refine lv_lrem hx hb dX12_writeWord_24 (by decide) ?_
    refine lv_topl (fun z16 ez16 => ?_)
    clear ez16
    refine lv_l2i hx hb dX12_writeWord_25 rfl ?_
    refine lv_topi (fun z17 ez17 => ?_)
    clear ez17
    refine lv_iadd hx hb dX12_writeWord_26 ?_
    refine lv_topi (fun z18 ez18 => ?_)
    refine va_callv (va_runV (As := [.int z18]) (rest := []) ⟨hx, hb, hml, hown, hts⟩ (m_write l dC dI ar cy _ hN st11 sl12 z18 n13  hG.1 (by rw [hf14]) (by omega)) (cwV 1 hts gX12_writeWord_X12_write rfl rfl rfl (by decide +kernel) ⟨Nat.le_of_ble_eq_true rfl, Nat.le_of_ble_eq_true rfl⟩) ⟨fun a U g mk q => ⟨q.1, mPre.blind q.2⟩, va_recv hK hP (ci := 11) (q0 := 0) rfl rfl, fun U hU hW => ⟨rfl, mPre.of hP hK hU hW⟩⟩ rfl rfl hl.1 rfl (lv_room (Nat.le_of_ble_eq_true rfl)) dX12_writeWord_27 ⟨Nat.le_of_ble_eq_true rfl, Nat.le_of_ble_eq_true rfl⟩) hS (fun q _ h => MA.le hS.1 q h) (MA.le hS.1) (fun x t H locs ht hvm hw hB _ _ hS => ?_)
    have hP := mB.at ht hB
    clear hB ht hvm
    obtain ⟨st20, sl21⟩ := x
    obtain ⟨hG2, hL2, hw⟩ := hw
    have hL : LQ [7, 9] sl sl21 := hL.tr hL2 (by decide)
    clear hL2
    dsimp only at hw
    have hP : va_P (dC, dI) vwCl (mw ar cy st20 sl21) _ := hP
    have hG : MG [1, 2, 3, 4, 5, 6, 7, 8, 9, 10, 11, 12, 13, 14, 16, 17, 19, 20, 21, 22, 23] st st20 := hG.tr hG2 (by decide)
    have hGst20 : MG [1, 2, 3, 4, 5, 6, 7, 8, 9, 10, 11, 12, 13, 14, 16, 17, 19, 20, 21, 22, 23] st11 st20 := hG2
    clear hG2
    have hf22 := hw
    exact W.vret hx hb hr (fun t ht hW => ⟨⟨(st20, sl21), rfl, ⟨hG, hL, ⟨(n13 + 1), by show st20 0 37 = (nI (n13 + 1)); rw [hf22], by omega⟩⟩, mB.of ht hP⟩, hS.F ht⟩) hS.2.2 dX12_writeWord_30
set_option maxHeartbeats 4000000 in
set_option maxRecDepth 100000 in
theorem m_writeWord4 (l : Launch) (dC : Nat → ClassId) (dI : Nat → Nat → Nat) (ar : Nat → Nat) (cy : Nat → ClassId) (sz : Nat) (hN : MN ar) (st : Nat → Nat → Int32) (sl : Nat → Nat → Int64) (vw : Int64) (gt : Nat) (hI : MI st) (h37 : st 0 37 = nI gt) (h37b : gt + 5 ≤ 64) (hw9 : vw.toInt < 14348907) : Met l yX12_writeWord wsX12_writeWord ({ frames := 5, cells := 0, slots := 0, locals := 109 }) (va_Pc [.ref (ar 0), .long vw] (mPre dC dI ar cy sz st sl)) (va_Qv (fun (x : MT) => MG [1, 2, 3, 4, 5, 6, 7, 8, 9, 10, 11, 12, 13, 14, 16, 17, 19, 20, 21, 22, 23] st x.1 ∧ LQ [7, 9] sl x.2 ∧ (∃ n : Nat, x.1 0 37 = nI n ∧ n ≤ gt + 5)) (mB dC dI ar cy) (MA ar sz)) 0 0 (MA ar sz) := by
  refine Met.ofW (cc := cX12_writeWord) (maxL := 3) (ret := none) (by decide) rfl ?_
  intro p e s m args below meth c s₁ B hml hv
  obtain ⟨rfl, hsz, hP, hK⟩ := hv
  have hx := B.exec
  have hb := B.bytes
  have hr := B.returns
  have hts := atoms_spec (ws := wsX12_writeWord) B.pre
  have hown : s.vm.findClass RX12 = some m.cls := findClass_of_methodNamed B.named
  subst hsz
  have hS : va_S (MA ar s.heap.size) s.heap s.heap [] := va_S.rf
  have hG : MG [1, 2, 3, 4, 5, 6, 7, 8, 9, 10, 11, 12, 13, 14, 16, 17, 19, 20, 21, 22, 23] st st := MG.rf hI
  have hl := lv_entry ([.ref (ar 0), .long vw]) (n := 3) (Nat.le_of_ble_eq_true rfl)
  rw [lg_entry_eq]
  generalize (lg_sl ([.ref (ar 0), .long vw]) ++ List.replicate (3 - (lg_sl ([.ref (ar 0), .long vw])).length) Slot.unset).toArray = ls at hl ⊢
  have hl : lv_has ls 3 [(0, .ref (ar 0)), (1, .long vw)] := hl
  clear hI
  have hL : LQ [7, 9] sl sl := LQ.rf
  refine lv_lload_n hx hb dX12_writeWord_0 rfl (lv_at hl 1 rfl) ?_
  refine lv_ldc2 (v := 27) hx hb hown (hts _ mm_X12_writeWord_1) dX12_writeWord_1 ?_
  refine W.lcmp hx hb dX12_writeWord_4 ?_
  refine lv_topi (fun z1 ez1 => ?_)
  refine lv_if_lt (tgt := 17) hx hb dX12_writeWord_5 (by decide) (fun c1 => ?_) (fun c1 => ?_)
  · refine lv_aload_n hx hb dX12_writeWord_17 rfl (lv_at hl 0 rfl) ?_
    refine lv_bipush (v := 96) hx hb dX12_writeWord_18 (by decide) ?_
    refine lv_lload_n hx hb dX12_writeWord_20 rfl (lv_at hl 1 rfl) ?_
    refine lv_ldc2 (v := 27) hx hb hown (hts _ mm_X12_writeWord_1) dX12_writeWord_21 ?_
    refine lv_lrem hx hb dX12_writeWord_24 (by decide) ?_
    refine lv_topl (fun z2 ez2 => ?_)
    clear ez2
    refine lv_l2i hx hb dX12_writeWord_25 rfl ?_
    refine lv_topi (fun z3 ez3 => ?_)
    clear ez3
    refine lv_iadd hx hb dX12_writeWord_26 ?_
    refine lv_topi (fun z4 ez4 => ?_)
    refine va_callv (va_runV (As := [.int z4]) (rest := []) ⟨hx, hb, hml, hown, hts⟩ (m_write l dC dI ar cy _ hN st sl z4 gt  hG.1 (by rw [h37]) (by omega)) (cwV 1 hts gX12_writeWord_X12_write rfl rfl rfl (by decide +kernel) ⟨Nat.le_of_ble_eq_true rfl, Nat.le_of_ble_eq_true rfl⟩) ⟨fun a U g mk q => ⟨q.1, mPre.blind q.2⟩, va_recv hK hP (ci := 11) (q0 := 0) rfl rfl, fun U hU hW => ⟨rfl, mPre.of hP hK hU hW⟩⟩ rfl rfl hl.1 rfl (lv_room (Nat.le_of_ble_eq_true rfl)) dX12_writeWord_27 ⟨Nat.le_of_ble_eq_true rfl, Nat.le_of_ble_eq_true rfl⟩) hS (fun q _ h => MA.le hS.1 q h) (MA.le hS.1) (fun x t H locs ht hvm hw hB _ _ hS => ?_)
    have hP := mB.at ht hB
    clear hB ht hvm
    obtain ⟨st6, sl7⟩ := x
    obtain ⟨hG2, hL2, hw⟩ := hw
    have hL : LQ [7, 9] sl sl7 := hL.tr hL2 (by decide)
    clear hL2
    dsimp only at hw
    have hP : va_P (dC, dI) vwCl (mw ar cy st6 sl7) _ := hP
    have hG : MG [1, 2, 3, 4, 5, 6, 7, 8, 9, 10, 11, 12, 13, 14, 16, 17, 19, 20, 21, 22, 23] st st6 := hG.tr hG2 (by decide)
    have hGst6 : MG [1, 2, 3, 4, 5, 6, 7, 8, 9, 10, 11, 12, 13, 14, 16, 17, 19, 20, 21, 22, 23] st st6 := hG2
    clear hG2
    have hf8 := hw
    exact W.vret hx hb hr (fun t ht hW => ⟨⟨(st6, sl7), rfl, ⟨hG, hL, ⟨(gt + 1), by show st6 0 37 = (nI (gt + 1)); rw [hf8], by omega⟩⟩, mB.of ht hP⟩, hS.F ht⟩) hS.2.2 dX12_writeWord_30
  · refine lv_aload_n hx hb dX12_writeWord_8 rfl (lv_at hl 0 rfl) ?_
    refine lv_lload_n hx hb dX12_writeWord_9 rfl (lv_at hl 1 rfl) ?_
    refine lv_ldc2 (v := 27) hx hb hown (hts _ mm_X12_writeWord_1) dX12_writeWord_10 ?_
    refine lv_ldiv hx hb dX12_writeWord_13 (by decide) ?_
    refine lv_topl (fun z9 ez9 => ?_)
    refine va_callv (va_runV (As := [.long z9]) (rest := []) ⟨hx, hb, hml, hown, hts⟩ (m_writeWord3 l dC dI ar cy _ hN st sl z9 gt  hG.1 (by rw [h37]) (by omega) (by rw [ez9]; exact Int64.lt_iff_toInt_lt.mp (zz_div27 (A := 531441) (by have h5 := Int64.toInt_lt vw; show vw.toInt < 27 * 531441; omega) (by decide)))) (cwV 1 hts gX12_writeWord_X12_writeWord rfl rfl rfl (by decide +kernel) ⟨Nat.le_of_ble_eq_true rfl, Nat.le_of_ble_eq_true rfl⟩) ⟨fun a U g mk q => ⟨q.1, mPre.blind q.2⟩, va_recv hK hP (ci := 11) (q0 := 0) rfl rfl, fun U hU hW => ⟨rfl, mPre.of hP hK hU hW⟩⟩ rfl rfl hl.1 rfl (lv_room (Nat.le_of_ble_eq_true rfl)) dX12_writeWord_14 ⟨Nat.le_of_ble_eq_true rfl, Nat.le_of_ble_eq_true rfl⟩) hS (fun q _ h => MA.le hS.1 q h) (MA.le hS.1) (fun x t H locs ht hvm hw hB _ _ hS => ?_)
    have hP := mB.at ht hB
    clear hB ht hvm
    obtain ⟨st11, sl12⟩ := x
    obtain ⟨hG2, hL2, hw⟩ := hw
    have hL : LQ [7, 9] sl sl12 := hL.tr hL2 (by decide)
    clear hL2
    dsimp only at hw
    have hP : va_P (dC, dI) vwCl (mw ar cy st11 sl12) _ := hP
    have hG : MG [1, 2, 3, 4, 5, 6, 7, 8, 9, 10, 11, 12, 13, 14, 16, 17, 19, 20, 21, 22, 23] st st11 := hG.tr hG2 (by decide)
    have hGst11 : MG [1, 2, 3, 4, 5, 6, 7, 8, 9, 10, 11, 12, 13, 14, 16, 17, 19, 20, 21, 22, 23] st st11 := hG2
    clear hG2
    obtain ⟨n13, hf14, hf15⟩ := hw
    refine lv_aload_n hx hb dX12_writeWord_17 rfl (lv_at hl 0 rfl) ?_
    refine lv_bipush (v := 96) hx hb dX12_writeWord_18 (by decide) ?_
    refine lv_lload_n hx hb dX12_writeWord_20 rfl (lv_at hl 1 rfl) ?_
    refine lv_ldc2 (v := 27) hx hb hown (hts _ mm_X12_writeWord_1) dX12_writeWord_21 ?_
    refine lv_lrem hx hb dX12_writeWord_24 (by decide) ?_
    refine lv_topl (fun z16 ez16 => ?_)
    clear ez16
    refine lv_l2i hx hb dX12_writeWord_25 rfl ?_
    refine lv_topi (fun z17 ez17 => ?_)
    clear ez17
    refine lv_iadd hx hb dX12_writeWord_26 ?_
    refine lv_topi (fun z18 ez18 => ?_)
    refine va_callv (va_runV (As := [.int z18]) (rest := []) ⟨hx, hb, hml, hown, hts⟩ (m_write l dC dI ar cy _ hN st11 sl12 z18 n13  hG.1 (by rw [hf14]) (by omega)) (cwV 1 hts gX12_writeWord_X12_write rfl rfl rfl (by decide +kernel) ⟨Nat.le_of_ble_eq_true rfl, Nat.le_of_ble_eq_true rfl⟩) ⟨fun a U g mk q => ⟨q.1, mPre.blind q.2⟩, va_recv hK hP (ci := 11) (q0 := 0) rfl rfl, fun U hU hW => ⟨rfl, mPre.of hP hK hU hW⟩⟩ rfl rfl hl.1 rfl (lv_room (Nat.le_of_ble_eq_true rfl)) dX12_writeWord_27 ⟨Nat.le_of_ble_eq_true rfl, Nat.le_of_ble_eq_true rfl⟩) hS (fun q _ h => MA.le hS.1 q h) (MA.le hS.1) (fun x t H locs ht hvm hw hB _ _ hS => ?_)
    have hP := mB.at ht hB
    clear hB ht hvm
    obtain ⟨st20, sl21⟩ := x
    obtain ⟨hG2, hL2, hw⟩ := hw
    have hL : LQ [7, 9] sl sl21 := hL.tr hL2 (by decide)
    clear hL2
    dsimp only at hw
    have hP : va_P (dC, dI) vwCl (mw ar cy st20 sl21) _ := hP
    have hG : MG [1, 2, 3, 4, 5, 6, 7, 8, 9, 10, 11, 12, 13, 14, 16, 17, 19, 20, 21, 22, 23] st st20 := hG.tr hG2 (by decide)
    have hGst20 : MG [1, 2, 3, 4, 5, 6, 7, 8, 9, 10, 11, 12, 13, 14, 16, 17, 19, 20, 21, 22, 23] st11 st20 := hG2
    clear hG2
    have hf22 := hw
    exact W.vret hx hb hr (fun t ht hW => ⟨⟨(st20, sl21), rfl, ⟨hG, hL, ⟨(n13 + 1), by show st20 0 37 = (nI (n13 + 1)); rw [hf22], by omega⟩⟩, mB.of ht hP⟩, hS.F ht⟩) hS.2.2 dX12_writeWord_30
set_option maxHeartbeats 4000000 in
set_option maxRecDepth 100000 in
theorem m_writeWord5 (l : Launch) (dC : Nat → ClassId) (dI : Nat → Nat → Nat) (ar : Nat → Nat) (cy : Nat → ClassId) (sz : Nat) (hN : MN ar) (st : Nat → Nat → Int32) (sl : Nat → Nat → Int64) (vw : Int64) (gt : Nat) (hI : MI st) (h37 : st 0 37 = nI gt) (h37b : gt + 6 ≤ 64) (hw9 : vw.toInt < 387420489) : Met l yX12_writeWord wsX12_writeWord ({ frames := 6, cells := 0, slots := 0, locals := 131 }) (va_Pc [.ref (ar 0), .long vw] (mPre dC dI ar cy sz st sl)) (va_Qv (fun (x : MT) => MG [1, 2, 3, 4, 5, 6, 7, 8, 9, 10, 11, 12, 13, 14, 16, 17, 19, 20, 21, 22, 23] st x.1 ∧ LQ [7, 9] sl x.2 ∧ (∃ n : Nat, x.1 0 37 = nI n ∧ n ≤ gt + 6)) (mB dC dI ar cy) (MA ar sz)) 0 0 (MA ar sz) := by
  refine Met.ofW (cc := cX12_writeWord) (maxL := 3) (ret := none) (by decide) rfl ?_
  intro p e s m args below meth c s₁ B hml hv
  obtain ⟨rfl, hsz, hP, hK⟩ := hv
  have hx := B.exec
  have hb := B.bytes
  have hr := B.returns
  have hts := atoms_spec (ws := wsX12_writeWord) B.pre
  have hown : s.vm.findClass RX12 = some m.cls := findClass_of_methodNamed B.named
  subst hsz
  have hS : va_S (MA ar s.heap.size) s.heap s.heap [] := va_S.rf
  have hG : MG [1, 2, 3, 4, 5, 6, 7, 8, 9, 10, 11, 12, 13, 14, 16, 17, 19, 20, 21, 22, 23] st st := MG.rf hI
  have hl := lv_entry ([.ref (ar 0), .long vw]) (n := 3) (Nat.le_of_ble_eq_true rfl)
  rw [lg_entry_eq]
  generalize (lg_sl ([.ref (ar 0), .long vw]) ++ List.replicate (3 - (lg_sl ([.ref (ar 0), .long vw])).length) Slot.unset).toArray = ls at hl ⊢
  have hl : lv_has ls 3 [(0, .ref (ar 0)), (1, .long vw)] := hl
  clear hI
  have hL : LQ [7, 9] sl sl := LQ.rf
  refine lv_lload_n hx hb dX12_writeWord_0 rfl (lv_at hl 1 rfl) ?_
  refine lv_ldc2 (v := 27) hx hb hown (hts _ mm_X12_writeWord_1) dX12_writeWord_1 ?_
  refine W.lcmp hx hb dX12_writeWord_4 ?_
  refine lv_topi (fun z1 ez1 => ?_)
  refine lv_if_lt (tgt := 17) hx hb dX12_writeWord_5 (by decide) (fun c1 => ?_) (fun c1 => ?_)
  · refine lv_aload_n hx hb dX12_writeWord_17 rfl (lv_at hl 0 rfl) ?_
    refine lv_bipush (v := 96) hx hb dX12_writeWord_18 (by decide) ?_
    refine lv_lload_n hx hb dX12_writeWord_20 rfl (lv_at hl 1 rfl) ?_
    refine lv_ldc2 (v := 27) hx hb hown (hts _ mm_X12_writeWord_1) dX12_writeWord_21 ?_
    refine lv_lrem hx hb dX12_writeWord_24 (by decide) ?_
    refine lv_topl (fun z2 ez2 => ?_)
    clear ez2
    refine lv_l2i hx hb dX12_writeWord_25 rfl ?_
    refine lv_topi (fun z3 ez3 => ?_)
    clear ez3
    refine lv_iadd hx hb dX12_writeWord_26 ?_
    refine lv_topi (fun z4 ez4 => ?_)
    refine va_callv (va_runV (As := [.int z4]) (rest := []) ⟨hx, hb, hml, hown, hts⟩ (m_write l dC dI ar cy _ hN st sl z4 gt  hG.1 (by rw [h37]) (by omega)) (cwV 1 hts gX12_writeWord_X12_write rfl rfl rfl (by decide +kernel) ⟨Nat.le_of_ble_eq_true rfl, Nat.le_of_ble_eq_true rfl⟩) ⟨fun a U g mk q => ⟨q.1, mPre.blind q.2⟩, va_recv hK hP (ci := 11) (q0 := 0) rfl rfl, fun U hU hW => ⟨rfl, mPre.of hP hK hU hW⟩⟩ rfl rfl hl.1 rfl (lv_room (Nat.le_of_ble_eq_true rfl)) dX12_writeWord_27 ⟨Nat.le_of_ble_eq_true rfl, Nat.le_of_ble_eq_true rfl⟩) hS (fun q _ h => MA.le hS.1 q h) (MA.le hS.1) (fun x t H locs ht hvm hw hB _ _ hS => ?_)
    have hP := mB.at ht hB
    clear hB ht hvm
    obtain ⟨st6, sl7⟩ := x
    obtain ⟨hG2, hL2, hw⟩ := hw
    have hL : LQ [7, 9] sl sl7 := hL.tr hL2 (by decide)
    clear hL2
    dsimp only at hw
    have hP : va_P (dC, dI) vwCl (mw ar cy st6 sl7) _ := hP
    have hG : MG [1, 2, 3, 4, 5, 6, 7, 8, 9, 10, 11, 12, 13, 14, 16, 17, 19, 20, 21, 22, 23] st st6 := hG.tr hG2 (by decide)
    have hGst6 : MG [1, 2, 3, 4, 5, 6, 7, 8, 9, 10, 11, 12, 13, 14, 16, 17, 19, 20, 21, 22, 23] st st6 := hG2
    clear hG2
    have hf8 := hw
    exact W.vret hx hb hr (fun t ht hW => ⟨⟨(st6, sl7), rfl, ⟨hG, hL, ⟨(gt + 1), by show st6 0 37 = (nI (gt + 1)); rw [hf8], by omega⟩⟩, mB.of ht hP⟩, hS.F ht⟩) hS.2.2 dX12_writeWord_30
  · refine lv_aload_n hx hb dX12_writeWord_8 rfl (lv_at hl 0 rfl) ?_
    refine lv_lload_n hx hb dX12_writeWord_9 rfl (lv_at hl 1 rfl) ?_
    refine lv_ldc2 (v := 27) hx hb hown (hts _ mm_X12_writeWord_1) dX12_writeWord_10 ?_
    refine lv_ldiv hx hb dX12_writeWord_13 (by decide) ?_
    refine lv_topl (fun z9 ez9 => ?_)
    refine va_callv (va_runV (As := [.long z9]) (rest := []) ⟨hx, hb, hml, hown, hts⟩ (m_writeWord4 l dC dI ar cy _ hN st sl z9 gt  hG.1 (by rw [h37]) (by omega) (by rw [ez9]; exact Int64.lt_iff_toInt_lt.mp (zz_div27 (A := 14348907) (by have h5 := Int64.toInt_lt vw; show vw.toInt < 27 * 14348907; omega) (by decide)))) (cwV 1 hts gX12_writeWord_X12_writeWord rfl rfl rfl (by decide +kernel) ⟨Nat.le_of_ble_eq_true rfl, Nat.le_of_ble_eq_true rfl⟩) ⟨fun a U g mk q => ⟨q.1, mPre.blind q.2⟩, va_recv hK hP (ci := 11) (q0 := 0) rfl rfl, fun U hU hW => ⟨rfl, mPre.of hP hK hU hW⟩⟩ rfl rfl hl.1 rfl (lv_room (Nat.le_of_ble_eq_true rfl)) dX12_writeWord_14 ⟨Nat.le_of_ble_eq_true rfl, Nat.le_of_ble_eq_true rfl⟩) hS (fun q _ h => MA.le hS.1 q h) (MA.le hS.1) (fun x t H locs ht hvm hw hB _ _ hS => ?_)
    have hP := mB.at ht hB
    clear hB ht hvm
    obtain ⟨st11, sl12⟩ := x
    obtain ⟨hG2, hL2, hw⟩ := hw
    have hL : LQ [7, 9] sl sl12 := hL.tr hL2 (by decide)
    clear hL2
    dsimp only at hw
    have hP : va_P (dC, dI) vwCl (mw ar cy st11 sl12) _ := hP
    have hG : MG [1, 2, 3, 4, 5, 6, 7, 8, 9, 10, 11, 12, 13, 14, 16, 17, 19, 20, 21, 22, 23] st st11 := hG.tr hG2 (by decide)
    have hGst11 : MG [1, 2, 3, 4, 5, 6, 7, 8, 9, 10, 11, 12, 13, 14, 16, 17, 19, 20, 21, 22, 23] st st11 := hG2
    clear hG2
    obtain ⟨n13, hf14, hf15⟩ := hw
    refine lv_aload_n hx hb dX12_writeWord_17 rfl (lv_at hl 0 rfl) ?_
    refine lv_bipush (v := 96) hx hb dX12_writeWord_18 (by decide) ?_
    refine lv_lload_n hx hb dX12_writeWord_20 rfl (lv_at hl 1 rfl) ?_
    refine lv_ldc2 (v := 27) hx hb hown (hts _ mm_X12_writeWord_1) dX12_writeWord_21 ?_
    refine lv_lrem hx hb dX12_writeWord_24 (by decide) ?_
    refine lv_topl (fun z16 ez16 => ?_)
    clear ez16
    refine lv_l2i hx hb dX12_writeWord_25 rfl ?_
    refine lv_topi (fun z17 ez17 => ?_)
    clear ez17
    refine lv_iadd hx hb dX12_writeWord_26 ?_
    refine lv_topi (fun z18 ez18 => ?_)
    refine va_callv (va_runV (As := [.int z18]) (rest := []) ⟨hx, hb, hml, hown, hts⟩ (m_write l dC dI ar cy _ hN st11 sl12 z18 n13  hG.1 (by rw [hf14]) (by omega)) (cwV 1 hts gX12_writeWord_X12_write rfl rfl rfl (by decide +kernel) ⟨Nat.le_of_ble_eq_true rfl, Nat.le_of_ble_eq_true rfl⟩) ⟨fun a U g mk q => ⟨q.1, mPre.blind q.2⟩, va_recv hK hP (ci := 11) (q0 := 0) rfl rfl, fun U hU hW => ⟨rfl, mPre.of hP hK hU hW⟩⟩ rfl rfl hl.1 rfl (lv_room (Nat.le_of_ble_eq_true rfl)) dX12_writeWord_27 ⟨Nat.le_of_ble_eq_true rfl, Nat.le_of_ble_eq_true rfl⟩) hS (fun q _ h => MA.le hS.1 q h) (MA.le hS.1) (fun x t H locs ht hvm hw hB _ _ hS => ?_)
    have hP := mB.at ht hB
    clear hB ht hvm
    obtain ⟨st20, sl21⟩ := x
    obtain ⟨hG2, hL2, hw⟩ := hw
    have hL : LQ [7, 9] sl sl21 := hL.tr hL2 (by decide)
    clear hL2
    dsimp only at hw
    have hP : va_P (dC, dI) vwCl (mw ar cy st20 sl21) _ := hP
    have hG : MG [1, 2, 3, 4, 5, 6, 7, 8, 9, 10, 11, 12, 13, 14, 16, 17, 19, 20, 21, 22, 23] st st20 := hG.tr hG2 (by decide)
    have hGst20 : MG [1, 2, 3, 4, 5, 6, 7, 8, 9, 10, 11, 12, 13, 14, 16, 17, 19, 20, 21, 22, 23] st11 st20 := hG2
    clear hG2
    have hf22 := hw
    exact W.vret hx hb hr (fun t ht hW => ⟨⟨(st20, sl21), rfl, ⟨hG, hL, ⟨(n13 + 1), by show st20 0 37 = (nI (n13 + 1)); rw [hf22], by omega⟩⟩, mB.of ht hP⟩, hS.F ht⟩) hS.2.2 dX12_writeWord_30
set_option maxHeartbeats 4000000 in
set_option maxRecDepth 100000 in
theorem m_writeWord6 (l : Launch) (dC : Nat → ClassId) (dI : Nat → Nat → Nat) (ar : Nat → Nat) (cy : Nat → ClassId) (sz : Nat) (hN : MN ar) (st : Nat → Nat → Int32) (sl : Nat → Nat → Int64) (vw : Int64) (gt : Nat) (hI : MI st) (h37 : st 0 37 = nI gt) (h37b : gt + 7 ≤ 64) (hw9 : vw.toInt < 10460353203) : Met l yX12_writeWord wsX12_writeWord ({ frames := 7, cells := 0, slots := 0, locals := 153 }) (va_Pc [.ref (ar 0), .long vw] (mPre dC dI ar cy sz st sl)) (va_Qv (fun (x : MT) => MG [1, 2, 3, 4, 5, 6, 7, 8, 9, 10, 11, 12, 13, 14, 16, 17, 19, 20, 21, 22, 23] st x.1 ∧ LQ [7, 9] sl x.2 ∧ (∃ n : Nat, x.1 0 37 = nI n ∧ n ≤ gt + 7)) (mB dC dI ar cy) (MA ar sz)) 0 0 (MA ar sz) := by
  refine Met.ofW (cc := cX12_writeWord) (maxL := 3) (ret := none) (by decide) rfl ?_
  intro p e s m args below meth c s₁ B hml hv
  obtain ⟨rfl, hsz, hP, hK⟩ := hv
  have hx := B.exec
  have hb := B.bytes
  have hr := B.returns
  have hts := atoms_spec (ws := wsX12_writeWord) B.pre
  have hown : s.vm.findClass RX12 = some m.cls := findClass_of_methodNamed B.named
  subst hsz
  have hS : va_S (MA ar s.heap.size) s.heap s.heap [] := va_S.rf
  have hG : MG [1, 2, 3, 4, 5, 6, 7, 8, 9, 10, 11, 12, 13, 14, 16, 17, 19, 20, 21, 22, 23] st st := MG.rf hI
  have hl := lv_entry ([.ref (ar 0), .long vw]) (n := 3) (Nat.le_of_ble_eq_true rfl)
  rw [lg_entry_eq]
  generalize (lg_sl ([.ref (ar 0), .long vw]) ++ List.replicate (3 - (lg_sl ([.ref (ar 0), .long vw])).length) Slot.unset).toArray = ls at hl ⊢
  have hl : lv_has ls 3 [(0, .ref (ar 0)), (1, .long vw)] := hl
  clear hI
  have hL : LQ [7, 9] sl sl := LQ.rf
  refine lv_lload_n hx hb dX12_writeWord_0 rfl (lv_at hl 1 rfl) ?_
  refine lv_ldc2 (v := 27) hx hb hown (hts _ mm_X12_writeWord_1) dX12_writeWord_1 ?_
  refine W.lcmp hx hb dX12_writeWord_4 ?_
  refine lv_topi (fun z1 ez1 => ?_)
  refine lv_if_lt (tgt := 17) hx hb dX12_writeWord_5 (by decide) (fun c1 => ?_) (fun c1 => ?_)
  · refine lv_aload_n hx hb dX12_writeWord_17 rfl (lv_at hl 0 rfl) ?_
    refine lv_bipush (v := 96) hx hb dX12_writeWord_18 (by decide) ?_
    refine lv_lload_n hx hb dX12_writeWord_20 rfl (lv_at hl 1 rfl) ?_
    refine lv_ldc2 (v := 27) hx hb hown (hts _ mm_X12_writeWord_1) dX12_writeWord_21 ?_
    refine lv_lrem hx hb dX12_writeWord_24 (by decide) ?_
    refine lv_topl (fun z2 ez2 => ?_)
    clear ez2
    refine lv_l2i hx hb dX12_writeWord_25 rfl ?_
    refine lv_topi (fun z3 ez3 => ?_)
    clear ez3
    refine lv_iadd hx hb dX12_writeWord_26 ?_
    refine lv_topi (fun z4 ez4 => ?_)
    refine va_callv (va_runV (As := [.int z4]) (rest := []) ⟨hx, hb, hml, hown, hts⟩ (m_write l dC dI ar cy _ hN st sl z4 gt  hG.1 (by rw [h37]) (by omega)) (cwV 1 hts gX12_writeWord_X12_write rfl rfl rfl (by decide +kernel) ⟨Nat.le_of_ble_eq_true rfl, Nat.le_of_ble_eq_true rfl⟩) ⟨fun a U g mk q => ⟨q.1, mPre.blind q.2⟩, va_recv hK hP (ci := 11) (q0 := 0) rfl rfl, fun U hU hW => ⟨rfl, mPre.of hP hK hU hW⟩⟩ rfl rfl hl.1 rfl (lv_room (Nat.le_of_ble_eq_true rfl)) dX12_writeWord_27 ⟨Nat.le_of_ble_eq_true rfl, Nat.le_of_ble_eq_true rfl⟩) hS (fun q _ h => MA.le hS.1 q h) (MA.le hS.1) (fun x t H locs ht hvm hw hB _ _ hS => ?_)
    have hP := mB.at ht hB
    clear hB ht hvm
    obtain ⟨st6, sl7⟩ := x
    obtain ⟨hG2, hL2, hw⟩ := hw
    have hL : LQ [7, 9] sl sl7 := hL.tr hL2 (by decide)
    clear hL2
    dsimp only at hw
    have hP : va_P (dC, dI) vwCl (mw ar cy st6 sl7) _ := hP
    have hG : MG [1, 2, 3, 4, 5, 6, 7, 8, 9, 10, 11, 12, 13, 14, 16, 17, 19, 20, 21, 22, 23] st st6 := hG.tr hG2 (by decide)
    have hGst6 : MG [1, 2, 3, 4, 5, 6, 7, 8, 9, 10, 11, 12, 13, 14, 16, 17, 19, 20, 21, 22, 23] st st6 := hG2
    clear hG2
    have hf8 := hw
    exact W.vret hx hb hr (fun t ht hW => ⟨⟨(st6, sl7), rfl, ⟨hG, hL, ⟨(gt + 1), by show st6 0 37 = (nI (gt + 1)); rw [hf8], by omega⟩⟩, mB.of ht hP⟩, hS.F ht⟩) hS.2.2 dX12_writeWord_30
  · refine lv_aload_n hx hb dX12_writeWord_8 rfl (lv_at hl 0 rfl) ?_
    refine lv_lload_n hx hb dX12_writeWord_9 rfl (lv_at hl 1 rfl) ?_
    refine lv_ldc2 (v := 27) hx hb hown (hts _ mm_X12_writeWord_1) dX12_writeWord_10 ?_
    refine lv_ldiv hx hb dX12_writeWord_13 (by decide) ?_
    refine lv_topl (fun z9 ez9 => ?_)
    refine va_callv (va_runV (As := [.long z9]) (rest := []) ⟨hx, hb, hml, hown, hts⟩ (m_writeWord5 l dC dI ar cy _ hN st sl z9 gt  hG.1 (by rw [h37]) (by omega) (by rw [ez9]; exact Int64.lt_iff_toInt_lt.mp (zz_div27 (A := 387420489) (by have h5 := Int64.toInt_lt vw; show vw.toInt < 27 * 387420489; omega) (by decide)))) (cwV 1 hts gX12_writeWord_X12_writeWord rfl rfl rfl (by decide +kernel) ⟨Nat.le_of_ble_eq_true rfl, Nat.le_of_ble_eq_true rfl⟩) ⟨fun a U g mk q => ⟨q.1, mPre.blind q.2⟩, va_recv hK hP (ci := 11) (q0 := 0) rfl rfl, fun U hU hW => ⟨rfl, mPre.of hP hK hU hW⟩⟩ rfl rfl hl.1 rfl (lv_room (Nat.le_of_ble_eq_true rfl)) dX12_writeWord_14 ⟨Nat.le_of_ble_eq_true rfl, Nat.le_of_ble_eq_true rfl⟩) hS (fun q _ h => MA.le hS.1 q h) (MA.le hS.1) (fun x t H locs ht hvm hw hB _ _ hS => ?_)
    have hP := mB.at ht hB
    clear hB ht hvm
    obtain ⟨st11, sl12⟩ := x
    obtain ⟨hG2, hL2, hw⟩ := hw
    have hL : LQ [7, 9] sl sl12 := hL.tr hL2 (by decide)
    clear hL2
    dsimp only at hw
    have hP : va_P (dC, dI) vwCl (mw ar cy st11 sl12) _ := hP
    have hG : MG [1, 2, 3, 4, 5, 6, 7, 8, 9, 10, 11, 12, 13, 14, 16, 17, 19, 20, 21, 22, 23] st st11 := hG.tr hG2 (by decide)
    have hGst11 : MG [1, 2, 3, 4, 5, 6, 7, 8, 9, 10, 11, 12, 13, 14, 16, 17, 19, 20, 21, 22, 23] st st11 := hG2
    clear hG2
    obtain ⟨n13, hf14, hf15⟩ := hw
    refine lv_aload_n hx hb dX12_writeWord_17 rfl (lv_at hl 0 rfl) ?_
    refine lv_bipush (v := 96) hx hb dX12_writeWord_18 (by decide) ?_
    refine lv_lload_n hx hb dX12_writeWord_20 rfl (lv_at hl 1 rfl) ?_
    refine lv_ldc2 (v := 27) hx hb hown (hts _ mm_X12_writeWord_1) dX12_writeWord_21 ?_
    refine lv_lrem hx hb dX12_writeWord_24 (by decide) ?_
    refine lv_topl (fun z16 ez16 => ?_)
    clear ez16
    refine lv_l2i hx hb dX12_writeWord_25 rfl ?_
    refine lv_topi (fun z17 ez17 => ?_)
    clear ez17
    refine lv_iadd hx hb dX12_writeWord_26 ?_
    refine lv_topi (fun z18 ez18 => ?_)
    refine va_callv (va_runV (As := [.int z18]) (rest := []) ⟨hx, hb, hml, hown, hts⟩ (m_write l dC dI ar cy _ hN st11 sl12 z18 n13  hG.1 (by rw [hf14]) (by omega)) (cwV 1 hts gX12_writeWord_X12_write rfl rfl rfl (by decide +kernel) ⟨Nat.le_of_ble_eq_true rfl, Nat.le_of_ble_eq_true rfl⟩) ⟨fun a U g mk q => ⟨q.1, mPre.blind q.2⟩, va_recv hK hP (ci := 11) (q0 := 0) rfl rfl, fun U hU hW => ⟨rfl, mPre.of hP hK hU hW⟩⟩ rfl rfl hl.1 rfl (lv_room (Nat.le_of_ble_eq_true rfl)) dX12_writeWord_27 ⟨Nat.le_of_ble_eq_true rfl, Nat.le_of_ble_eq_true rfl⟩) hS (fun q _ h => MA.le hS.1 q h) (MA.le hS.1) (fun x t H locs ht hvm hw hB _ _ hS => ?_)
    have hP := mB.at ht hB
    clear hB ht hvm
    obtain ⟨st20, sl21⟩ := x
    obtain ⟨hG2, hL2, hw⟩ := hw
    have hL : LQ [7, 9] sl sl21 := hL.tr hL2 (by decide)
    clear hL2
    dsimp only at hw
    have hP : va_P (dC, dI) vwCl (mw ar cy st20 sl21) _ := hP
    have hG : MG [1, 2, 3, 4, 5, 6, 7, 8, 9, 10, 11, 12, 13, 14, 16, 17, 19, 20, 21, 22, 23] st st20 := hG.tr hG2 (by decide)
    have hGst20 : MG [1, 2, 3, 4, 5, 6, 7, 8, 9, 10, 11, 12, 13, 14, 16, 17, 19, 20, 21, 22, 23] st11 st20 := hG2
    clear hG2
    have hf22 := hw
    exact W.vret hx hb hr (fun t ht hW => ⟨⟨(st20, sl21), rfl, ⟨hG, hL, ⟨(n13 + 1), by show st20 0 37 = (nI (n13 + 1)); rw [hf22], by omega⟩⟩, mB.of ht hP⟩, hS.F ht⟩) hS.2.2 dX12_writeWord_30
set_option maxHeartbeats 4000000 in
set_option maxRecDepth 100000 in
theorem m_writeWord7 (l : Launch) (dC : Nat → ClassId) (dI : Nat → Nat → Nat) (ar : Nat → Nat) (cy : Nat → ClassId) (sz : Nat) (hN : MN ar) (st : Nat → Nat → Int32) (sl : Nat → Nat → Int64) (vw : Int64) (gt : Nat) (hI : MI st) (h37 : st 0 37 = nI gt) (h37b : gt + 8 ≤ 64) (hw9 : vw.toInt < 282429536481) : Met l yX12_writeWord wsX12_writeWord ({ frames := 8, cells := 0, slots := 0, locals := 175 }) (va_Pc [.ref (ar 0), .long vw] (mPre dC dI ar cy sz st sl)) (va_Qv (fun (x : MT) => MG [1, 2, 3, 4, 5, 6, 7, 8, 9, 10, 11, 12, 13, 14, 16, 17, 19, 20, 21, 22, 23] st x.1 ∧ LQ [7, 9] sl x.2 ∧ (∃ n : Nat, x.1 0 37 = nI n ∧ n ≤ gt + 8)) (mB dC dI ar cy) (MA ar sz)) 0 0 (MA ar sz) := by
  refine Met.ofW (cc := cX12_writeWord) (maxL := 3) (ret := none) (by decide) rfl ?_
  intro p e s m args below meth c s₁ B hml hv
  obtain ⟨rfl, hsz, hP, hK⟩ := hv
  have hx := B.exec
  have hb := B.bytes
  have hr := B.returns
  have hts := atoms_spec (ws := wsX12_writeWord) B.pre
  have hown : s.vm.findClass RX12 = some m.cls := findClass_of_methodNamed B.named
  subst hsz
  have hS : va_S (MA ar s.heap.size) s.heap s.heap [] := va_S.rf
  have hG : MG [1, 2, 3, 4, 5, 6, 7, 8, 9, 10, 11, 12, 13, 14, 16, 17, 19, 20, 21, 22, 23] st st := MG.rf hI
  have hl := lv_entry ([.ref (ar 0), .long vw]) (n := 3) (Nat.le_of_ble_eq_true rfl)
  rw [lg_entry_eq]
  generalize (lg_sl ([.ref (ar 0), .long vw]) ++ List.replicate (3 - (lg_sl ([.ref (ar 0), .long vw])).length) Slot.unset).toArray = ls at hl ⊢
  have hl : lv_has ls 3 [(0, .ref (ar 0)), (1, .long vw)] := hl
  clear hI
  have hL : LQ [7, 9] sl sl := LQ.rf
  refine lv_lload_n hx hb dX12_writeWord_0 rfl (lv_at hl 1 rfl) ?_
  refine lv_ldc2 (v := 27) hx hb hown (hts _ mm_X12_writeWord_1) dX12_writeWord_1 ?_
  refine W.lcmp hx hb dX12_writeWord_4 ?_
  refine lv_topi (fun z1 ez1 => ?_)
  refine lv_if_lt (tgt := 17) hx hb dX12_writeWord_5 (by decide) (fun c1 => ?_) (fun c1 => ?_)
  · refine lv_aload_n hx hb dX12_writeWord_17 rfl (lv_at hl 0 rfl) ?_
    refine lv_bipush (v := 96) hx hb dX12_writeWord_18 (by decide) ?_
    refine lv_lload_n hx hb dX12_writeWord_20 rfl (lv_at hl 1 rfl) ?_
    refine lv_ldc2 (v := 27) hx hb hown (hts _ mm_X12_writeWord_1) dX12_writeWord_21 ?_
    refine lv_lrem hx hb dX12_writeWord_24 (by decide) ?_
    refine lv_topl (fun z2 ez2 => ?_)
    clear ez2
    refine lv_l2i hx hb dX12_writeWord_25 rfl ?_
    refine lv_topi (fun z3 ez3 => ?_)
    clear ez3
    refine lv_iadd hx hb dX12_writeWord_26 ?_
    refine lv_topi (fun z4 ez4 => ?_)
    refine va_callv (va_runV (As := [.int z4]) (rest := []) ⟨hx, hb, hml, hown, hts⟩ (m_write l dC dI ar cy _ hN st sl z4 gt  hG.1 (by rw [h37]) (by omega)) (cwV 1 hts gX12_writeWord_X12_write rfl rfl rfl (by decide +kernel) ⟨Nat.le_of_ble_eq_true rfl, Nat.le_of_ble_eq_true rfl⟩) ⟨fun a U g mk q => ⟨q.1, mPre.blind q.2⟩, va_recv hK hP (ci := 11) (q0 := 0) rfl rfl, fun U hU hW => ⟨rfl, mPre.of hP hK hU hW⟩⟩ rfl rfl hl.1 rfl (lv_room (Nat.le_of_ble_eq_true rfl)) dX12_writeWord_27 ⟨Nat.le_of_ble_eq_true rfl, Nat.le_of_ble_eq_true rfl⟩) hS (fun q _ h => MA.le hS.1 q h) (MA.le hS.1) (fun x t H locs ht hvm hw hB _ _ hS => ?_)
    have hP := mB.at ht hB
    clear hB ht hvm
    obtain ⟨st6, sl7⟩ := x
    obtain ⟨hG2, hL2, hw⟩ := hw
    have hL : LQ [7, 9] sl sl7 := hL.tr hL2 (by decide)
    clear hL2
    dsimp only at hw
    have hP : va_P (dC, dI) vwCl (mw ar cy st6 sl7) _ := hP
    have hG : MG [1, 2, 3, 4, 5, 6, 7, 8, 9, 10, 11, 12, 13, 14, 16, 17, 19, 20, 21, 22, 23] st st6 := hG.tr hG2 (by decide)
    have hGst6 : MG [1, 2, 3, 4, 5, 6, 7, 8, 9, 10, 11, 12, 13, 14, 16, 17, 19, 20, 21, 22, 23] st st6 := hG2
    clear hG2
    have hf8 := hw
    exact W.vret hx hb hr (fun t ht hW => ⟨⟨(st6, sl7), rfl, ⟨hG, hL, ⟨(gt + 1), by show st6 0 37 = (nI (gt + 1)); rw [hf8], by omega⟩⟩, mB.of ht hP⟩, hS.F ht⟩) hS.2.2 dX12_writeWord_30
  · refine lv_aload_n hx hb dX12_writeWord_8 rfl (lv_at hl 0 rfl) ?_
    refine lv_lload_n hx hb dX12_writeWord_9 rfl (lv_at hl 1 rfl) ?_
    refine lv_ldc2 (v := 27) hx hb hown (hts _ mm_X12_writeWord_1) dX12_writeWord_10 ?_
    refine lv_ldiv hx hb dX12_writeWord_13 (by decide) ?_
    refine lv_topl (fun z9 ez9 => ?_)
    refine va_callv (va_runV (As := [.long z9]) (rest := []) ⟨hx, hb, hml, hown, hts⟩ (m_writeWord6 l dC dI ar cy _ hN st sl z9 gt  hG.1 (by rw [h37]) (by omega) (by rw [ez9]; exact Int64.lt_iff_toInt_lt.mp (zz_div27 (A := 10460353203) (by have h5 := Int64.toInt_lt vw; show vw.toInt < 27 * 10460353203; omega) (by decide)))) (cwV 1 hts gX12_writeWord_X12_writeWord rfl rfl rfl (by decide +kernel) ⟨Nat.le_of_ble_eq_true rfl, Nat.le_of_ble_eq_true rfl⟩) ⟨fun a U g mk q => ⟨q.1, mPre.blind q.2⟩, va_recv hK hP (ci := 11) (q0 := 0) rfl rfl, fun U hU hW => ⟨rfl, mPre.of hP hK hU hW⟩⟩ rfl rfl hl.1 rfl (lv_room (Nat.le_of_ble_eq_true rfl)) dX12_writeWord_14 ⟨Nat.le_of_ble_eq_true rfl, Nat.le_of_ble_eq_true rfl⟩) hS (fun q _ h => MA.le hS.1 q h) (MA.le hS.1) (fun x t H locs ht hvm hw hB _ _ hS => ?_)
    have hP := mB.at ht hB
    clear hB ht hvm
    obtain ⟨st11, sl12⟩ := x
    obtain ⟨hG2, hL2, hw⟩ := hw
    have hL : LQ [7, 9] sl sl12 := hL.tr hL2 (by decide)
    clear hL2
    dsimp only at hw
    have hP : va_P (dC, dI) vwCl (mw ar cy st11 sl12) _ := hP
    have hG : MG [1, 2, 3, 4, 5, 6, 7, 8, 9, 10, 11, 12, 13, 14, 16, 17, 19, 20, 21, 22, 23] st st11 := hG.tr hG2 (by decide)
    have hGst11 : MG [1, 2, 3, 4, 5, 6, 7, 8, 9, 10, 11, 12, 13, 14, 16, 17, 19, 20, 21, 22, 23] st st11 := hG2
    clear hG2
    obtain ⟨n13, hf14, hf15⟩ := hw
    refine lv_aload_n hx hb dX12_writeWord_17 rfl (lv_at hl 0 rfl) ?_
    refine lv_bipush (v := 96) hx hb dX12_writeWord_18 (by decide) ?_
    refine lv_lload_n hx hb dX12_writeWord_20 rfl (lv_at hl 1 rfl) ?_
    refine lv_ldc2 (v := 27) hx hb hown (hts _ mm_X12_writeWord_1) dX12_writeWord_21 ?_
    refine lv_lrem hx hb dX12_writeWord_24 (by decide) ?_
    refine lv_topl (fun z16 ez16 => ?_)
    clear ez16
    refine lv_l2i hx hb dX12_writeWord_25 rfl ?_
    refine lv_topi (fun z17 ez17 => ?_)
    clear ez17
    refine lv_iadd hx hb dX12_writeWord_26 ?_
    refine lv_topi (fun z18 ez18 => ?_)
    refine va_callv (va_runV (As := [.int z18]) (rest := []) ⟨hx, hb, hml, hown, hts⟩ (m_write l dC dI ar cy _ hN st11 sl12 z18 n13  hG.1 (by rw [hf14]) (by omega)) (cwV 1 hts gX12_writeWord_X12_write rfl rfl rfl (by decide +kernel) ⟨Nat.le_of_ble_eq_true rfl, Nat.le_of_ble_eq_true rfl⟩) ⟨fun a U g mk q => ⟨q.1, mPre.blind q.2⟩, va_recv hK hP (ci := 11) (q0 := 0) rfl rfl, fun U hU hW => ⟨rfl, mPre.of hP hK hU hW⟩⟩ rfl rfl hl.1 rfl (lv_room (Nat.le_of_ble_eq_true rfl)) dX12_writeWord_27 ⟨Nat.le_of_ble_eq_true rfl, Nat.le_of_ble_eq_true rfl⟩) hS (fun q _ h => MA.le hS.1 q h) (MA.le hS.1) (fun x t H locs ht hvm hw hB _ _ hS => ?_)
    have hP := mB.at ht hB
    clear hB ht hvm
    obtain ⟨st20, sl21⟩ := x
    obtain ⟨hG2, hL2, hw⟩ := hw
    have hL : LQ [7, 9] sl sl21 := hL.tr hL2 (by decide)
    clear hL2
    dsimp only at hw
    have hP : va_P (dC, dI) vwCl (mw ar cy st20 sl21) _ := hP
    have hG : MG [1, 2, 3, 4, 5, 6, 7, 8, 9, 10, 11, 12, 13, 14, 16, 17, 19, 20, 21, 22, 23] st st20 := hG.tr hG2 (by decide)
    have hGst20 : MG [1, 2, 3, 4, 5, 6, 7, 8, 9, 10, 11, 12, 13, 14, 16, 17, 19, 20, 21, 22, 23] st11 st20 := hG2
    clear hG2
    have hf22 := hw
    exact W.vret hx hb hr (fun t ht hW => ⟨⟨(st20, sl21), rfl, ⟨hG, hL, ⟨(n13 + 1), by show st20 0 37 = (nI (n13 + 1)); rw [hf22], by omega⟩⟩, mB.of ht hP⟩, hS.F ht⟩) hS.2.2 dX12_writeWord_30
set_option maxHeartbeats 4000000 in
set_option maxRecDepth 100000 in
theorem m_writeWord8 (l : Launch) (dC : Nat → ClassId) (dI : Nat → Nat → Nat) (ar : Nat → Nat) (cy : Nat → ClassId) (sz : Nat) (hN : MN ar) (st : Nat → Nat → Int32) (sl : Nat → Nat → Int64) (vw : Int64) (gt : Nat) (hI : MI st) (h37 : st 0 37 = nI gt) (h37b : gt + 9 ≤ 64) (hw9 : vw.toInt < 7625597484987) : Met l yX12_writeWord wsX12_writeWord ({ frames := 9, cells := 0, slots := 0, locals := 197 }) (va_Pc [.ref (ar 0), .long vw] (mPre dC dI ar cy sz st sl)) (va_Qv (fun (x : MT) => MG [1, 2, 3, 4, 5, 6, 7, 8, 9, 10, 11, 12, 13, 14, 16, 17, 19, 20, 21, 22, 23] st x.1 ∧ LQ [7, 9] sl x.2 ∧ (∃ n : Nat, x.1 0 37 = nI n ∧ n ≤ gt + 9)) (mB dC dI ar cy) (MA ar sz)) 0 0 (MA ar sz) := by
  refine Met.ofW (cc := cX12_writeWord) (maxL := 3) (ret := none) (by decide) rfl ?_
  intro p e s m args below meth c s₁ B hml hv
  obtain ⟨rfl, hsz, hP, hK⟩ := hv
  have hx := B.exec
  have hb := B.bytes
  have hr := B.returns
  have hts := atoms_spec (ws := wsX12_writeWord) B.pre
  have hown : s.vm.findClass RX12 = some m.cls := findClass_of_methodNamed B.named
  subst hsz
  have hS : va_S (MA ar s.heap.size) s.heap s.heap [] := va_S.rf
  have hG : MG [1, 2, 3, 4, 5, 6, 7, 8, 9, 10, 11, 12, 13, 14, 16, 17, 19, 20, 21, 22, 23] st st := MG.rf hI
  have hl := lv_entry ([.ref (ar 0), .long vw]) (n := 3) (Nat.le_of_ble_eq_true rfl)
  rw [lg_entry_eq]
  generalize (lg_sl ([.ref (ar 0), .long vw]) ++ List.replicate (3 - (lg_sl ([.ref (ar 0), .long vw])).length) Slot.unset).toArray = ls at hl ⊢
  have hl : lv_has ls 3 [(0, .ref (ar 0)), (1, .long vw)] := hl
  clear hI
  have hL : LQ [7, 9] sl sl := LQ.rf
  refine lv_lload_n hx hb dX12_writeWord_0 rfl (lv_at hl 1 rfl) ?_
  refine lv_ldc2 (v := 27) hx hb hown (hts _ mm_X12_writeWord_1) dX12_writeWord_1 ?_
  refine W.lcmp hx hb dX12_writeWord_4 ?_
  refine lv_topi (fun z1 ez1 => ?_)
  refine lv_if_lt (tgt := 17) hx hb dX12_writeWord_5 (by decide) (fun c1 => ?_) (fun c1 => ?_)
  · refine lv_aload_n hx hb dX12_writeWord_17 rfl (lv_at hl 0 rfl) ?_
    refine lv_bipush (v := 96) hx hb dX12_writeWord_18 (by decide) ?_
    refine lv_lload_n hx hb dX12_writeWord_20 rfl (lv_at hl 1 rfl) ?_
    refine lv_ldc2 (v := 27) hx hb hown (hts _ mm_X12_writeWord_1) dX12_writeWord_21 ?_
    refine lv_lrem hx hb dX12_writeWord_24 (by decide) ?_
    refine lv_topl (fun z2 ez2 => ?_)
    clear ez2
    refine lv_l2i hx hb dX12_writeWord_25 rfl ?_
    refine lv_topi (fun z3 ez3 => ?_)
    clear ez3
    refine lv_iadd hx hb dX12_writeWord_26 ?_
    refine lv_topi (fun z4 ez4 => ?_)
    refine va_callv (va_runV (As := [.int z4]) (rest := []) ⟨hx, hb, hml, hown, hts⟩ (m_write l dC dI ar cy _ hN st sl z4 gt  hG.1 (by rw [h37]) (by omega)) (cwV 1 hts gX12_writeWord_X12_write rfl rfl rfl (by decide +kernel) ⟨Nat.le_of_ble_eq_true rfl, Nat.le_of_ble_eq_true rfl⟩) ⟨fun a U g mk q => ⟨q.1, mPre.blind q.2⟩, va_recv hK hP (ci := 11) (q0 := 0) rfl rfl, fun U hU hW => ⟨rfl, mPre.of hP hK hU hW⟩⟩ rfl rfl hl.1 rfl (lv_room (Nat.le_of_ble_eq_true rfl)) dX12_writeWord_27 ⟨Nat.le_of_ble_eq_true rfl, Nat.le_of_ble_eq_true rfl⟩) hS (fun q _ h => MA.le hS.1 q h) (MA.le hS.1) (fun x t H locs ht hvm hw hB _ _ hS => ?_)
    have hP := mB.at ht hB
    clear hB ht hvm
    obtain ⟨st6, sl7⟩ := x
    obtain ⟨hG2, hL2, hw⟩ := hw
    have hL : LQ [7, 9] sl sl7 := hL.tr hL2 (by decide)
    clear hL2
    dsimp only at hw
    have hP : va_P (dC, dI) vwCl (mw ar cy st6 sl7) _ := hP
    have hG : MG [1, 2, 3, 4, 5, 6, 7, 8, 9, 10, 11, 12, 13, 14, 16, 17, 19, 20, 21, 22, 23] st st6 := hG.tr hG2 (by decide)
    have hGst6 : MG [1, 2, 3, 4, 5, 6, 7, 8, 9, 10, 11, 12, 13, 14, 16, 17, 19, 20, 21, 22, 23] st st6 := hG2
    clear hG2
    have hf8 := hw
    exact W.vret hx hb hr (fun t ht hW => ⟨⟨(st6, sl7), rfl, ⟨hG, hL, ⟨(gt + 1), by show st6 0 37 = (nI (gt + 1)); rw [hf8], by omega⟩⟩, mB.of ht hP⟩, hS.F ht⟩) hS.2.2 dX12_writeWord_30
  · refine lv_aload_n hx hb dX12_writeWord_8 rfl (lv_at hl 0 rfl) ?_
    refine lv_lload_n hx hb dX12_writeWord_9 rfl (lv_at hl 1 rfl) ?_
    refine lv_ldc2 (v := 27) hx hb hown (hts _ mm_X12_writeWord_1) dX12_writeWord_10 ?_
    refine lv_ldiv hx hb dX12_writeWord_13 (by decide) ?_
    refine lv_topl (fun z9 ez9 => ?_)
    refine va_callv (va_runV (As := [.long z9]) (rest := []) ⟨hx, hb, hml, hown, hts⟩ (m_writeWord7 l dC dI ar cy _ hN st sl z9 gt  hG.1 (by rw [h37]) (by omega) (by rw [ez9]; exact Int64.lt_iff_toInt_lt.mp (zz_div27 (A := 282429536481) (by have h5 := Int64.toInt_lt vw; show vw.toInt < 27 * 282429536481; omega) (by decide)))) (cwV 1 hts gX12_writeWord_X12_writeWord rfl rfl rfl (by decide +kernel) ⟨Nat.le_of_ble_eq_true rfl, Nat.le_of_ble_eq_true rfl⟩) ⟨fun a U g mk q => ⟨q.1, mPre.blind q.2⟩, va_recv hK hP (ci := 11) (q0 := 0) rfl rfl, fun U hU hW => ⟨rfl, mPre.of hP hK hU hW⟩⟩ rfl rfl hl.1 rfl (lv_room (Nat.le_of_ble_eq_true rfl)) dX12_writeWord_14 ⟨Nat.le_of_ble_eq_true rfl, Nat.le_of_ble_eq_true rfl⟩) hS (fun q _ h => MA.le hS.1 q h) (MA.le hS.1) (fun x t H locs ht hvm hw hB _ _ hS => ?_)
    have hP := mB.at ht hB
    clear hB ht hvm
    obtain ⟨st11, sl12⟩ := x
    obtain ⟨hG2, hL2, hw⟩ := hw
    have hL : LQ [7, 9] sl sl12 := hL.tr hL2 (by decide)
    clear hL2
    dsimp only at hw
    have hP : va_P (dC, dI) vwCl (mw ar cy st11 sl12) _ := hP
    have hG : MG [1, 2, 3, 4, 5, 6, 7, 8, 9, 10, 11, 12, 13, 14, 16, 17, 19, 20, 21, 22, 23] st st11 := hG.tr hG2 (by decide)
    have hGst11 : MG [1, 2, 3, 4, 5, 6, 7, 8, 9, 10, 11, 12, 13, 14, 16, 17, 19, 20, 21, 22, 23] st st11 := hG2
    clear hG2
    obtain ⟨n13, hf14, hf15⟩ := hw
    refine lv_aload_n hx hb dX12_writeWord_17 rfl (lv_at hl 0 rfl) ?_
    refine lv_bipush (v := 96) hx hb dX12_writeWord_18 (by decide) ?_
    refine lv_lload_n hx hb dX12_writeWord_20 rfl (lv_at hl 1 rfl) ?_
    refine lv_ldc2 (v := 27) hx hb hown (hts _ mm_X12_writeWord_1) dX12_writeWord_21 ?_
    refine lv_lrem hx hb dX12_writeWord_24 (by decide) ?_
    refine lv_topl (fun z16 ez16 => ?_)
    clear ez16
    refine lv_l2i hx hb dX12_writeWord_25 rfl ?_
    refine lv_topi (fun z17 ez17 => ?_)
    clear ez17
    refine lv_iadd hx hb dX12_writeWord_26 ?_
    refine lv_topi (fun z18 ez18 => ?_)
    refine va_callv (va_runV (As := [.int z18]) (rest := []) ⟨hx, hb, hml, hown, hts⟩ (m_write l dC dI ar cy _ hN st11 sl12 z18 n13  hG.1 (by rw [hf14]) (by omega)) (cwV 1 hts gX12_writeWord_X12_write rfl rfl rfl (by decide +kernel) ⟨Nat.le_of_ble_eq_true rfl, Nat.le_of_ble_eq_true rfl⟩) ⟨fun a U g mk q => ⟨q.1, mPre.blind q.2⟩, va_recv hK hP (ci := 11) (q0 := 0) rfl rfl, fun U hU hW => ⟨rfl, mPre.of hP hK hU hW⟩⟩ rfl rfl hl.1 rfl (lv_room (Nat.le_of_ble_eq_true rfl)) dX12_writeWord_27 ⟨Nat.le_of_ble_eq_true rfl, Nat.le_of_ble_eq_true rfl⟩) hS (fun q _ h => MA.le hS.1 q h) (MA.le hS.1) (fun x t H locs ht hvm hw hB _ _ hS => ?_)
    have hP := mB.at ht hB
    clear hB ht hvm
    obtain ⟨st20, sl21⟩ := x
    obtain ⟨hG2, hL2, hw⟩ := hw
    have hL : LQ [7, 9] sl sl21 := hL.tr hL2 (by decide)
    clear hL2
    dsimp only at hw
    have hP : va_P (dC, dI) vwCl (mw ar cy st20 sl21) _ := hP
    have hG : MG [1, 2, 3, 4, 5, 6, 7, 8, 9, 10, 11, 12, 13, 14, 16, 17, 19, 20, 21, 22, 23] st st20 := hG.tr hG2 (by decide)
    have hGst20 : MG [1, 2, 3, 4, 5, 6, 7, 8, 9, 10, 11, 12, 13, 14, 16, 17, 19, 20, 21, 22, 23] st11 st20 := hG2
    clear hG2
    have hf22 := hw
    exact W.vret hx hb hr (fun t ht hW => ⟨⟨(st20, sl21), rfl, ⟨hG, hL, ⟨(n13 + 1), by show st20 0 37 = (nI (n13 + 1)); rw [hf22], by omega⟩⟩, mB.of ht hP⟩, hS.F ht⟩) hS.2.2 dX12_writeWord_30
set_option maxHeartbeats 4000000 in
set_option maxRecDepth 100000 in
theorem m_writeWord9 (l : Launch) (dC : Nat → ClassId) (dI : Nat → Nat → Nat) (ar : Nat → Nat) (cy : Nat → ClassId) (sz : Nat) (hN : MN ar) (st : Nat → Nat → Int32) (sl : Nat → Nat → Int64) (vw : Int64) (gt : Nat) (hI : MI st) (h37 : st 0 37 = nI gt) (h37b : gt + 10 ≤ 64) (hw9 : vw.toInt < 205891132094649) : Met l yX12_writeWord wsX12_writeWord ({ frames := 10, cells := 0, slots := 0, locals := 219 }) (va_Pc [.ref (ar 0), .long vw] (mPre dC dI ar cy sz st sl)) (va_Qv (fun (x : MT) => MG [1, 2, 3, 4, 5, 6, 7, 8, 9, 10, 11, 12, 13, 14, 16, 17, 19, 20, 21, 22, 23] st x.1 ∧ LQ [7, 9] sl x.2 ∧ (∃ n : Nat, x.1 0 37 = nI n ∧ n ≤ gt + 10)) (mB dC dI ar cy) (MA ar sz)) 0 0 (MA ar sz) := by
  refine Met.ofW (cc := cX12_writeWord) (maxL := 3) (ret := none) (by decide) rfl ?_
  intro p e s m args below meth c s₁ B hml hv
  obtain ⟨rfl, hsz, hP, hK⟩ := hv
  have hx := B.exec
  have hb := B.bytes
  have hr := B.returns
  have hts := atoms_spec (ws := wsX12_writeWord) B.pre
  have hown : s.vm.findClass RX12 = some m.cls := findClass_of_methodNamed B.named
  subst hsz
  have hS : va_S (MA ar s.heap.size) s.heap s.heap [] := va_S.rf
  have hG : MG [1, 2, 3, 4, 5, 6, 7, 8, 9, 10, 11, 12, 13, 14, 16, 17, 19, 20, 21, 22, 23] st st := MG.rf hI
  have hl := lv_entry ([.ref (ar 0), .long vw]) (n := 3) (Nat.le_of_ble_eq_true rfl)
  rw [lg_entry_eq]
  generalize (lg_sl ([.ref (ar 0), .long vw]) ++ List.replicate (3 - (lg_sl ([.ref (ar 0), .long vw])).length) Slot.unset).toArray = ls at hl ⊢
  have hl : lv_has ls 3 [(0, .ref (ar 0)), (1, .long vw)] := hl
  clear hI
  have hL : LQ [7, 9] sl sl := LQ.rf
  refine lv_lload_n hx hb dX12_writeWord_0 rfl (lv_at hl 1 rfl) ?_
  refine lv_ldc2 (v := 27) hx hb hown (hts _ mm_X12_writeWord_1) dX12_writeWord_1 ?_
  refine W.lcmp hx hb dX12_writeWord_4 ?_
  refine lv_topi (fun z1 ez1 => ?_)
  refine lv_if_lt (tgt := 17) hx hb dX12_writeWord_5 (by decide) (fun c1 => ?_) (fun c1 => ?_)
  · refine lv_aload_n hx hb dX12_writeWord_17 rfl (lv_at hl 0 rfl) ?_
    refine lv_bipush (v := 96) hx hb dX12_writeWord_18 (by decide) ?_
    refine lv_lload_n hx hb dX12_writeWord_20 rfl (lv_at hl 1 rfl) ?_
    refine lv_ldc2 (v := 27) hx hb hown (hts _ mm_X12_writeWord_1) dX12_writeWord_21 ?_
    refine lv_lrem hx hb dX12_writeWord_24 (by decide) ?_
    refine lv_topl (fun z2 ez2 => ?_)
    clear ez2
    refine lv_l2i hx hb dX12_writeWord_25 rfl ?_
    refine lv_topi (fun z3 ez3 => ?_)
    clear ez3
    refine lv_iadd hx hb dX12_writeWord_26 ?_
    refine lv_topi (fun z4 ez4 => ?_)
    refine va_callv (va_runV (As := [.int z4]) (rest := []) ⟨hx, hb, hml, hown, hts⟩ (m_write l dC dI ar cy _ hN st sl z4 gt  hG.1 (by rw [h37]) (by omega)) (cwV 1 hts gX12_writeWord_X12_write rfl rfl rfl (by decide +kernel) ⟨Nat.le_of_ble_eq_true rfl, Nat.le_of_ble_eq_true rfl⟩) ⟨fun a U g mk q => ⟨q.1, mPre.blind q.2⟩, va_recv hK hP (ci := 11) (q0 := 0) rfl rfl, fun U hU hW => ⟨rfl, mPre.of hP hK hU hW⟩⟩ rfl rfl hl.1 rfl (lv_room (Nat.le_of_ble_eq_true rfl)) dX12_writeWord_27 ⟨Nat.le_of_ble_eq_true rfl, Nat.le_of_ble_eq_true rfl⟩) hS (fun q _ h => MA.le hS.1 q h) (MA.le hS.1) (fun x t H locs ht hvm hw hB _ _ hS => ?_)
    have hP := mB.at ht hB
    clear hB ht hvm
    obtain ⟨st6, sl7⟩ := x
    obtain ⟨hG2, hL2, hw⟩ := hw
    have hL : LQ [7, 9] sl sl7 := hL.tr hL2 (by decide)
    clear hL2
    dsimp only at hw
    have hP : va_P (dC, dI) vwCl (mw ar cy st6 sl7) _ := hP
    have hG : MG [1, 2, 3, 4, 5, 6, 7, 8, 9, 10, 11, 12, 13, 14, 16, 17, 19, 20, 21, 22, 23] st st6 := hG.tr hG2 (by decide)
    have hGst6 : MG [1, 2, 3, 4, 5, 6, 7, 8, 9, 10, 11, 12, 13, 14, 16, 17, 19, 20, 21, 22, 23] st st6 := hG2
    clear hG2
    have hf8 := hw
    exact W.vret hx hb hr (fun t ht hW => ⟨⟨(st6, sl7), rfl, ⟨hG, hL, ⟨(gt + 1), by show st6 0 37 = (nI (gt + 1)); rw [hf8], by omega⟩⟩, mB.of ht hP⟩, hS.F ht⟩) hS.2.2 dX12_writeWord_30
  · refine lv_aload_n hx hb dX12_writeWord_8 rfl (lv_at hl 0 rfl) ?_
    refine lv_lload_n hx hb dX12_writeWord_9 rfl (lv_at hl 1 rfl) ?_
    refine lv_ldc2 (v := 27) hx hb hown (hts _ mm_X12_writeWord_1) dX12_writeWord_10 ?_
    refine lv_ldiv hx hb dX12_writeWord_13 (by decide) ?_
    refine lv_topl (fun z9 ez9 => ?_)
    refine va_callv (va_runV (As := [.long z9]) (rest := []) ⟨hx, hb, hml, hown, hts⟩ (m_writeWord8 l dC dI ar cy _ hN st sl z9 gt  hG.1 (by rw [h37]) (by omega) (by rw [ez9]; exact Int64.lt_iff_toInt_lt.mp (zz_div27 (A := 7625597484987) (by have h5 := Int64.toInt_lt vw; show vw.toInt < 27 * 7625597484987; omega) (by decide)))) (cwV 1 hts gX12_writeWord_X12_writeWord rfl rfl rfl (by decide +kernel) ⟨Nat.le_of_ble_eq_true rfl, Nat.le_of_ble_eq_true rfl⟩) ⟨fun a U g mk q => ⟨q.1, mPre.blind q.2⟩, va_recv hK hP (ci := 11) (q0 := 0) rfl rfl, fun U hU hW => ⟨rfl, mPre.of hP hK hU hW⟩⟩ rfl rfl hl.1 rfl (lv_room (Nat.le_of_ble_eq_true rfl)) dX12_writeWord_14 ⟨Nat.le_of_ble_eq_true rfl, Nat.le_of_ble_eq_true rfl⟩) hS (fun q _ h => MA.le hS.1 q h) (MA.le hS.1) (fun x t H locs ht hvm hw hB _ _ hS => ?_)
    have hP := mB.at ht hB
    clear hB ht hvm
    obtain ⟨st11, sl12⟩ := x
    obtain ⟨hG2, hL2, hw⟩ := hw
    have hL : LQ [7, 9] sl sl12 := hL.tr hL2 (by decide)
    clear hL2
    dsimp only at hw
    have hP : va_P (dC, dI) vwCl (mw ar cy st11 sl12) _ := hP
    have hG : MG [1, 2, 3, 4, 5, 6, 7, 8, 9, 10, 11, 12, 13, 14, 16, 17, 19, 20, 21, 22, 23] st st11 := hG.tr hG2 (by decide)
    have hGst11 : MG [1, 2, 3, 4, 5, 6, 7, 8, 9, 10, 11, 12, 13, 14, 16, 17, 19, 20, 21, 22, 23] st st11 := hG2
    clear hG2
    obtain ⟨n13, hf14, hf15⟩ := hw
    refine lv_aload_n hx hb dX12_writeWord_17 rfl (lv_at hl 0 rfl) ?_
    refine lv_bipush (v := 96) hx hb dX12_writeWord_18 (by decide) ?_
    refine lv_lload_n hx hb dX12_writeWord_20 rfl (lv_at hl 1 rfl) ?_
    refine lv_ldc2 (v := 27) hx hb hown (hts _ mm_X12_writeWord_1) dX12_writeWord_21 ?_
    refine lv_lrem hx hb dX12_writeWord_24 (by decide) ?_
    refine lv_topl (fun z16 ez16 => ?_)
    clear ez16
    refine lv_l2i hx hb dX12_writeWord_25 rfl ?_
    refine lv_topi (fun z17 ez17 => ?_)
    clear ez17
    refine lv_iadd hx hb dX12_writeWord_26 ?_
    refine lv_topi (fun z18 ez18 => ?_)
    refine va_callv (va_runV (As := [.int z18]) (rest := []) ⟨hx, hb, hml, hown, hts⟩ (m_write l dC dI ar cy _ hN st11 sl12 z18 n13  hG.1 (by rw [hf14]) (by omega)) (cwV 1 hts gX12_writeWord_X12_write rfl rfl rfl (by decide +kernel) ⟨Nat.le_of_ble_eq_true rfl, Nat.le_of_ble_eq_true rfl⟩) ⟨fun a U g mk q => ⟨q.1, mPre.blind q.2⟩, va_recv hK hP (ci := 11) (q0 := 0) rfl rfl, fun U hU hW => ⟨rfl, mPre.of hP hK hU hW⟩⟩ rfl rfl hl.1 rfl (lv_room (Nat.le_of_ble_eq_true rfl)) dX12_writeWord_27 ⟨Nat.le_of_ble_eq_true rfl, Nat.le_of_ble_eq_true rfl⟩) hS (fun q _ h => MA.le hS.1 q h) (MA.le hS.1) (fun x t H locs ht hvm hw hB _ _ hS => ?_)
    have hP := mB.at ht hB
    clear hB ht hvm
    obtain ⟨st20, sl21⟩ := x
    obtain ⟨hG2, hL2, hw⟩ := hw
    have hL : LQ [7, 9] sl sl21 := hL.tr hL2 (by decide)
    clear hL2
    dsimp only at hw
    have hP : va_P (dC, dI) vwCl (mw ar cy st20 sl21) _ := hP
    have hG : MG [1, 2, 3, 4, 5, 6, 7, 8, 9, 10, 11, 12, 13, 14, 16, 17, 19, 20, 21, 22, 23] st st20 := hG.tr hG2 (by decide)
    have hGst20 : MG [1, 2, 3, 4, 5, 6, 7, 8, 9, 10, 11, 12, 13, 14, 16, 17, 19, 20, 21, 22, 23] st11 st20 := hG2
    clear hG2
    have hf22 := hw
    exact W.vret hx hb hr (fun t ht hW => ⟨⟨(st20, sl21), rfl, ⟨hG, hL, ⟨(n13 + 1), by show st20 0 37 = (nI (n13 + 1)); rw [hf22], by omega⟩⟩, mB.of ht hP⟩, hS.F ht⟩) hS.2.2 dX12_writeWord_30
