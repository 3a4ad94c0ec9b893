set_option maxHeartbeats 4000000 in
set_option maxRecDepth 100000 in
theorem m_readSaid_3 (l : Launch) (dC : Nat → ClassId) (dI : Nat → Nat → Nat) (ar : Nat → Nat) (cy : Nat → ClassId) (sz : Nat) (hN : MN ar) (st : Nat → Nat → Int32) (sl : Nat → Nat → Int64) (gn : Nat) (go : Nat) (ga gb : Nat) (hI : MI st) (hT : TS st ga gb) (h43 : st 0 43 = nI gn) (h44 : st 0 44 = nI go) (h45 : st 0 45 = 3) (hgn : gn ≤ 2 * go) (hgo : go ≤ 20) (hNK : NKm st) : Met l yX12_readSaid wsX12_readSaid ({ frames := 23, cells := 0, slots := 0, locals := 494 }) (va_Pc [.ref (ar 0)] (mPre dC dI ar cy sz st sl)) (va_Qi (fun (r : Int32) (x : MT) => MG [1, 2, 3, 6, 7, 13, 14, 15, 19, 20, 21, 22] st x.1 ∧ LQ [7, 9] sl x.2 ∧ ((∃ g : Nat, ∃ n1 : Nat, ∃ o1 : Nat, ∃ t1 : Nat, r = 1 ∧ TS x.1 g gb ∧ ga ≤ g ∧ x.1 0 43 = nI n1 ∧ x.1 0 44 = nI o1 ∧ x.1 0 45 = 3 ∧ x.1 0 46 = nI t1 ∧ t1 < n1 ∧ n1 + 2 * go + 1 ≤ gn + 2 * o1 ∧ go + 1 ≤ o1 ∧ o1 ≤ 20 ∧ gn ≤ n1 ∧ NKm x.1) ∨ (r = 0 ∧ x.1 0 45 = 3 ∧ NKm x.1))) (mB dC dI ar cy) (MA ar sz)) 0 0 (MA ar sz) := by
  refine Met.ofW (cc := cX12_readSaid) (maxL := 4) (ret := (some .boolean)) (by decide) rfl ?_
  intro p e s m args below meth c s₁ B hml hv
  obtain ⟨rfl, hsz, hP, hK⟩ := hv
  have hx := B.exec
  have hb := B.bytes
  have hr := B.returns
  have hts := atoms_spec (ws := wsX12_readSaid) B.pre
  have hown : s.vm.findClass RX12 = some m.cls := findClass_of_methodNamed B.named
  subst hsz
  have hS : va_S (MA ar s.heap.size) s.heap s.heap [] := va_S.rf
  have hG : MG [1, 2, 3, 6, 7, 13, 14, 15, 19, 20, 21, 22] st st := MG.rf hI
  have hl := lv_entry ([.ref (ar 0)]) (n := 4) (Nat.le_of_ble_eq_true rfl)
  rw [lg_entry_eq]
  generalize (lg_sl ([.ref (ar 0)]) ++ List.replicate (4 - (lg_sl ([.ref (ar 0)])).length) Slot.unset).toArray = ls at hl ⊢
  have hl : lv_has ls 4 [(0, .ref (ar 0))] := hl
  clear hI
  have hL : LQ [7, 9] sl sl := LQ.rf
  have hTc := hT.2.2.1
  have hTd := hT.2.2.2
  have hga : ga ≤ ga := Nat.le_refl ga
  refine lv_aload_n hx hb dX12_readSaid_0 rfl (lv_at hl 0 rfl) ?_
  refine lv_bipush (v := 40) hx hb dX12_readSaid_1 (by decide) ?_
  refine va_calli (va_runV (As := [.int 40]) (rest := []) ⟨hx, hb, hml, hown, hts⟩ (m_isSignA l dC dI ar cy _ hN st sl 40  hG.1) (cwV 1 hts gX12_readSaid_X12_isSign rfl rfl rfl (by decide +kernel) ⟨Nat.le_of_ble_eq_true rfl, Nat.le_of_ble_eq_true rfl⟩) ⟨fun a U g mk q => ⟨q.1, mPre.blind q.2⟩, va_recv hK hP (ci := 11) (q0 := 0) rfl rfl, fun U hU hW => ⟨rfl, mPre.of hP hK hU hW⟩⟩ rfl rfl hl.1 rfl (lv_room (Nat.le_of_ble_eq_true rfl)) dX12_readSaid_3 ⟨Nat.le_of_ble_eq_true rfl, Nat.le_of_ble_eq_true rfl⟩) hS (fun q _ h => MA.le hS.1 q h) (MA.le hS.1) (fun r1 x t H locs ht hvm hw hB _ _ hS => ?_)
  have hP := mB.at ht hB
  clear hB ht hvm
  obtain ⟨rfl, hw⟩ := hw
  have hP : va_P (dC, dI) vwCl (mw ar cy st sl) _ := hP
  clear hw
  refine lv_istore_n (lv' := [(1, .int r1), (0, .ref (ar 0))]) hx hb dX12_readSaid_6 rfl hl (by decide) rfl (fun ls hl => ?_)
  refine lv_bipush (v := 15) hx hb dX12_readSaid_7 (by decide) ?_
  refine lv_istore_n (lv' := [(2, .int 15), (1, .int r1), (0, .ref (ar 0))]) hx hb dX12_readSaid_9 rfl hl (by decide) rfl (fun ls hl => ?_)
  refine zz_wf (fun n stk H locs ls => ∃ k2 : Nat, n = 25 - k2 ∧ 15 ≤ k2 ∧ k2 < 25 ∧ va_P (dC, dI) vwCl (mw ar cy st sl) H ∧ va_S (MA ar s.heap.size) s.heap H locs ∧ lv_has ls 4 [(2, .int (nI k2)), (1, .int r1), (0, .ref (ar 0))] ∧ stk = []) ?_ (25 - 15) _ _ _ _ ⟨15, rfl, by omega, by omega, hP, hS, lv_sub hl [0, 1, 2] rfl, rfl⟩
  rintro nn stk H locs ls ⟨k2, hm4, hv3_0, hv4_1, hP, hS, hl, rfl⟩ ih5
  refine lv_iload_n hx hb dX12_readSaid_10 rfl (lv_at hl 0 rfl) ?_
  refine lv_bipush (v := 23) hx hb dX12_readSaid_11 (by decide) ?_
  refine lv_icmp_gt (tgt := 30) hx hb dX12_readSaid_13 (by decide) (fun c1 => ?_) (fun c1 => ?_)
  · have c1 : 23 < k2 := (nI_ltI (a := 23) (b := k2) (by omega) (by omega)).mp c1
    refine zz_join (pcJ := 46) (fun stk H locs ls => ((r1 = 0 → k2 < 24)) ∧ va_P (dC, dI) vwCl (mw ar cy st sl) H ∧ va_S (MA ar s.heap.size) s.heap H locs ∧ lv_has ls 4 [(2, .int (nI k2)), (1, .int r1), (0, .ref (ar 0))] ∧ stk = []) ?_ (fun kj6 => ?_)
    · rintro stk H locs ls ⟨hv7_0, hP, hS, hl, rfl⟩
      refine lv_aload_n hx hb dX12_readSaid_46 rfl (lv_at hl 2 rfl) ?_
      refine va_get (D := (dC, dI)) (ci := 11) (v := .int (st 0 44)) (C := RX12) (T := TX12) (N := 47) hx hb hts ii_X12_readSaid hown hK hP 0 rfl rfl 44 (by decide) (hts _ mm_X12_readSaid_1) (fun _ hh => hh) rfl dX12_readSaid_47 ?_
      refine zz_top (v := (nI go)) (by show st 0 44 = _; rw [h44]) ?_
      refine lv_bipush (v := 20) hx hb dX12_readSaid_50 (by decide) ?_
      refine lv_icmp_eq (tgt := 64) hx hb dX12_readSaid_52 (by decide) (fun c2 => ?_) (fun c2 => ?_)
      · have c2 : go = 20 := (nI_eq (a := go) (b := 20) (by omega) (by omega)).mp c2
        refine lv_aload_n hx hb dX12_readSaid_64 rfl (lv_at hl 2 rfl) ?_
        refine lv_iconst (v := 4) hx hb dX12_readSaid_65 (by decide) ?_
        refine va_calli (va_runV (As := [.int 4]) (rest := []) ⟨hx, hb, hml, hown, hts⟩ (m_bad l dC dI ar cy _ hN st sl 4  hG.1) (cwV 1 hts gX12_readSaid_X12_bad rfl rfl rfl (by decide +kernel) ⟨Nat.le_of_ble_eq_true rfl, Nat.le_of_ble_eq_true rfl⟩) ⟨fun a U g mk q => ⟨q.1, mPre.blind q.2⟩, va_recv hK hP (ci := 11) (q0 := 0) rfl rfl, fun U hU hW => ⟨rfl, mPre.of hP hK hU hW⟩⟩ rfl rfl hl.1 rfl (lv_room (Nat.le_of_ble_eq_true rfl)) dX12_readSaid_66 ⟨Nat.le_of_ble_eq_true rfl, Nat.le_of_ble_eq_true rfl⟩) hS (fun q _ h => MA.le hS.1 q h) (MA.le hS.1) (fun r8 x t H locs ht hvm hw hB _ _ hS => ?_)
        have hP := mB.at ht hB
        clear hB ht hvm
        obtain ⟨st9, sl10⟩ := x
        obtain ⟨hG2, hL2, hw⟩ := hw
        have hL : LQ [7, 9] sl sl10 := hL.tr hL2 (by decide)
        clear hL2
        have hP : va_P (dC, dI) vwCl (mw ar cy st9 sl10) _ := hP
        have hG : MG [1, 2, 3, 6, 7, 13, 14, 15, 19, 20, 21, 22] st st9 := hG.tr hG2 (by decide)
        have hGst9 : MG [1, 2, 3, 4, 5, 6, 7, 8, 9, 10, 11, 12, 13, 14, 15, 16, 17, 19, 20, 21, 22] st st9 := hG2
        clear hG2
        obtain rfl := hw
        exact W.zret (v := 0) hx hb hr rfl (fun t ht hW => ⟨⟨0, (st9, sl10), rfl, ⟨hG, hL, Or.inr (⟨rfl, by show st9 0 45 = _; rw [hGst9.2 0 45 (by decide), h45], (NKm.mg hGst9 (by decide) hNK)⟩)⟩, mB.of ht hP⟩, hS.F ht⟩) hS.2.2 dX12_readSaid_69
      · have c2 : ¬ go = 20 := fun hh => c2 ((nI_eq (a := go) (b := 20) (by omega) (by omega)).mpr hh)
        refine lv_aload_n hx hb dX12_readSaid_55 rfl (lv_at hl 2 rfl) ?_
        refine va_get (D := (dC, dI)) (ci := 11) (v := .int (st 0 45)) (C := RX12) (T := TX12) (N := 47) hx hb hts ii_X12_readSaid hown hK hP 0 rfl rfl 45 (by decide) (hts _ mm_X12_readSaid_2) (fun _ hh => hh) rfl dX12_readSaid_56 ?_
        refine zz_top (v := 3) (by show st 0 45 = _; rw [h45]) ?_
        refine lv_bipush (v := 8) hx hb dX12_readSaid_59 (by decide) ?_
        refine lv_icmp_ne (tgt := 70) hx hb dX12_readSaid_61 (by decide) (fun _ => ?_) (fun cc => absurd cc (by decide))
        refine lv_aload_n hx hb dX12_readSaid_70 rfl (lv_at hl 2 rfl) ?_
        refine lv_dup hx hb dX12_readSaid_71 rfl ?_
        refine va_get (D := (dC, dI)) (ci := 11) (v := .int (st 0 44)) (C := RX12) (T := TX12) (N := 47) hx hb hts ii_X12_readSaid hown hK hP 0 rfl rfl 44 (by decide) (hts _ mm_X12_readSaid_1) (fun _ hh => hh) rfl dX12_readSaid_72 ?_
        refine zz_top (v := (nI go)) (by show st 0 44 = _; rw [h44]) ?_
        refine lv_iconst (v := 1) hx hb dX12_readSaid_75 (by decide) ?_
        refine lv_iadd hx hb dX12_readSaid_76 ?_
        refine zz_top (v := nI (go + 1)) (nI_add go 1) ?_
        refine va_put (D := (dC, dI)) (ci := 11) (v := .int (nI (go + 1))) (ty := .int) (C := RX12) (T := TX12) (N := 47) hx hb hts ii_X12_readSaid tyX12 tyX12_ok nmX12 hown hK hP (mD hN _ _ _ _) hS 0 rfl rfl 44 (by decide) (hts _ mm_X12_readSaid_1) (fun _ hh => hh) rfl (by decide +kernel) rfl rfl (Nat.le_of_ble_eq_true rfl) dX12_readSaid_77 (fun H locs hP _ hS => ?_)
        have hP : va_P (dC, dI) vwCl (mw ar cy (up2 st 0 44 (nI (go + 1))) sl) H := hP
        obtain ⟨st11, est11⟩ : ∃ y, y = up2 st 0 44 (nI (go + 1)) := ⟨_, rfl⟩
        have hG : MG [1, 2, 3, 6, 7, 13, 14, 15, 19, 20, 21, 22] st st11 := by rw [est11]; exact hG.up (rn (n := (go + 1)) (by decide : mr 0 44 = 21) (by omega)) (pn (by decide : pcl 0 44 = 10) (by decide))
        rw [← est11] at hP
        refine lv_aload_n hx hb dX12_readSaid_80 rfl (lv_at hl 2 rfl) ?_
        refine lv_dup hx hb dX12_readSaid_81 rfl ?_
        refine va_get (D := (dC, dI)) (ci := 11) (v := .int (st11 0 45)) (C := RX12) (T := TX12) (N := 47) hx hb hts ii_X12_readSaid hown hK hP 0 rfl rfl 45 (by decide) (hts _ mm_X12_readSaid_2) (fun _ hh => hh) rfl dX12_readSaid_82 ?_
        refine zz_top (v := 3) (by show st11 0 45 = _; rw [est11, up2_ne (r := 0) (k := 44) (a := 0) (j := 45) _ _ (by omega), h45]) ?_
        refine lv_iconst (v := 1) hx hb dX12_readSaid_85 (by decide) ?_
        refine lv_iadd hx hb dX12_readSaid_86 ?_
        refine zz_top (v := 4) (by decide) ?_
        refine va_put (D := (dC, dI)) (ci := 11) (v := .int 4) (ty := .int) (C := RX12) (T := TX12) (N := 47) hx hb hts ii_X12_readSaid tyX12 tyX12_ok nmX12 hown hK hP (mD hN _ _ _ _) hS 0 rfl rfl 45 (by decide) (hts _ mm_X12_readSaid_2) (fun _ hh => hh) rfl (by decide +kernel) rfl rfl (Nat.le_of_ble_eq_true rfl) dX12_readSaid_87 (fun H locs hP _ hS => ?_)
        have hP : va_P (dC, dI) vwCl (mw ar cy (up2 st11 0 45 4) sl) H := hP
        obtain ⟨st12, est12⟩ : ∃ y, y = up2 st11 0 45 4 := ⟨_, rfl⟩
        have hG : MG [1, 2, 3, 6, 7, 13, 14, 15, 19, 20, 21, 22] st st12 := by rw [est12]; exact hG.up (rn (n := 4) (by decide : mr 0 45 = 9) (by omega)) (pn (by decide : pcl 0 45 = 11) (by decide))
        rw [← est12] at hP
        refine lv_aload_n hx hb dX12_readSaid_90 rfl (lv_at hl 2 rfl) ?_
        refine va_callv (va_runV (As := []) (rest := []) ⟨hx, hb, hml, hown, hts⟩ (m_go l dC dI ar cy _ hN st12 sl ga gb  hG.1 ((⟨by rw [est12, up2_ne (r := 0) (k := 45) (a := 0) (j := 5) _ _ (by omega), est11, up2_ne (r := 0) (k := 44) (a := 0) (j := 5) _ _ (by omega), hT.1], by rw [est12, up2_ne (r := 0) (k := 45) (a := 0) (j := 3) _ _ (by omega), est11, up2_ne (r := 0) (k := 44) (a := 0) (j := 3) _ _ (by omega), hT.2.1], by omega, by omega⟩ : TS st12 ga gb))) (cwV 0 hts gX12_readSaid_X12_go rfl rfl rfl (by decide +kernel) ⟨Nat.le_of_ble_eq_true rfl, Nat.le_of_ble_eq_true rfl⟩) ⟨fun a U g mk q => ⟨q.1, mPre.blind q.2⟩, va_recv hK hP (ci := 11) (q0 := 0) rfl rfl, fun U hU hW => ⟨rfl, mPre.of hP hK hU hW⟩⟩ rfl rfl hl.1 rfl (lv_room (Nat.le_of_ble_eq_true rfl)) dX12_readSaid_91 ⟨Nat.le_of_ble_eq_true rfl, Nat.le_of_ble_eq_true rfl⟩) hS (fun q _ h => MA.le hS.1 q h) (MA.le hS.1) (fun x t H locs ht hvm hw hB _ _ hS => ?_)
        have hP := mB.at ht hB
        clear hB ht hvm
        obtain ⟨st14, sl15⟩ := x
        obtain ⟨hG2, hL2, hw⟩ := hw
        have hL : LQ [7, 9] sl sl15 := hL.tr hL2 (by decide)
        clear hL2
        dsimp only at hw
        have hP : va_P (dC, dI) vwCl (mw ar cy st14 sl15) _ := hP
        have hG : MG [1, 2, 3, 6, 7, 13, 14, 15, 19, 20, 21, 22] st st14 := hG.tr hG2 (by decide)
        have hGst14 : MG [1, 2, 3, 6, 7, 8, 9, 10, 11, 12, 13, 14, 15, 16, 19, 20, 21, 22, 23] st12 st14 := hG2
        clear hG2
        obtain ⟨n16, hf17, hf18, hf19⟩ := hw
        have hf17c := hf17.2.2.1
        have hf17d := hf17.2.2.2
        refine lv_iconst (v := 1) hx hb dX12_readSaid_94 (by decide) ?_
        refine lv_istore_n (lv' := [(3, .int 1), (2, .int (nI k2)), (1, .int r1), (0, .ref (ar 0))]) hx hb dX12_readSaid_95 rfl hl (by decide) rfl (fun ls hl => ?_)
        refine lv_iload_n hx hb dX12_readSaid_96 rfl (lv_at hl 2 rfl) ?_
        refine lv_if_eq (tgt := 108) hx hb dX12_readSaid_97 (by decide) (fun c4 => ?_) (fun c4 => ?_)
        · have hw24 := hv7_0 c4
          refine lv_iload_n hx hb dX12_readSaid_108 rfl (lv_at hl 1 rfl) ?_
          refine lv_bipush (v := 15) hx hb dX12_readSaid_109 (by decide) ?_
          refine lv_icmp_ne (tgt := 122) hx hb dX12_readSaid_111 (by decide) (fun _ => ?_) (fun cc => absurd ((nI_eq (a := k2) (b := 15) (by omega) (by omega)).mp cc) (by omega))
          refine lv_iload_n hx hb dX12_readSaid_122 rfl (lv_at hl 1 rfl) ?_
          refine lv_bipush (v := 18) hx hb dX12_readSaid_123 (by decide) ?_
          refine lv_icmp_ge (tgt := 146) hx hb dX12_readSaid_125 (by decide) (fun _ => ?_) (fun cc => absurd ((nI_leI (a := 18) (b := k2) (by omega) (by omega)).mpr (by omega)) cc)
          refine lv_iload_n hx hb dX12_readSaid_146 rfl (lv_at hl 1 rfl) ?_
          refine lv_bipush (v := 20) hx hb dX12_readSaid_147 (by decide) ?_
          refine lv_icmp_ge (tgt := 160) hx hb dX12_readSaid_149 (by decide) (fun _ => ?_) (fun cc => absurd ((nI_leI (a := 20) (b := k2) (by omega) (by omega)).mpr (by omega)) cc)
          refine lv_aload_n hx hb dX12_readSaid_160 rfl (lv_at hl 3 rfl) ?_
          refine lv_iload_n hx hb dX12_readSaid_161 rfl (lv_at hl 1 rfl) ?_
          refine va_calli (va_runV (As := [.int (nI k2)]) (rest := []) ⟨hx, hb, hml, hown, hts⟩ (m_readCompare_4 l dC dI ar cy _ hN st14 sl15 k2 gn (go + 1) n16 gb (by omega) (by omega) hG.1 ((⟨by rw [hf17.1], by rw [hf17.2.1], by omega, by omega⟩ : TS st14 n16 gb)) (by rw [hGst14.2 0 43 (by decide), est12, up2_ne (r := 0) (k := 45) (a := 0) (j := 43) _ _ (by omega), est11, up2_ne (r := 0) (k := 44) (a := 0) (j := 43) _ _ (by omega), h43]) (by rw [hGst14.2 0 44 (by decide), est12, up2_ne (r := 0) (k := 45) (a := 0) (j := 44) _ _ (by omega), est11, up2_same]) (by rw [hGst14.2 0 45 (by decide), est12, up2_same]) (by omega) (by omega) ((NKm.mg hGst14 (by decide) (show NKm st12 by rw [est12]; exact (show NKm st11 from (show NKm st11 by rw [est11]; exact (show NKm st from hNK))))))) (cwV 1 hts gX12_readSaid_X12_readCompare rfl rfl rfl (by decide +kernel) ⟨Nat.le_of_ble_eq_true rfl, Nat.le_of_ble_eq_true rfl⟩) ⟨fun a U g mk q => ⟨q.1, mPre.blind q.2⟩, va_recv hK hP (ci := 11) (q0 := 0) rfl rfl, fun U hU hW => ⟨rfl, mPre.of hP hK hU hW⟩⟩ rfl rfl hl.1 rfl (lv_room (Nat.le_of_ble_eq_true rfl)) dX12_readSaid_162 ⟨Nat.le_of_ble_eq_true rfl, Nat.le_of_ble_eq_true rfl⟩) hS (fun q _ h => MA.le hS.1 q h) (MA.le hS.1) (fun r20 x t H locs ht hvm hw hB _ _ hS => ?_)
          have hP := mB.at ht hB
          clear hB ht hvm
          obtain ⟨st21, sl22⟩ := x
          obtain ⟨hG2, hL2, hw⟩ := hw
          have hL : LQ [7, 9] sl sl22 := hL.tr hL2 (by decide)
          clear hL2
          dsimp only at hw
          have hP : va_P (dC, dI) vwCl (mw ar cy st21 sl22) _ := hP
          have hG : MG [1, 2, 3, 6, 7, 13, 14, 15, 19, 20, 21, 22] st st21 := hG.tr hG2 (by decide)
          have hGst21 : MG [1, 2, 3, 6, 7, 13, 14, 15, 19, 20, 21, 22] st14 st21 := hG2
          clear hG2
          rcases hw with ⟨n23, n24, n25, n26, rfl, hf27, hf28, hf29, hf30, hf31, hf32, hf33, hf34, hf35, hf36, hf37, hf38⟩ | ⟨rfl, hf39, hf40⟩
          · have hf27c := hf27.2.2.1
            have hf27d := hf27.2.2.2
            refine lv_istore_n (lv' := [(3, .int 1), (2, .int (nI k2)), (1, .int r1), (0, .ref (ar 0))]) hx hb dX12_readSaid_165 rfl hl (by decide) rfl (fun ls hl => ?_)
            refine lv_aload_n hx hb dX12_readSaid_166 rfl (lv_at hl 3 rfl) ?_
            refine lv_dup hx hb dX12_readSaid_167 rfl ?_
            refine va_get (D := (dC, dI)) (ci := 11) (v := .int (st21 0 45)) (C := RX12) (T := TX12) (N := 47) hx hb hts ii_X12_readSaid hown hK hP 0 rfl rfl 45 (by decide) (hts _ mm_X12_readSaid_2) (fun _ hh => hh) rfl dX12_readSaid_168 ?_
            refine zz_top (v := 4) (by show st21 0 45 = _; rw [hf31]) ?_
            refine lv_iconst (v := 1) hx hb dX12_readSaid_171 (by decide) ?_
            refine lv_isub hx hb dX12_readSaid_172 ?_
            refine zz_top (v := 3) (by decide) ?_
            refine va_put (D := (dC, dI)) (ci := 11) (v := .int 3) (ty := .int) (C := RX12) (T := TX12) (N := 47) hx hb hts ii_X12_readSaid tyX12 tyX12_ok nmX12 hown hK hP (mD hN _ _ _ _) hS 0 rfl rfl 45 (by decide) (hts _ mm_X12_readSaid_2) (fun _ hh => hh) rfl (by decide +kernel) rfl rfl (Nat.le_of_ble_eq_true rfl) dX12_readSaid_173 (fun H locs hP _ hS => ?_)
            have hP : va_P (dC, dI) vwCl (mw ar cy (up2 st21 0 45 3) sl22) H := hP
            obtain ⟨st41, est41⟩ : ∃ y, y = up2 st21 0 45 3 := ⟨_, rfl⟩
            have hG : MG [1, 2, 3, 6, 7, 13, 14, 15, 19, 20, 21, 22] st st41 := by rw [est41]; exact hG.up (rn (n := 3) (by decide : mr 0 45 = 9) (by omega)) (pn (by decide : pcl 0 45 = 11) (by decide))
            rw [← est41] at hP
            refine lv_iload_n hx hb dX12_readSaid_176 rfl (lv_at hl 0 rfl) ?_
            exact W.zret (v := 1) hx hb hr rfl (fun t ht hW => ⟨⟨1, (st41, sl22), rfl, ⟨hG, hL, Or.inl (⟨n23, n24, n25, n26, rfl, (show TS st41 n23 gb from ⟨by rw [est41, up2_ne (r := 0) (k := 45) (a := 0) (j := 5) _ _ (by omega), hf27.1], by rw [est41, up2_ne (r := 0) (k := 45) (a := 0) (j := 3) _ _ (by omega), hf27.2.1], by omega, by omega⟩), by omega, by show st41 0 43 = (nI n24); rw [est41, up2_ne (r := 0) (k := 45) (a := 0) (j := 43) _ _ (by omega), hf29], by show st41 0 44 = (nI n25); rw [est41, up2_ne (r := 0) (k := 45) (a := 0) (j := 44) _ _ (by omega), hf30], by show st41 0 45 = 3; rw [est41, up2_same], by show st41 0 46 = (nI n26); rw [est41, up2_ne (r := 0) (k := 45) (a := 0) (j := 46) _ _ (by omega), hf32], by omega, by omega, by omega, by omega, by omega, (show NKm st41 by rw [est41]; exact (show NKm st21 from hf38))⟩)⟩, mB.of ht hP⟩, hS.F ht⟩) hS.2.2 dX12_readSaid_177
          · refine lv_istore_n (lv' := [(3, .int 0), (2, .int (nI k2)), (1, .int r1), (0, .ref (ar 0))]) hx hb dX12_readSaid_165 rfl hl (by decide) rfl (fun ls hl => ?_)
            refine lv_aload_n hx hb dX12_readSaid_166 rfl (lv_at hl 3 rfl) ?_
            refine lv_dup hx hb dX12_readSaid_167 rfl ?_
            refine va_get (D := (dC, dI)) (ci := 11) (v := .int (st21 0 45)) (C := RX12) (T := TX12) (N := 47) hx hb hts ii_X12_readSaid hown hK hP 0 rfl rfl 45 (by decide) (hts _ mm_X12_readSaid_2) (fun _ hh => hh) rfl dX12_readSaid_168 ?_
            refine zz_top (v := 4) (by show st21 0 45 = _; rw [hf39]) ?_
            refine lv_iconst (v := 1) hx hb dX12_readSaid_171 (by decide) ?_
            refine lv_isub hx hb dX12_readSaid_172 ?_
            refine zz_top (v := 3) (by decide) ?_
            refine va_put (D := (dC, dI)) (ci := 11) (v := .int 3) (ty := .int) (C := RX12) (T := TX12) (N := 47) hx hb hts ii_X12_readSaid tyX12 tyX12_ok nmX12 hown hK hP (mD hN _ _ _ _) hS 0 rfl rfl 45 (by decide) (hts _ mm_X12_readSaid_2) (fun _ hh => hh) rfl (by decide +kernel) rfl rfl (Nat.le_of_ble_eq_true rfl) dX12_readSaid_173 (fun H locs hP _ hS => ?_)
            have hP : va_P (dC, dI) vwCl (mw ar cy (up2 st21 0 45 3) sl22) H := hP
            obtain ⟨st42, est42⟩ : ∃ y, y = up2 st21 0 45 3 := ⟨_, rfl⟩
            have hG : MG [1, 2, 3, 6, 7, 13, 14, 15, 19, 20, 21, 22] st st42 := by rw [est42]; exact hG.up (rn (n := 3) (by decide : mr 0 45 = 9) (by omega)) (pn (by decide : pcl 0 45 = 11) (by decide))
            rw [← est42] at hP
            refine lv_iload_n hx hb dX12_readSaid_176 rfl (lv_at hl 0 rfl) ?_
            exact W.zret (v := 0) hx hb hr rfl (fun t ht hW => ⟨⟨0, (st42, sl22), rfl, ⟨hG, hL, Or.inr (⟨rfl, by show st42 0 45 = _; rw [est42, up2_same], (show NKm st42 by rw [est42]; exact (show NKm st21 from hf40))⟩)⟩, mB.of ht hP⟩, hS.F ht⟩) hS.2.2 dX12_readSaid_177
        · refine lv_aload_n hx hb dX12_readSaid_100 rfl (lv_at hl 3 rfl) ?_
          refine va_calli (va_runV (As := []) (rest := []) ⟨hx, hb, hml, hown, hts⟩ (m_readBracket_4 l dC dI ar cy _ hN st14 sl15 gn (go + 1) n16 gb  hG.1 ((⟨by rw [hf17.1], by rw [hf17.2.1], by omega, by omega⟩ : TS st14 n16 gb)) (by rw [hGst14.2 0 43 (by decide), est12, up2_ne (r := 0) (k := 45) (a := 0) (j := 43) _ _ (by omega), est11, up2_ne (r := 0) (k := 44) (a := 0) (j := 43) _ _ (by omega), h43]) (by rw [hGst14.2 0 44 (by decide), est12, up2_ne (r := 0) (k := 45) (a := 0) (j := 44) _ _ (by omega), est11, up2_same]) (by rw [hGst14.2 0 45 (by decide), est12, up2_same]) (by omega) (by omega) ((NKm.mg hGst14 (by decide) (show NKm st12 by rw [est12]; exact (show NKm st11 from (show NKm st11 by rw [est11]; exact (show NKm st from hNK))))))) (cwV 0 hts gX12_readSaid_X12_readBracket rfl rfl rfl (by decide +kernel) ⟨Nat.le_of_ble_eq_true rfl, Nat.le_of_ble_eq_true rfl⟩) ⟨fun a U g mk q => ⟨q.1, mPre.blind q.2⟩, va_recv hK hP (ci := 11) (q0 := 0) rfl rfl, fun U hU hW => ⟨rfl, mPre.of hP hK hU hW⟩⟩ rfl rfl hl.1 rfl (lv_room (Nat.le_of_ble_eq_true rfl)) dX12_readSaid_101 ⟨Nat.le_of_ble_eq_true rfl, Nat.le_of_ble_eq_true rfl⟩) hS (fun q _ h => MA.le hS.1 q h) (MA.le hS.1) (fun r43 x t H locs ht hvm hw hB _ _ hS => ?_)
          have hP := mB.at ht hB
          clear hB ht hvm
          obtain ⟨st44, sl45⟩ := x
          obtain ⟨hG2, hL2, hw⟩ := hw
          have hL : LQ [7, 9] sl sl45 := hL.tr hL2 (by decide)
          clear hL2
          dsimp only at hw
          have hP : va_P (dC, dI) vwCl (mw ar cy st44 sl45) _ := hP
          have hG : MG [1, 2, 3, 6, 7, 13, 14, 15, 19, 20, 21, 22] st st44 := hG.tr hG2 (by decide)
          have hGst44 : MG [1, 2, 3, 6, 7, 13, 14, 15, 19, 20, 21, 22] st14 st44 := hG2
          clear hG2
          rcases hw with ⟨n46, n47, n48, n49, rfl, hf50, hf51, hf52, hf53, hf54, hf55, hf56, hf57, hf58, hf59, hf60, hf61⟩ | ⟨rfl, hf62, hf63⟩
          · have hf50c := hf50.2.2.1
            have hf50d := hf50.2.2.2
            refine lv_istore_n (lv' := [(3, .int 1), (2, .int (nI k2)), (1, .int r1), (0, .ref (ar 0))]) hx hb dX12_readSaid_104 rfl hl (by decide) rfl (fun ls hl => ?_)
            refine lv_goto (tgt := 166) hx hb dX12_readSaid_105 (by decide) ?_
            refine lv_aload_n hx hb dX12_readSaid_166 rfl (lv_at hl 3 rfl) ?_
            refine lv_dup hx hb dX12_readSaid_167 rfl ?_
            refine va_get (D := (dC, dI)) (ci := 11) (v := .int (st44 0 45)) (C := RX12) (T := TX12) (N := 47) hx hb hts ii_X12_readSaid hown hK hP 0 rfl rfl 45 (by decide) (hts _ mm_X12_readSaid_2) (fun _ hh => hh) rfl dX12_readSaid_168 ?_
            refine zz_top (v := 4) (by show st44 0 45 = _; rw [hf54]) ?_
            refine lv_iconst (v := 1) hx hb dX12_readSaid_171 (by decide) ?_
            refine lv_isub hx hb dX12_readSaid_172 ?_
            refine zz_top (v := 3) (by decide) ?_
            refine va_put (D := (dC, dI)) (ci := 11) (v := .int 3) (ty := .int) (C := RX12) (T := TX12) (N := 47) hx hb hts ii_X12_readSaid tyX12 tyX12_ok nmX12 hown hK hP (mD hN _ _ _ _) hS 0 rfl rfl 45 (by decide) (hts _ mm_X12_readSaid_2) (fun _ hh => hh) rfl (by decide +kernel) rfl rfl (Nat.le_of_ble_eq_true rfl) dX12_readSaid_173 (fun H locs hP _ hS => ?_)
            have hP : va_P (dC, dI) vwCl (mw ar cy (up2 st44 0 45 3) sl45) H := hP
            obtain ⟨st64, est64⟩ : ∃ y, y = up2 st44 0 45 3 := ⟨_, rfl⟩
            have hG : MG [1, 2, 3, 6, 7, 13, 14, 15, 19, 20, 21, 22] st st64 := by rw [est64]; exact hG.up (rn (n := 3) (by decide : mr 0 45 = 9) (by omega)) (pn (by decide : pcl 0 45 = 11) (by decide))
            rw [← est64] at hP
            refine lv_iload_n hx hb dX12_readSaid_176 rfl (lv_at hl 0 rfl) ?_
            exact W.zret (v := 1) hx hb hr rfl (fun t ht hW => ⟨⟨1, (st64, sl45), rfl, ⟨hG, hL, Or.inl (⟨n46, n47, n48, n49, rfl, (show TS st64 n46 gb from ⟨by rw [est64, up2_ne (r := 0) (k := 45) (a := 0) (j := 5) _ _ (by omega), hf50.1], by rw [est64, up2_ne (r := 0) (k := 45) (a := 0) (j := 3) _ _ (by omega), hf50.2.1], by omega, by omega⟩), by omega, by show st64 0 43 = (nI n47); rw [est64, up2_ne (r := 0) (k := 45) (a := 0) (j := 43) _ _ (by omega), hf52], by show st64 0 44 = (nI n48); rw [est64, up2_ne (r := 0) (k := 45) (a := 0) (j := 44) _ _ (by omega), hf53], by show st64 0 45 = 3; rw [est64, up2_same], by show st64 0 46 = (nI n49); rw [est64, up2_ne (r := 0) (k := 45) (a := 0) (j := 46) _ _ (by omega), hf55], by omega, by omega, by omega, by omega, by omega, (show NKm st64 by rw [est64]; exact (show NKm st44 from hf61))⟩)⟩, mB.of ht hP⟩, hS.F ht⟩) hS.2.2 dX12_readSaid_177
          · refine lv_istore_n (lv' := [(3, .int 0), (2, .int (nI k2)), (1, .int r1), (0, .ref (ar 0))]) hx hb dX12_readSaid_104 rfl hl (by decide) rfl (fun ls hl => ?_)
            refine lv_goto (tgt := 166) hx hb dX12_readSaid_105 (by decide) ?_
            refine lv_aload_n hx hb dX12_readSaid_166 rfl (lv_at hl 3 rfl) ?_
            refine lv_dup hx hb dX12_readSaid_167 rfl ?_
            refine va_get (D := (dC, dI)) (ci := 11) (v := .int (st44 0 45)) (C := RX12) (T := TX12) (N := 47) hx hb hts ii_X12_readSaid hown hK hP 0 rfl rfl 45 (by decide) (hts _ mm_X12_readSaid_2) (fun _ hh => hh) rfl dX12_readSaid_168 ?_
            refine zz_top (v := 4) (by show st44 0 45 = _; rw [hf62]) ?_
            refine lv_iconst (v := 1) hx hb dX12_readSaid_171 (by decide) ?_
            refine lv_isub hx hb dX12_readSaid_172 ?_
            refine zz_top (v := 3) (by decide) ?_
            refine va_put (D := (dC, dI)) (ci := 11) (v := .int 3) (ty := .int) (C := RX12) (T := TX12) (N := 47) hx hb hts ii_X12_readSaid tyX12 tyX12_ok nmX12 hown hK hP (mD hN _ _ _ _) hS 0 rfl rfl 45 (by decide) (hts _ mm_X12_readSaid_2) (fun _ hh => hh) rfl (by decide +kernel) rfl rfl (Nat.le_of_ble_eq_true rfl) dX12_readSaid_173 (fun H locs hP _ hS => ?_)
            have hP : va_P (dC, dI) vwCl (mw ar cy (up2 st44 0 45 3) sl45) H := hP
            obtain ⟨st65, est65⟩ : ∃ y, y = up2 st44 0 45 3 := ⟨_, rfl⟩
            have hG : MG [1, 2, 3, 6, 7, 13, 14, 15, 19, 20, 21, 22] st st65 := by rw [est65]; exact hG.up (rn (n := 3) (by decide : mr 0 45 = 9) (by omega)) (pn (by decide : pcl 0 45 = 11) (by decide))
            rw [← est65] at hP
            refine lv_iload_n hx hb dX12_readSaid_176 rfl (lv_at hl 0 rfl) ?_
            exact W.zret (v := 0) hx hb hr rfl (fun t ht hW => ⟨⟨0, (st65, sl45), rfl, ⟨hG, hL, Or.inr (⟨rfl, by show st65 0 45 = _; rw [est65, up2_same], (show NKm st65 by rw [est65]; exact (show NKm st44 from hf63))⟩)⟩, mB.of ht hP⟩, hS.F ht⟩) hS.2.2 dX12_readSaid_177
    refine lv_iload_n hx hb dX12_readSaid_30 rfl (lv_at hl 1 rfl) ?_
    refine lv_if_ne (tgt := 46) hx hb dX12_readSaid_31 (by decide) (fun c8 => ?_) (fun c8 => ?_)
    · exact kj6 _ _ _ _ ⟨fun hh => by first | omega | exact absurd hh (by assumption), hP, hS, lv_sub hl [0, 1, 2] rfl, rfl⟩
    · refine lv_iload_n hx hb dX12_readSaid_34 rfl (lv_at hl 0 rfl) ?_
      refine lv_bipush (v := 23) hx hb dX12_readSaid_35 (by decide) ?_
      refine lv_icmp_le (tgt := 46) hx hb dX12_readSaid_37 (by decide) (fun cc => absurd ((nI_leI (a := k2) (b := 23) (by omega) (by omega)).mp cc) (by omega)) (fun _ => ?_)
      refine lv_aload_n hx hb dX12_readSaid_40 rfl (lv_at hl 2 rfl) ?_
      refine lv_iconst (v := 1) hx hb dX12_readSaid_41 (by decide) ?_
      refine va_calli (va_runV (As := [.int 1]) (rest := []) ⟨hx, hb, hml, hown, hts⟩ (m_bad l dC dI ar cy _ hN st sl 1  hG.1) (cwV 1 hts gX12_readSaid_X12_bad rfl rfl rfl (by decide +kernel) ⟨Nat.le_of_ble_eq_true rfl, Nat.le_of_ble_eq_true rfl⟩) ⟨fun a U g mk q => ⟨q.1, mPre.blind q.2⟩, va_recv hK hP (ci := 11) (q0 := 0) rfl rfl, fun U hU hW => ⟨rfl, mPre.of hP hK hU hW⟩⟩ rfl rfl hl.1 rfl (lv_room (Nat.le_of_ble_eq_true rfl)) dX12_readSaid_42 ⟨Nat.le_of_ble_eq_true rfl, Nat.le_of_ble_eq_true rfl⟩) hS (fun q _ h => MA.le hS.1 q h) (MA.le hS.1) (fun r66 x t H locs ht hvm hw hB _ _ hS => ?_)
      have hP := mB.at ht hB
      clear hB ht hvm
      obtain ⟨st67, sl68⟩ := x
      obtain ⟨hG2, hL2, hw⟩ := hw
      have hL : LQ [7, 9] sl sl68 := hL.tr hL2 (by decide)
      clear hL2
      have hP : va_P (dC, dI) vwCl (mw ar cy st67 sl68) _ := hP
      have hG : MG [1, 2, 3, 6, 7, 13, 14, 15, 19, 20, 21, 22] st st67 := hG.tr hG2 (by decide)
      have hGst67 : MG [1, 2, 3, 4, 5, 6, 7, 8, 9, 10, 11, 12, 13, 14, 15, 16, 17, 19, 20, 21, 22] st st67 := hG2
      clear hG2
      obtain rfl := hw
      exact W.zret (v := 0) hx hb hr rfl (fun t ht hW => ⟨⟨0, (st67, sl68), rfl, ⟨hG, hL, Or.inr (⟨rfl, by show st67 0 45 = _; rw [hGst67.2 0 45 (by decide), h45], (NKm.mg hGst67 (by decide) hNK)⟩)⟩, mB.of ht hP⟩, hS.F ht⟩) hS.2.2 dX12_readSaid_45
  · have c1 : ¬ 23 < k2 := fun hh => c1 ((nI_ltI (a := 23) (b := k2) (by omega) (by omega)).mpr hh)
    refine lv_aload_n hx hb dX12_readSaid_16 rfl (lv_at hl 2 rfl) ?_
    refine lv_iload_n hx hb dX12_readSaid_17 rfl (lv_at hl 0 rfl) ?_
    refine va_calli (va_runV (As := [.int (nI k2)]) (rest := []) ⟨hx, hb, hml, hown, hts⟩ (m_isWord l dC dI ar cy _ hN st sl (nI k2)  hG.1) (cwV 1 hts gX12_readSaid_X12_isWord rfl rfl rfl (by decide +kernel) ⟨Nat.le_of_ble_eq_true rfl, Nat.le_of_ble_eq_true rfl⟩) ⟨fun a U g mk q => ⟨q.1, mPre.blind q.2⟩, va_recv hK hP (ci := 11) (q0 := 0) rfl rfl, fun U hU hW => ⟨rfl, mPre.of hP hK hU hW⟩⟩ rfl rfl hl.1 rfl (lv_room (Nat.le_of_ble_eq_true rfl)) dX12_readSaid_18 ⟨Nat.le_of_ble_eq_true rfl, Nat.le_of_ble_eq_true rfl⟩) hS (fun q _ h => MA.le hS.1 q h) (MA.le hS.1) (fun r69 x t H locs ht hvm hw hB _ _ hS => ?_)
    have hP := mB.at ht hB
    clear hB ht hvm
    obtain ⟨rfl, hw⟩ := hw
    have hP : va_P (dC, dI) vwCl (mw ar cy st sl) _ := hP
    rcases hw with rfl | rfl
    · refine lv_if_ne (tgt := 30) hx hb dX12_readSaid_21 (by decide) (fun _ => ?_) (fun cc => absurd cc (by decide))
      refine zz_join (pcJ := 46) (fun stk H locs ls => ((r1 = 0 → k2 < 24)) ∧ va_P (dC, dI) vwCl (mw ar cy st sl) H ∧ va_S (MA ar s.heap.size) s.heap H locs ∧ lv_has ls 4 [(2, .int (nI k2)), (1, .int r1), (0, .ref (ar 0))] ∧ stk = []) ?_ (fun kj70 => ?_)
      · rintro stk H locs ls ⟨hv71_0, hP, hS, hl, rfl⟩
        refine lv_aload_n hx hb dX12_readSaid_46 rfl (lv_at hl 2 rfl) ?_
        refine va_get (D := (dC, dI)) (ci := 11) (v := .int (st 0 44)) (C := RX12) (T := TX12) (N := 47) hx hb hts ii_X12_readSaid hown hK hP 0 rfl rfl 44 (by decide) (hts _ mm_X12_readSaid_1) (fun _ hh => hh) rfl dX12_readSaid_47 ?_
        refine zz_top (v := (nI go)) (by show st 0 44 = _; rw [h44]) ?_
        refine lv_bipush (v := 20) hx hb dX12_readSaid_50 (by decide) ?_
        refine lv_icmp_eq (tgt := 64) hx hb dX12_readSaid_52 (by decide) (fun c11 => ?_) (fun c11 => ?_)
        · have c11 : go = 20 := (nI_eq (a := go) (b := 20) (by omega) (by omega)).mp c11
          refine lv_aload_n hx hb dX12_readSaid_64 rfl (lv_at hl 2 rfl) ?_
          refine lv_iconst (v := 4) hx hb dX12_readSaid_65 (by decide) ?_
          refine va_calli (va_runV (As := [.int 4]) (rest := []) ⟨hx, hb, hml, hown, hts⟩ (m_bad l dC dI ar cy _ hN st sl 4  hG.1) (cwV 1 hts gX12_readSaid_X12_bad rfl rfl rfl (by decide +kernel) ⟨Nat.le_of_ble_eq_true rfl, Nat.le_of_ble_eq_true rfl⟩) ⟨fun a U g mk q => ⟨q.1, mPre.blind q.2⟩, va_recv hK hP (ci := 11) (q0 := 0) rfl rfl, fun U hU hW => ⟨rfl, mPre.of hP hK hU hW⟩⟩ rfl rfl hl.1 rfl (lv_room (Nat.le_of_ble_eq_true rfl)) dX12_readSaid_66 ⟨Nat.le_of_ble_eq_true rfl, Nat.le_of_ble_eq_true rfl⟩) hS (fun q _ h => MA.le hS.1 q h) (MA.le hS.1) (fun r72 x t H locs ht hvm hw hB _ _ hS => ?_)
          have hP := mB.at ht hB
          clear hB ht hvm
          obtain ⟨st73, sl74⟩ := x
          obtain ⟨hG2, hL2, hw⟩ := hw
          have hL : LQ [7, 9] sl sl74 := hL.tr hL2 (by decide)
          clear hL2
          have hP : va_P (dC, dI) vwCl (mw ar cy st73 sl74) _ := hP
          have hG : MG [1, 2, 3, 6, 7, 13, 14, 15, 19, 20, 21, 22] st st73 := hG.tr hG2 (by decide)
          have hGst73 : MG [1, 2, 3, 4, 5, 6, 7, 8, 9, 10, 11, 12, 13, 14, 15, 16, 17, 19, 20, 21, 22] st st73 := hG2
          clear hG2
          obtain rfl := hw
          exact W.zret (v := 0) hx hb hr rfl (fun t ht hW => ⟨⟨0, (st73, sl74), rfl, ⟨hG, hL, Or.inr (⟨rfl, by show st73 0 45 = _; rw [hGst73.2 0 45 (by decide), h45], (NKm.mg hGst73 (by decide) hNK)⟩)⟩, mB.of ht hP⟩, hS.F ht⟩) hS.2.2 dX12_readSaid_69
        · have c11 : ¬ go = 20 := fun hh => c11 ((nI_eq (a := go) (b := 20) (by omega) (by omega)).mpr hh)
          refine lv_aload_n hx hb dX12_readSaid_55 rfl (lv_at hl 2 rfl) ?_
          refine va_get (D := (dC, dI)) (ci := 11) (v := .int (st 0 45)) (C := RX12) (T := TX12) (N := 47) hx hb hts ii_X12_readSaid hown hK hP 0 rfl rfl 45 (by decide) (hts _ mm_X12_readSaid_2) (fun _ hh => hh) rfl dX12_readSaid_56 ?_
          refine zz_top (v := 3) (by show st 0 45 = _; rw [h45]) ?_
          refine lv_bipush (v := 8) hx hb dX12_readSaid_59 (by decide) ?_
          refine lv_icmp_ne (tgt := 70) hx hb dX12_readSaid_61 (by decide) (fun _ => ?_) (fun cc => absurd cc (by decide))
          refine lv_aload_n hx hb dX12_readSaid_70 rfl (lv_at hl 2 rfl) ?_
          refine lv_dup hx hb dX12_readSaid_71 rfl ?_
          refine va_get (D := (dC, dI)) (ci := 11) (v := .int (st 0 44)) (C := RX12) (T := TX12) (N := 47) hx hb hts ii_X12_readSaid hown hK hP 0 rfl rfl 44 (by decide) (hts _ mm_X12_readSaid_1) (fun _ hh => hh) rfl dX12_readSaid_72 ?_
          refine zz_top (v := (nI go)) (by show st 0 44 = _; rw [h44]) ?_
          refine lv_iconst (v := 1) hx hb dX12_readSaid_75 (by decide) ?_
          refine lv_iadd hx hb dX12_readSaid_76 ?_
          refine zz_top (v := nI (go + 1)) (nI_add go 1) ?_
          refine va_put (D := (dC, dI)) (ci := 11) (v := .int (nI (go + 1))) (ty := .int) (C := RX12) (T := TX12) (N := 47) hx hb hts ii_X12_readSaid tyX12 tyX12_ok nmX12 hown hK hP (mD hN _ _ _ _) hS 0 rfl rfl 44 (by decide) (hts _ mm_X12_readSaid_1) (fun _ hh => hh) rfl (by decide +kernel) rfl rfl (Nat.le_of_ble_eq_true rfl) dX12_readSaid_77 (fun H locs hP _ hS => ?_)
          have hP : va_P (dC, dI) vwCl (mw ar cy (up2 st 0 44 (nI (go + 1))) sl) H := hP
          obtain ⟨st75, est75⟩ : ∃ y, y = up2 st 0 44 (nI (go + 1)) := ⟨_, rfl⟩
          have hG : MG [1, 2, 3, 6, 7, 13, 14, 15, 19, 20, 21, 22] st st75 := by rw [est75]; exact hG.up (rn (n := (go + 1)) (by decide : mr 0 44 = 21) (by omega)) (pn (by decide : pcl 0 44 = 10) (by decide))
          rw [← est75] at hP
          refine lv_aload_n hx hb dX12_readSaid_80 rfl (lv_at hl 2 rfl) ?_
          refine lv_dup hx hb dX12_readSaid_81 rfl ?_
          refine va_get (D := (dC, dI)) (ci := 11) (v := .int (st75 0 45)) (C := RX12) (T := TX12) (N := 47) hx hb hts ii_X12_readSaid hown hK hP 0 rfl rfl 45 (by decide) (hts _ mm_X12_readSaid_2) (fun _ hh => hh) rfl dX12_readSaid_82 ?_
          refine zz_top (v := 3) (by show st75 0 45 = _; rw [est75, up2_ne (r := 0) (k := 44) (a := 0) (j := 45) _ _ (by omega), h45]) ?_
          refine lv_iconst (v := 1) hx hb dX12_readSaid_85 (by decide) ?_
          refine lv_iadd hx hb dX12_readSaid_86 ?_
          refine zz_top (v := 4) (by decide) ?_
          refine va_put (D := (dC, dI)) (ci := 11) (v := .int 4) (ty := .int) (C := RX12) (T := TX12) (N := 47) hx hb hts ii_X12_readSaid tyX12 tyX12_ok nmX12 hown hK hP (mD hN _ _ _ _) hS 0 rfl rfl 45 (by decide) (hts _ mm_X12_readSaid_2) (fun _ hh => hh) rfl (by decide +kernel) rfl rfl (Nat.le_of_ble_eq_true rfl) dX12_readSaid_87 (fun H locs hP _ hS => ?_)
          have hP : va_P (dC, dI) vwCl (mw ar cy (up2 st75 0 45 4) sl) H := hP
          obtain ⟨st76, est76⟩ : ∃ y, y = up2 st75 0 45 4 := ⟨_, rfl⟩
          have hG : MG [1, 2, 3, 6, 7, 13, 14, 15, 19, 20, 21, 22] st st76 := by rw [est76]; exact hG.up (rn (n := 4) (by decide : mr 0 45 = 9) (by omega)) (pn (by decide : pcl 0 45 = 11) (by decide))
          rw [← est76] at hP
          refine lv_aload_n hx hb dX12_readSaid_90 rfl (lv_at hl 2 rfl) ?_
          refine va_callv (va_runV (As := []) (rest := []) ⟨hx, hb, hml, hown, hts⟩ (m_go l dC dI ar cy _ hN st76 sl ga gb  hG.1 ((⟨by rw [est76, up2_ne (r := 0) (k := 45) (a := 0) (j := 5) _ _ (by omega), est75, up2_ne (r := 0) (k := 44) (a := 0) (j := 5) _ _ (by omega), hT.1], by rw [est76, up2_ne (r := 0) (k := 45) (a := 0) (j := 3) _ _ (by omega), est75, up2_ne (r := 0) (k := 44) (a := 0) (j := 3) _ _ (by omega), hT.2.1], by omega, by omega⟩ : TS st76 ga gb))) (cwV 0 hts gX12_readSaid_X12_go rfl rfl rfl (by decide +kernel) ⟨Nat.le_of_ble_eq_true rfl, Nat.le_of_ble_eq_true rfl⟩) ⟨fun a U g mk q => ⟨q.1, mPre.blind q.2⟩, va_recv hK hP (ci := 11) (q0 := 0) rfl rfl, fun U hU hW => ⟨rfl, mPre.of hP hK hU hW⟩⟩ rfl rfl hl.1 rfl (lv_room (Nat.le_of_ble_eq_true rfl)) dX12_readSaid_91 ⟨Nat.le_of_ble_eq_true rfl, Nat.le_of_ble_eq_true rfl⟩) hS (fun q _ h => MA.le hS.1 q h) (MA.le hS.1) (fun x t H locs ht hvm hw hB _ _ hS => ?_)
          have hP := mB.at ht hB
          clear hB ht hvm
          obtain ⟨st78, sl79⟩ := x
          obtain ⟨hG2, hL2, hw⟩ := hw
          have hL : LQ [7, 9] sl sl79 := hL.tr hL2 (by decide)
          clear hL2
          dsimp only at hw
          have hP : va_P (dC, dI) vwCl (mw ar cy st78 sl79) _ := hP
          have hG : MG [1, 2, 3, 6, 7, 13, 14, 15, 19, 20, 21, 22] st st78 := hG.tr hG2 (by decide)
          have hGst78 : MG [1, 2, 3, 6, 7, 8, 9, 10, 11, 12, 13, 14, 15, 16, 19, 20, 21, 22, 23] st76 st78 := hG2
          clear hG2
          obtain ⟨n80, hf81, hf82, hf83⟩ := hw
          have hf81c := hf81.2.2.1
          have hf81d := hf81.2.2.2
          refine lv_iconst (v := 1) hx hb dX12_readSaid_94 (by decide) ?_
          refine lv_istore_n (lv' := [(3, .int 1), (2, .int (nI k2)), (1, .int r1), (0, .ref (ar 0))]) hx hb dX12_readSaid_95 rfl hl (by decide) rfl (fun ls hl => ?_)
          refine lv_iload_n hx hb dX12_readSaid_96 rfl (lv_at hl 2 rfl) ?_
          refine lv_if_eq (tgt := 108) hx hb dX12_readSaid_97 (by decide) (fun c13 => ?_) (fun c13 => ?_)
          · have hw24 := hv71_0 c13
            refine lv_iload_n hx hb dX12_readSaid_108 rfl (lv_at hl 1 rfl) ?_
            refine lv_bipush (v := 15) hx hb dX12_readSaid_109 (by decide) ?_
            refine lv_icmp_ne (tgt := 122) hx hb dX12_readSaid_111 (by decide) (fun c14 => ?_) (fun c14 => ?_)
            · have c14 : ¬ k2 = 15 := fun hh => c14 ((nI_eq (a := k2) (b := 15) (by omega) (by omega)).mpr hh)
              refine lv_iload_n hx hb dX12_readSaid_122 rfl (lv_at hl 1 rfl) ?_
              refine lv_bipush (v := 18) hx hb dX12_readSaid_123 (by decide) ?_
              refine lv_icmp_ge (tgt := 146) hx hb dX12_readSaid_125 (by decide) (fun c15 => ?_) (fun c15 => ?_)
              · have c15 : 18 ≤ k2 := (nI_leI (a := 18) (b := k2) (by omega) (by omega)).mp c15
                refine lv_iload_n hx hb dX12_readSaid_146 rfl (lv_at hl 1 rfl) ?_
                refine lv_bipush (v := 20) hx hb dX12_readSaid_147 (by decide) ?_
                refine lv_icmp_ge (tgt := 160) hx hb dX12_readSaid_149 (by decide) (fun c16 => ?_) (fun c16 => ?_)
                · have c16 : 20 ≤ k2 := (nI_leI (a := 20) (b := k2) (by omega) (by omega)).mp c16
                  refine lv_aload_n hx hb dX12_readSaid_160 rfl (lv_at hl 3 rfl) ?_
                  refine lv_iload_n hx hb dX12_readSaid_161 rfl (lv_at hl 1 rfl) ?_
                  refine va_calli (va_runV (As := [.int (nI k2)]) (rest := []) ⟨hx, hb, hml, hown, hts⟩ (m_readCompare_4 l dC dI ar cy _ hN st78 sl79 k2 gn (go + 1) n80 gb (by omega) (by omega) hG.1 ((⟨by rw [hf81.1], by rw [hf81.2.1], by omega, by omega⟩ : TS st78 n80 gb)) (by rw [hGst78.2 0 43 (by decide), est76, up2_ne (r := 0) (k := 45) (a := 0) (j := 43) _ _ (by omega), est75, up2_ne (r := 0) (k := 44) (a := 0) (j := 43) _ _ (by omega), h43]) (by rw [hGst78.2 0 44 (by decide), est76, up2_ne (r := 0) (k := 45) (a := 0) (j := 44) _ _ (by omega), est75, up2_same]) (by rw [hGst78.2 0 45 (by decide), est76, up2_same]) (by omega) (by omega) ((NKm.mg hGst78 (by decide) (show NKm st76 by rw [est76]; exact (show NKm st75 from (show NKm st75 by rw [est75]; exact (show NKm st from hNK))))))) (cwV 1 hts gX12_readSaid_X12_readCompare rfl rfl rfl (by decide +kernel) ⟨Nat.le_of_ble_eq_true rfl, Nat.le_of_ble_eq_true rfl⟩) ⟨fun a U g mk q => ⟨q.1, mPre.blind q.2⟩, va_recv hK hP (ci := 11) (q0 := 0) rfl rfl, fun U hU hW => ⟨rfl, mPre.of hP hK hU hW⟩⟩ rfl rfl hl.1 rfl (lv_room (Nat.le_of_ble_eq_true rfl)) dX12_readSaid_162 ⟨Nat.le_of_ble_eq_true rfl, Nat.le_of_ble_eq_true rfl⟩) hS (fun q _ h => MA.le hS.1 q h) (MA.le hS.1) (fun r84 x t H locs ht hvm hw hB _ _ hS => ?_)
                  have hP := mB.at ht hB
                  clear hB ht hvm
                  obtain ⟨st85, sl86⟩ := x
                  obtain ⟨hG2, hL2, hw⟩ := hw
                  have hL : LQ [7, 9] sl sl86 := hL.tr hL2 (by decide)
                  clear hL2
                  dsimp only at hw
                  have hP : va_P (dC, dI) vwCl (mw ar cy st85 sl86) _ := hP
                  have hG : MG [1, 2, 3, 6, 7, 13, 14, 15, 19, 20, 21, 22] st st85 := hG.tr hG2 (by decide)
                  have hGst85 : MG [1, 2, 3, 6, 7, 13, 14, 15, 19, 20, 21, 22] st78 st85 := hG2
                  clear hG2
                  rcases hw with ⟨n87, n88, n89, n90, rfl, hf91, hf92, hf93, hf94, hf95, hf96, hf97, hf98, hf99, hf100, hf101, hf102⟩ | ⟨rfl, hf103, hf104⟩
                  · have hf91c := hf91.2.2.1
                    have hf91d := hf91.2.2.2
                    refine lv_istore_n (lv' := [(3, .int 1), (2, .int (nI k2)), (1, .int r1), (0, .ref (ar 0))]) hx hb dX12_readSaid_165 rfl hl (by decide) rfl (fun ls hl => ?_)
                    refine lv_aload_n hx hb dX12_readSaid_166 rfl (lv_at hl 3 rfl) ?_
                    refine lv_dup hx hb dX12_readSaid_167 rfl ?_
                    refine va_get (D := (dC, dI)) (ci := 11) (v := .int (st85 0 45)) (C := RX12) (T := TX12) (N := 47) hx hb hts ii_X12_readSaid hown hK hP 0 rfl rfl 45 (by decide) (hts _ mm_X12_readSaid_2) (fun _ hh => hh) rfl dX12_readSaid_168 ?_
                    refine zz_top (v := 4) (by show st85 0 45 = _; rw [hf95]) ?_
                    refine lv_iconst (v := 1) hx hb dX12_readSaid_171 (by decide) ?_
                    refine lv_isub hx hb dX12_readSaid_172 ?_
                    refine zz_top (v := 3) (by decide) ?_
                    refine va_put (D := (dC, dI)) (ci := 11) (v := .int 3) (ty := .int) (C := RX12) (T := TX12) (N := 47) hx hb hts ii_X12_readSaid tyX12 tyX12_ok nmX12 hown hK hP (mD hN _ _ _ _) hS 0 rfl rfl 45 (by decide) (hts _ mm_X12_readSaid_2) (fun _ hh => hh) rfl (by decide +kernel) rfl rfl (Nat.le_of_ble_eq_true rfl) dX12_readSaid_173 (fun H locs hP _ hS => ?_)
                    have hP : va_P (dC, dI) vwCl (mw ar cy (up2 st85 0 45 3) sl86) H := hP
                    obtain ⟨st105, est105⟩ : ∃ y, y = up2 st85 0 45 3 := ⟨_, rfl⟩
                    have hG : MG [1, 2, 3, 6, 7, 13, 14, 15, 19, 20, 21, 22] st st105 := by rw [est105]; exact hG.up (rn (n := 3) (by decide : mr 0 45 = 9) (by omega)) (pn (by decide : pcl 0 45 = 11) (by decide))
                    rw [← est105] at hP
                    refine lv_iload_n hx hb dX12_readSaid_176 rfl (lv_at hl 0 rfl) ?_
                    exact W.zret (v := 1) hx hb hr rfl (fun t ht hW => ⟨⟨1, (st105, sl86), rfl, ⟨hG, hL, Or.inl (⟨n87, n88, n89, n90, rfl, (show TS st105 n87 gb from ⟨by rw [est105, up2_ne (r := 0) (k := 45) (a := 0) (j := 5) _ _ (by omega), hf91.1], by rw [est105, up2_ne (r := 0) (k := 45) (a := 0) (j := 3) _ _ (by omega), hf91.2.1], by omega, by omega⟩), by omega, by show st105 0 43 = (nI n88); rw [est105, up2_ne (r := 0) (k := 45) (a := 0) (j := 43) _ _ (by omega), hf93], by show st105 0 44 = (nI n89); rw [est105, up2_ne (r := 0) (k := 45) (a := 0) (j := 44) _ _ (by omega), hf94], by show st105 0 45 = 3; rw [est105, up2_same], by show st105 0 46 = (nI n90); rw [est105, up2_ne (r := 0) (k := 45) (a := 0) (j := 46) _ _ (by omega), hf96], by omega, by omega, by omega, by omega, by omega, (show NKm st105 by rw [est105]; exact (show NKm st85 from hf102))⟩)⟩, mB.of ht hP⟩, hS.F ht⟩) hS.2.2 dX12_readSaid_177
                  · refine lv_istore_n (lv' := [(3, .int 0), (2, .int (nI k2)), (1, .int r1), (0, .ref (ar 0))]) hx hb dX12_readSaid_165 rfl hl (by decide) rfl (fun ls hl => ?_)
                    refine lv_aload_n hx hb dX12_readSaid_166 rfl (lv_at hl 3 rfl) ?_
                    refine lv_dup hx hb dX12_readSaid_167 rfl ?_
                    refine va_get (D := (dC, dI)) (ci := 11) (v := .int (st85 0 45)) (C := RX12) (T := TX12) (N := 47) hx hb hts ii_X12_readSaid hown hK hP 0 rfl rfl 45 (by decide) (hts _ mm_X12_readSaid_2) (fun _ hh => hh) rfl dX12_readSaid_168 ?_
                    refine zz_top (v := 4) (by show st85 0 45 = _; rw [hf103]) ?_
                    refine lv_iconst (v := 1) hx hb dX12_readSaid_171 (by decide) ?_
                    refine lv_isub hx hb dX12_readSaid_172 ?_
                    refine zz_top (v := 3) (by decide) ?_
                    refine va_put (D := (dC, dI)) (ci := 11) (v := .int 3) (ty := .int) (C := RX12) (T := TX12) (N := 47) hx hb hts ii_X12_readSaid tyX12 tyX12_ok nmX12 hown hK hP (mD hN _ _ _ _) hS 0 rfl rfl 45 (by decide) (hts _ mm_X12_readSaid_2) (fun _ hh => hh) rfl (by decide +kernel) rfl rfl (Nat.le_of_ble_eq_true rfl) dX12_readSaid_173 (fun H locs hP _ hS => ?_)
                    have hP : va_P (dC, dI) vwCl (mw ar cy (up2 st85 0 45 3) sl86) H := hP
                    obtain ⟨st106, est106⟩ : ∃ y, y = up2 st85 0 45 3 := ⟨_, rfl⟩
                    have hG : MG [1, 2, 3, 6, 7, 13, 14, 15, 19, 20, 21, 22] st st106 := by rw [est106]; exact hG.up (rn (n := 3) (by decide : mr 0 45 = 9) (by omega)) (pn (by decide : pcl 0 45 = 11) (by decide))
                    rw [← est106] at hP
                    refine lv_iload_n hx hb dX12_readSaid_176 rfl (lv_at hl 0 rfl) ?_
                    exact W.zret (v := 0) hx hb hr rfl (fun t ht hW => ⟨⟨0, (st106, sl86), rfl, ⟨hG, hL, Or.inr (⟨rfl, by show st106 0 45 = _; rw [est106, up2_same], (show NKm st106 by rw [est106]; exact (show NKm st85 from hf104))⟩)⟩, mB.of ht hP⟩, hS.F ht⟩) hS.2.2 dX12_readSaid_177
                · have c16 : ¬ 20 ≤ k2 := fun hh => c16 ((nI_leI (a := 20) (b := k2) (by omega) (by omega)).mpr hh)
                  refine lv_aload_n hx hb dX12_readSaid_152 rfl (lv_at hl 3 rfl) ?_
                  refine lv_iload_n hx hb dX12_readSaid_153 rfl (lv_at hl 1 rfl) ?_
                  refine va_calli (va_runV (As := [.int (nI k2)]) (rest := []) ⟨hx, hb, hml, hown, hts⟩ (m_readOf_4 l dC dI ar cy _ hN st78 sl79 k2 gn (go + 1) n80 gb (by omega) (by omega) hG.1 ((⟨by rw [hf81.1], by rw [hf81.2.1], by omega, by omega⟩ : TS st78 n80 gb)) (by rw [hGst78.2 0 43 (by decide), est76, up2_ne (r := 0) (k := 45) (a := 0) (j := 43) _ _ (by omega), est75, up2_ne (r := 0) (k := 44) (a := 0) (j := 43) _ _ (by omega), h43]) (by rw [hGst78.2 0 44 (by decide), est76, up2_ne (r := 0) (k := 45) (a := 0) (j := 44) _ _ (by omega), est75, up2_same]) (by rw [hGst78.2 0 45 (by decide), est76, up2_same]) (by omega) (by omega) ((NKm.mg hGst78 (by decide) (show NKm st76 by rw [est76]; exact (show NKm st75 from (show NKm st75 by rw [est75]; exact (show NKm st from hNK))))))) (cwV 1 hts gX12_readSaid_X12_readOf rfl rfl rfl (by decide +kernel) ⟨Nat.le_of_ble_eq_true rfl, Nat.le_of_ble_eq_true rfl⟩) ⟨fun a U g mk q => ⟨q.1, mPre.blind q.2⟩, va_recv hK hP (ci := 11) (q0 := 0) rfl rfl, fun U hU hW => ⟨rfl, mPre.of hP hK hU hW⟩⟩ rfl rfl hl.1 rfl (lv_room (Nat.le_of_ble_eq_true rfl)) dX12_readSaid_154 ⟨Nat.le_of_ble_eq_true rfl, Nat.le_of_ble_eq_true rfl⟩) hS (fun q _ h => MA.le hS.1 q h) (MA.le hS.1) (fun r107 x t H locs ht hvm hw hB _ _ hS => ?_)
                  have hP := mB.at ht hB
                  clear hB ht hvm
                  obtain ⟨st108, sl109⟩ := x
                  obtain ⟨hG2, hL2, hw⟩ := hw
                  have hL : LQ [7, 9] sl sl109 := hL.tr hL2 (by decide)
                  clear hL2
                  dsimp only at hw
                  have hP : va_P (dC, dI) vwCl (mw ar cy st108 sl109) _ := hP
                  have hG : MG [1, 2, 3, 6, 7, 13, 14, 15, 19, 20, 21, 22] st st108 := hG.tr hG2 (by decide)
                  have hGst108 : MG [1, 2, 3, 6, 7, 13, 14, 15, 19, 20, 21, 22] st78 st108 := hG2
                  clear hG2
                  rcases hw with ⟨n110, n111, n112, n113, rfl, hf114, hf115, hf116, hf117, hf118, hf119, hf120, hf121, hf122, hf123, hf124, hf125⟩ | ⟨rfl, hf126, hf127⟩
                  · have hf114c := hf114.2.2.1
                    have hf114d := hf114.2.2.2
                    refine lv_goto (tgt := 165) hx hb dX12_readSaid_157 (by decide) ?_
                    refine lv_istore_n (lv' := [(3, .int 1), (2, .int (nI k2)), (1, .int r1), (0, .ref (ar 0))]) hx hb dX12_readSaid_165 rfl hl (by decide) rfl (fun ls hl => ?_)
                    refine lv_aload_n hx hb dX12_readSaid_166 rfl (lv_at hl 3 rfl) ?_
                    refine lv_dup hx hb dX12_readSaid_167 rfl ?_
                    refine va_get (D := (dC, dI)) (ci := 11) (v := .int (st108 0 45)) (C := RX12) (T := TX12) (N := 47) hx hb hts ii_X12_readSaid hown hK hP 0 rfl rfl 45 (by decide) (hts _ mm_X12_readSaid_2) (fun _ hh => hh) rfl dX12_readSaid_168 ?_
                    refine zz_top (v := 4) (by show st108 0 45 = _; rw [hf118]) ?_
                    refine lv_iconst (v := 1) hx hb dX12_readSaid_171 (by decide) ?_
                    refine lv_isub hx hb dX12_readSaid_172 ?_
                    refine zz_top (v := 3) (by decide) ?_
                    refine va_put (D := (dC, dI)) (ci := 11) (v := .int 3) (ty := .int) (C := RX12) (T := TX12) (N := 47) hx hb hts ii_X12_readSaid tyX12 tyX12_ok nmX12 hown hK hP (mD hN _ _ _ _) hS 0 rfl rfl 45 (by decide) (hts _ mm_X12_readSaid_2) (fun _ hh => hh) rfl (by decide +kernel) rfl rfl (Nat.le_of_ble_eq_true rfl) dX12_readSaid_173 (fun H locs hP _ hS => ?_)
                    have hP : va_P (dC, dI) vwCl (mw ar cy (up2 st108 0 45 3) sl109) H := hP
                    obtain ⟨st128, est128⟩ : ∃ y, y = up2 st108 0 45 3 := ⟨_, rfl⟩
                    have hG : MG [1, 2, 3, 6, 7, 13, 14, 15, 19, 20, 21, 22] st st128 := by rw [est128]; exact hG.up (rn (n := 3) (by decide : mr 0 45 = 9) (by omega)) (pn (by decide : pcl 0 45 = 11) (by decide))
                    rw [← est128] at hP
                    refine lv_iload_n hx hb dX12_readSaid_176 rfl (lv_at hl 0 rfl) ?_
                    exact W.zret (v := 1) hx hb hr rfl (fun t ht hW => ⟨⟨1, (st128, sl109), rfl, ⟨hG, hL, Or.inl (⟨n110, n111, n112, n113, rfl, (show TS st128 n110 gb from ⟨by rw [est128, up2_ne (r := 0) (k := 45) (a := 0) (j := 5) _ _ (by omega), hf114.1], by rw [est128, up2_ne (r := 0) (k := 45) (a := 0) (j := 3) _ _ (by omega), hf114.2.1], by omega, by omega⟩), by omega, by show st128 0 43 = (nI n111); rw [est128, up2_ne (r := 0) (k := 45) (a := 0) (j := 43) _ _ (by omega), hf116], by show st128 0 44 = (nI n112); rw [est128, up2_ne (r := 0) (k := 45) (a := 0) (j := 44) _ _ (by omega), hf117], by show st128 0 45 = 3; rw [est128, up2_same], by show st128 0 46 = (nI n113); rw [est128, up2_ne (r := 0) (k := 45) (a := 0) (j := 46) _ _ (by omega), hf119], by omega, by omega, by omega, by omega, by omega, (show NKm st128 by rw [est128]; exact (show NKm st108 from hf125))⟩)⟩, mB.of ht hP⟩, hS.F ht⟩) hS.2.2 dX12_readSaid_177
                  · refine lv_goto (tgt := 165) hx hb dX12_readSaid_157 (by decide) ?_
                    refine lv_istore_n (lv' := [(3, .int 0), (2, .int (nI k2)), (1, .int r1), (0, .ref (ar 0))]) hx hb dX12_readSaid_165 rfl hl (by decide) rfl (fun ls hl => ?_)
                    refine lv_aload_n hx hb dX12_readSaid_166 rfl (lv_at hl 3 rfl) ?_
                    refine lv_dup hx hb dX12_readSaid_167 rfl ?_
                    refine va_get (D := (dC, dI)) (ci := 11) (v := .int (st108 0 45)) (C := RX12) (T := TX12) (N := 47) hx hb hts ii_X12_readSaid hown hK hP 0 rfl rfl 45 (by decide) (hts _ mm_X12_readSaid_2) (fun _ hh => hh) rfl dX12_readSaid_168 ?_
                    refine zz_top (v := 4) (by show st108 0 45 = _; rw [hf126]) ?_
                    refine lv_iconst (v := 1) hx hb dX12_readSaid_171 (by decide) ?_
                    refine lv_isub hx hb dX12_readSaid_172 ?_
                    refine zz_top (v := 3) (by decide) ?_
                    refine va_put (D := (dC, dI)) (ci := 11) (v := .int 3) (ty := .int) (C := RX12) (T := TX12) (N := 47) hx hb hts ii_X12_readSaid tyX12 tyX12_ok nmX12 hown hK hP (mD hN _ _ _ _) hS 0 rfl rfl 45 (by decide) (hts _ mm_X12_readSaid_2) (fun _ hh => hh) rfl (by decide +kernel) rfl rfl (Nat.le_of_ble_eq_true rfl) dX12_readSaid_173 (fun H locs hP _ hS => ?_)
                    have hP : va_P (dC, dI) vwCl (mw ar cy (up2 st108 0 45 3) sl109) H := hP
                    obtain ⟨st129, est129⟩ : ∃ y, y = up2 st108 0 45 3 := ⟨_, rfl⟩
                    have hG : MG [1, 2, 3, 6, 7, 13, 14, 15, 19, 20, 21, 22] st st129 := by rw [est129]; exact hG.up (rn (n := 3) (by decide : mr 0 45 = 9) (by omega)) (pn (by decide : pcl 0 45 = 11) (by decide))
                    rw [← est129] at hP
                    refine lv_iload_n hx hb dX12_readSaid_176 rfl (lv_at hl 0 rfl) ?_
                    exact W.zret (v := 0) hx hb hr rfl (fun t ht hW => ⟨⟨0, (st129, sl109), rfl, ⟨hG, hL, Or.inr (⟨rfl, by show st129 0 45 = _; rw [est129, up2_same], (show NKm st129 by rw [est129]; exact (show NKm st108 from hf127))⟩)⟩, mB.of ht hP⟩, hS.F ht⟩) hS.2.2 dX12_readSaid_177
              · have c15 : ¬ 18 ≤ k2 := fun hh => c15 ((nI_leI (a := 18) (b := k2) (by omega) (by omega)).mpr hh)
                refine lv_aload_n hx hb dX12_readSaid_128 rfl (lv_at hl 3 rfl) ?_
                refine lv_aload_n hx hb dX12_readSaid_129 rfl (lv_at hl 3 rfl) ?_
                refine lv_bipush (v := 50) hx hb dX12_readSaid_130 (by decide) ?_
                refine lv_iload_n hx hb dX12_readSaid_132 rfl (lv_at hl 1 rfl) ?_
                refine lv_iadd hx hb dX12_readSaid_133 ?_
                refine zz_top (v := nI (50 + k2)) (nI_add 50 k2) ?_
                refine lv_iconst (v := 0) hx hb dX12_readSaid_134 (by decide) ?_
                refine lv_iconst (v := 0) hx hb dX12_readSaid_135 (by decide) ?_
                refine lv_iconst (v := 0) hx hb dX12_readSaid_136 (by decide) ?_
                refine va_calli (va_runV (As := [.int (nI (50 + k2)), .int 0, .int 0, .int 0]) (rest := [.ref (ar 0)]) ⟨hx, hb, hml, hown, hts⟩ (m_saysOne50 l dC dI ar cy _ hN st78 sl79 (50 + k2) 0 0 0 gn (by omega) (by omega) (by omega) hG.1 (by rw [hGst78.2 0 43 (by decide), est76, up2_ne (r := 0) (k := 45) (a := 0) (j := 43) _ _ (by omega), est75, up2_ne (r := 0) (k := 44) (a := 0) (j := 43) _ _ (by omega), h43]) (by omega) ((NKm.mg hGst78 (by decide) (show NKm st76 by rw [est76]; exact (show NKm st75 from (show NKm st75 by rw [est75]; exact (show NKm st from hNK))))))) (cwV 4 hts gX12_readSaid_X12_saysOne rfl rfl rfl (by decide +kernel) ⟨Nat.le_of_ble_eq_true rfl, Nat.le_of_ble_eq_true rfl⟩) ⟨fun a U g mk q => ⟨q.1, mPre.blind q.2⟩, va_recv hK hP (ci := 11) (q0 := 0) rfl rfl, fun U hU hW => ⟨rfl, mPre.of hP hK hU hW⟩⟩ rfl rfl hl.1 rfl (lv_room (Nat.le_of_ble_eq_true rfl)) dX12_readSaid_137 ⟨Nat.le_of_ble_eq_true rfl, Nat.le_of_ble_eq_true rfl⟩) hS (fun q _ h => MA.le hS.1 q h) (MA.le hS.1) (fun r130 x t H locs ht hvm hw hB _ _ hS => ?_)
                have hP := mB.at ht hB
                clear hB ht hvm
                obtain ⟨st131, sl132⟩ := x
                obtain ⟨hG2, hL2, hw⟩ := hw
                have hL : LQ [7, 9] sl sl132 := hL.tr hL2 (by decide)
                clear hL2
                dsimp only at hw
                have hP : va_P (dC, dI) vwCl (mw ar cy st131 sl132) _ := hP
                have hG : MG [1, 2, 3, 6, 7, 13, 14, 15, 19, 20, 21, 22] st st131 := hG.tr hG2 (by decide)
                have hGst131 : MG [1, 2, 3, 4, 5, 6, 7, 10, 11, 12, 13, 14, 15, 16, 17, 19, 20, 21, 22, 23] st78 st131 := hG2
                clear hG2
                obtain ⟨n133, rfl, hf134, hf135, hf136⟩ := hw
                refine va_put (D := (dC, dI)) (ci := 11) (v := .int (nI n133)) (ty := .int) (C := RX12) (T := TX12) (N := 47) hx hb hts ii_X12_readSaid tyX12 tyX12_ok nmX12 hown hK hP (mD hN _ _ _ _) hS 0 rfl rfl 46 (by decide) (hts _ mm_X12_readSaid_3) (fun _ hh => hh) rfl (by decide +kernel) rfl rfl (Nat.le_of_ble_eq_true rfl) dX12_readSaid_140 (fun H locs hP _ hS => ?_)
                have hP : va_P (dC, dI) vwCl (mw ar cy (up2 st131 0 46 (nI n133)) sl132) H := hP
                obtain ⟨st137, est137⟩ : ∃ y, y = up2 st131 0 46 (nI n133) := ⟨_, rfl⟩
                have hG : MG [1, 2, 3, 6, 7, 13, 14, 15, 19, 20, 21, 22] st st137 := by rw [est137]; exact hG.up (rn (n := n133) (by decide : mr 0 46 = 60) (by omega)) (pn (by decide : pcl 0 46 = 12) (by decide))
                rw [← est137] at hP
                refine lv_goto (tgt := 166) hx hb dX12_readSaid_143 (by decide) ?_
                refine lv_aload_n hx hb dX12_readSaid_166 rfl (lv_at hl 3 rfl) ?_
                refine lv_dup hx hb dX12_readSaid_167 rfl ?_
                refine va_get (D := (dC, dI)) (ci := 11) (v := .int (st137 0 45)) (C := RX12) (T := TX12) (N := 47) hx hb hts ii_X12_readSaid hown hK hP 0 rfl rfl 45 (by decide) (hts _ mm_X12_readSaid_2) (fun _ hh => hh) rfl dX12_readSaid_168 ?_
                refine zz_top (v := 4) (by show st137 0 45 = _; rw [est137, up2_ne (r := 0) (k := 46) (a := 0) (j := 45) _ _ (by omega), hGst131.2 0 45 (by decide), hGst78.2 0 45 (by decide), est76, up2_same]) ?_
                refine lv_iconst (v := 1) hx hb dX12_readSaid_171 (by decide) ?_
                refine lv_isub hx hb dX12_readSaid_172 ?_
                refine zz_top (v := 3) (by decide) ?_
                refine va_put (D := (dC, dI)) (ci := 11) (v := .int 3) (ty := .int) (C := RX12) (T := TX12) (N := 47) hx hb hts ii_X12_readSaid tyX12 tyX12_ok nmX12 hown hK hP (mD hN _ _ _ _) hS 0 rfl rfl 45 (by decide) (hts _ mm_X12_readSaid_2) (fun _ hh => hh) rfl (by decide +kernel) rfl rfl (Nat.le_of_ble_eq_true rfl) dX12_readSaid_173 (fun H locs hP _ hS => ?_)
                have hP : va_P (dC, dI) vwCl (mw ar cy (up2 st137 0 45 3) sl132) H := hP
                obtain ⟨st138, est138⟩ : ∃ y, y = up2 st137 0 45 3 := ⟨_, rfl⟩
                have hG : MG [1, 2, 3, 6, 7, 13, 14, 15, 19, 20, 21, 22] st st138 := by rw [est138]; exact hG.up (rn (n := 3) (by decide : mr 0 45 = 9) (by omega)) (pn (by decide : pcl 0 45 = 11) (by decide))
                rw [← est138] at hP
                refine lv_iload_n hx hb dX12_readSaid_176 rfl (lv_at hl 0 rfl) ?_
                exact W.zret (v := 1) hx hb hr rfl (fun t ht hW => ⟨⟨1, (st138, sl132), rfl, ⟨hG, hL, Or.inl (⟨n80, (gn + 1), (go + 1), n133, rfl, (show TS st138 n80 gb from ⟨by rw [est138, up2_ne (r := 0) (k := 45) (a := 0) (j := 5) _ _ (by omega), est137, up2_ne (r := 0) (k := 46) (a := 0) (j := 5) _ _ (by omega), hGst131.2 0 5 (by decide), hf81.1], by rw [est138, up2_ne (r := 0) (k := 45) (a := 0) (j := 3) _ _ (by omega), est137, up2_ne (r := 0) (k := 46) (a := 0) (j := 3) _ _ (by omega), hGst131.2 0 3 (by decide), hf81.2.1], by omega, by omega⟩), by omega, by show st138 0 43 = (nI (gn + 1)); rw [est138, up2_ne (r := 0) (k := 45) (a := 0) (j := 43) _ _ (by omega), est137, up2_ne (r := 0) (k := 46) (a := 0) (j := 43) _ _ (by omega), hf135], by show st138 0 44 = (nI (go + 1)); rw [est138, up2_ne (r := 0) (k := 45) (a := 0) (j := 44) _ _ (by omega), est137, up2_ne (r := 0) (k := 46) (a := 0) (j := 44) _ _ (by omega), hGst131.2 0 44 (by decide), hGst78.2 0 44 (by decide), est76, up2_ne (r := 0) (k := 45) (a := 0) (j := 44) _ _ (by omega), est75, up2_same], by show st138 0 45 = 3; rw [est138, up2_same], by show st138 0 46 = (nI n133); rw [est138, up2_ne (r := 0) (k := 45) (a := 0) (j := 46) _ _ (by omega), est137, up2_same], by omega, by omega, by omega, by omega, by omega, (show NKm st138 by rw [est138]; exact (show NKm st137 from (show NKm st137 by rw [est137]; exact (show NKm st131 from hf136))))⟩)⟩, mB.of ht hP⟩, hS.F ht⟩) hS.2.2 dX12_readSaid_177
            · have c14 : k2 = 15 := (nI_eq (a := k2) (b := 15) (by omega) (by omega)).mp c14
              refine lv_aload_n hx hb dX12_readSaid_114 rfl (lv_at hl 3 rfl) ?_
              refine va_calli (va_runV (As := []) (rest := []) ⟨hx, hb, hml, hown, hts⟩ (m_readNot_4 l dC dI ar cy _ hN st78 sl79 gn (go + 1) n80 gb  hG.1 ((⟨by rw [hf81.1], by rw [hf81.2.1], by omega, by omega⟩ : TS st78 n80 gb)) (by rw [hGst78.2 0 43 (by decide), est76, up2_ne (r := 0) (k := 45) (a := 0) (j := 43) _ _ (by omega), est75, up2_ne (r := 0) (k := 44) (a := 0) (j := 43) _ _ (by omega), h43]) (by rw [hGst78.2 0 44 (by decide), est76, up2_ne (r := 0) (k := 45) (a := 0) (j := 44) _ _ (by omega), est75, up2_same]) (by rw [hGst78.2 0 45 (by decide), est76, up2_same]) (by omega) (by omega) ((NKm.mg hGst78 (by decide) (show NKm st76 by rw [est76]; exact (show NKm st75 from (show NKm st75 by rw [est75]; exact (show NKm st from hNK))))))) (cwV 0 hts gX12_readSaid_X12_readNot rfl rfl rfl (by decide +kernel) ⟨Nat.le_of_ble_eq_true rfl, Nat.le_of_ble_eq_true rfl⟩) ⟨fun a U g mk q => ⟨q.1, mPre.blind q.2⟩, va_recv hK hP (ci := 11) (q0 := 0) rfl rfl, fun U hU hW => ⟨rfl, mPre.of hP hK hU hW⟩⟩ rfl rfl hl.1 rfl (lv_room (Nat.le_of_ble_eq_true rfl)) dX12_readSaid_115 ⟨Nat.le_of_ble_eq_true rfl, Nat.le_of_ble_eq_true rfl⟩) hS (fun q _ h => MA.le hS.1 q h) (MA.le hS.1) (fun r139 x t H locs ht hvm hw hB _ _ hS => ?_)
              have hP := mB.at ht hB
              clear hB ht hvm
              obtain ⟨st140, sl141⟩ := x
              obtain ⟨hG2, hL2, hw⟩ := hw
              have hL : LQ [7, 9] sl sl141 := hL.tr hL2 (by decide)
              clear hL2
              dsimp only at hw
              have hP : va_P (dC, dI) vwCl (mw ar cy st140 sl141) _ := hP
              have hG : MG [1, 2, 3, 6, 7, 13, 14, 15, 19, 20, 21, 22] st st140 := hG.tr hG2 (by decide)
              have hGst140 : MG [1, 2, 3, 6, 7, 13, 14, 15, 19, 20, 21, 22] st78 st140 := hG2
              clear hG2
              rcases hw with ⟨n142, n143, n144, n145, rfl, hf146, hf147, hf148, hf149, hf150, hf151, hf152, hf153, hf154, hf155, hf156, hf157⟩ | ⟨rfl, hf158, hf159⟩
              · have hf146c := hf146.2.2.1
                have hf146d := hf146.2.2.2
                refine lv_istore_n (lv' := [(3, .int 1), (2, .int (nI k2)), (1, .int r1), (0, .ref (ar 0))]) hx hb dX12_readSaid_118 rfl hl (by decide) rfl (fun ls hl => ?_)
                refine lv_goto (tgt := 166) hx hb dX12_readSaid_119 (by decide) ?_
                refine lv_aload_n hx hb dX12_readSaid_166 rfl (lv_at hl 3 rfl) ?_
                refine lv_dup hx hb dX12_readSaid_167 rfl ?_
                refine va_get (D := (dC, dI)) (ci := 11) (v := .int (st140 0 45)) (C := RX12) (T := TX12) (N := 47) hx hb hts ii_X12_readSaid hown hK hP 0 rfl rfl 45 (by decide) (hts _ mm_X12_readSaid_2) (fun _ hh => hh) rfl dX12_readSaid_168 ?_
                refine zz_top (v := 4) (by show st140 0 45 = _; rw [hf150]) ?_
                refine lv_iconst (v := 1) hx hb dX12_readSaid_171 (by decide) ?_
                refine lv_isub hx hb dX12_readSaid_172 ?_
                refine zz_top (v := 3) (by decide) ?_
                refine va_put (D := (dC, dI)) (ci := 11) (v := .int 3) (ty := .int) (C := RX12) (T := TX12) (N := 47) hx hb hts ii_X12_readSaid tyX12 tyX12_ok nmX12 hown hK hP (mD hN _ _ _ _) hS 0 rfl rfl 45 (by decide) (hts _ mm_X12_readSaid_2) (fun _ hh => hh) rfl (by decide +kernel) rfl rfl (Nat.le_of_ble_eq_true rfl) dX12_readSaid_173 (fun H locs hP _ hS => ?_)
                have hP : va_P (dC, dI) vwCl (mw ar cy (up2 st140 0 45 3) sl141) H := hP
                obtain ⟨st160, est160⟩ : ∃ y, y = up2 st140 0 45 3 := ⟨_, rfl⟩
                have hG : MG [1, 2, 3, 6, 7, 13, 14, 15, 19, 20, 21, 22] st st160 := by rw [est160]; exact hG.up (rn (n := 3) (by decide : mr 0 45 = 9) (by omega)) (pn (by decide : pcl 0 45 = 11) (by decide))
                rw [← est160] at hP
                refine lv_iload_n hx hb dX12_readSaid_176 rfl (lv_at hl 0 rfl) ?_
                exact W.zret (v := 1) hx hb hr rfl (fun t ht hW => ⟨⟨1, (st160, sl141), rfl, ⟨hG, hL, Or.inl (⟨n142, n143, n144, n145, rfl, (show TS st160 n142 gb from ⟨by rw [est160, up2_ne (r := 0) (k := 45) (a := 0) (j := 5) _ _ (by omega), hf146.1], by rw [est160, up2_ne (r := 0) (k := 45) (a := 0) (j := 3) _ _ (by omega), hf146.2.1], by omega, by omega⟩), by omega, by show st160 0 43 = (nI n143); rw [est160, up2_ne (r := 0) (k := 45) (a := 0) (j := 43) _ _ (by omega), hf148], by show st160 0 44 = (nI n144); rw [est160, up2_ne (r := 0) (k := 45) (a := 0) (j := 44) _ _ (by omega), hf149], by show st160 0 45 = 3; rw [est160, up2_same], by show st160 0 46 = (nI n145); rw [est160, up2_ne (r := 0) (k := 45) (a := 0) (j := 46) _ _ (by omega), hf151], by omega, by omega, by omega, by omega, by omega, (show NKm st160 by rw [est160]; exact (show NKm st140 from hf157))⟩)⟩, mB.of ht hP⟩, hS.F ht⟩) hS.2.2 dX12_readSaid_177
              · refine lv_istore_n (lv' := [(3, .int 0), (2, .int (nI k2)), (1, .int r1), (0, .ref (ar 0))]) hx hb dX12_readSaid_118 rfl hl (by decide) rfl (fun ls hl => ?_)
                refine lv_goto (tgt := 166) hx hb dX12_readSaid_119 (by decide) ?_
                refine lv_aload_n hx hb dX12_readSaid_166 rfl (lv_at hl 3 rfl) ?_
                refine lv_dup hx hb dX12_readSaid_167 rfl ?_
                refine va_get (D := (dC, dI)) (ci := 11) (v := .int (st140 0 45)) (C := RX12) (T := TX12) (N := 47) hx hb hts ii_X12_readSaid hown hK hP 0 rfl rfl 45 (by decide) (hts _ mm_X12_readSaid_2) (fun _ hh => hh) rfl dX12_readSaid_168 ?_
                refine zz_top (v := 4) (by show st140 0 45 = _; rw [hf158]) ?_
                refine lv_iconst (v := 1) hx hb dX12_readSaid_171 (by decide) ?_
                refine lv_isub hx hb dX12_readSaid_172 ?_
                refine zz_top (v := 3) (by decide) ?_
                refine va_put (D := (dC, dI)) (ci := 11) (v := .int 3) (ty := .int) (C := RX12) (T := TX12) (N := 47) hx hb hts ii_X12_readSaid tyX12 tyX12_ok nmX12 hown hK hP (mD hN _ _ _ _) hS 0 rfl rfl 45 (by decide) (hts _ mm_X12_readSaid_2) (fun _ hh => hh) rfl (by decide +kernel) rfl rfl (Nat.le_of_ble_eq_true rfl) dX12_readSaid_173 (fun H locs hP _ hS => ?_)
                have hP : va_P (dC, dI) vwCl (mw ar cy (up2 st140 0 45 3) sl141) H := hP
                obtain ⟨st161, est161⟩ : ∃ y, y = up2 st140 0 45 3 := ⟨_, rfl⟩
                have hG : MG [1, 2, 3, 6, 7, 13, 14, 15, 19, 20, 21, 22] st st161 := by rw [est161]; exact hG.up (rn (n := 3) (by decide : mr 0 45 = 9) (by omega)) (pn (by decide : pcl 0 45 = 11) (by decide))
                rw [← est161] at hP
                refine lv_iload_n hx hb dX12_readSaid_176 rfl (lv_at hl 0 rfl) ?_
                exact W.zret (v := 0) hx hb hr rfl (fun t ht hW => ⟨⟨0, (st161, sl141), rfl, ⟨hG, hL, Or.inr (⟨rfl, by show st161 0 45 = _; rw [est161, up2_same], (show NKm st161 by rw [est161]; exact (show NKm st140 from hf159))⟩)⟩, mB.of ht hP⟩, hS.F ht⟩) hS.2.2 dX12_readSaid_177
          · refine lv_aload_n hx hb dX12_readSaid_100 rfl (lv_at hl 3 rfl) ?_
            refine va_calli (va_runV (As := []) (rest := []) ⟨hx, hb, hml, hown, hts⟩ (m_readBracket_4 l dC dI ar cy _ hN st78 sl79 gn (go + 1) n80 gb  hG.1 ((⟨by rw [hf81.1], by rw [hf81.2.1], by omega, by omega⟩ : TS st78 n80 gb)) (by rw [hGst78.2 0 43 (by decide), est76, up2_ne (r := 0) (k := 45) (a := 0) (j := 43) _ _ (by omega), est75, up2_ne (r := 0) (k := 44) (a := 0) (j := 43) _ _ (by omega), h43]) (by rw [hGst78.2 0 44 (by decide), est76, up2_ne (r := 0) (k := 45) (a := 0) (j := 44) _ _ (by omega), est75, up2_same]) (by rw [hGst78.2 0 45 (by decide), est76, up2_same]) (by omega) (by omega) ((NKm.mg hGst78 (by decide) (show NKm st76 by rw [est76]; exact (show NKm st75 from (show NKm st75 by rw [est75]; exact (show NKm st from hNK))))))) (cwV 0 hts gX12_readSaid_X12_readBracket rfl rfl rfl (by decide +kernel) ⟨Nat.le_of_ble_eq_true rfl, Nat.le_of_ble_eq_true rfl⟩) ⟨fun a U g mk q => ⟨q.1, mPre.blind q.2⟩, va_recv hK hP (ci := 11) (q0 := 0) rfl rfl, fun U hU hW => ⟨rfl, mPre.of hP hK hU hW⟩⟩ rfl rfl hl.1 rfl (lv_room (Nat.le_of_ble_eq_true rfl)) dX12_readSaid_101 ⟨Nat.le_of_ble_eq_true rfl, Nat.le_of_ble_eq_true rfl⟩) hS (fun q _ h => MA.le hS.1 q h) (MA.le hS.1) (fun r162 x t H locs ht hvm hw hB _ _ hS => ?_)
            have hP := mB.at ht hB
            clear hB ht hvm
            obtain ⟨st163, sl164⟩ := x
            obtain ⟨hG2, hL2, hw⟩ := hw
            have hL : LQ [7, 9] sl sl164 := hL.tr hL2 (by decide)
            clear hL2
            dsimp only at hw
            have hP : va_P (dC, dI) vwCl (mw ar cy st163 sl164) _ := hP
            have hG : MG [1, 2, 3, 6, 7, 13, 14, 15, 19, 20, 21, 22] st st163 := hG.tr hG2 (by decide)
            have hGst163 : MG [1, 2, 3, 6, 7, 13, 14, 15, 19, 20, 21, 22] st78 st163 := hG2
            clear hG2
            rcases hw with ⟨n165, n166, n167, n168, rfl, hf169, hf170, hf171, hf172, hf173, hf174, hf175, hf176, hf177, hf178, hf179, hf180⟩ | ⟨rfl, hf181, hf182⟩
            · have hf169c := hf169.2.2.1
              have hf169d := hf169.2.2.2
              refine lv_istore_n (lv' := [(3, .int 1), (2, .int (nI k2)), (1, .int r1), (0, .ref (ar 0))]) hx hb dX12_readSaid_104 rfl hl (by decide) rfl (fun ls hl => ?_)
              refine lv_goto (tgt := 166) hx hb dX12_readSaid_105 (by decide) ?_
              refine lv_aload_n hx hb dX12_readSaid_166 rfl (lv_at hl 3 rfl) ?_
              refine lv_dup hx hb dX12_readSaid_167 rfl ?_
              refine va_get (D := (dC, dI)) (ci := 11) (v := .int (st163 0 45)) (C := RX12) (T := TX12) (N := 47) hx hb hts ii_X12_readSaid hown hK hP 0 rfl rfl 45 (by decide) (hts _ mm_X12_readSaid_2) (fun _ hh => hh) rfl dX12_readSaid_168 ?_
              refine zz_top (v := 4) (by show st163 0 45 = _; rw [hf173]) ?_
              refine lv_iconst (v := 1) hx hb dX12_readSaid_171 (by decide) ?_
              refine lv_isub hx hb dX12_readSaid_172 ?_
              refine zz_top (v := 3) (by decide) ?_
              refine va_put (D := (dC, dI)) (ci := 11) (v := .int 3) (ty := .int) (C := RX12) (T := TX12) (N := 47) hx hb hts ii_X12_readSaid tyX12 tyX12_ok nmX12 hown hK hP (mD hN _ _ _ _) hS 0 rfl rfl 45 (by decide) (hts _ mm_X12_readSaid_2) (fun _ hh => hh) rfl (by decide +kernel) rfl rfl (Nat.le_of_ble_eq_true rfl) dX12_readSaid_173 (fun H locs hP _ hS => ?_)
              have hP : va_P (dC, dI) vwCl (mw ar cy (up2 st163 0 45 3) sl164) H := hP
              obtain ⟨st183, est183⟩ : ∃ y, y = up2 st163 0 45 3 := ⟨_, rfl⟩
              have hG : MG [1, 2, 3, 6, 7, 13, 14, 15, 19, 20, 21, 22] st st183 := by rw [est183]; exact hG.up (rn (n := 3) (by decide : mr 0 45 = 9) (by omega)) (pn (by decide : pcl 0 45 = 11) (by decide))
              rw [← est183] at hP
              refine lv_iload_n hx hb dX12_readSaid_176 rfl (lv_at hl 0 rfl) ?_
              exact W.zret (v := 1) hx hb hr rfl (fun t ht hW => ⟨⟨1, (st183, sl164), rfl, ⟨hG, hL, Or.inl (⟨n165, n166, n167, n168, rfl, (show TS st183 n165 gb from ⟨by rw [est183, up2_ne (r := 0) (k := 45) (a := 0) (j := 5) _ _ (by omega), hf169.1], by rw [est183, up2_ne (r := 0) (k := 45) (a := 0) (j := 3) _ _ (by omega), hf169.2.1], by omega, by omega⟩), by omega, by show st183 0 43 = (nI n166); rw [est183, up2_ne (r := 0) (k := 45) (a := 0) (j := 43) _ _ (by omega), hf171], by show st183 0 44 = (nI n167); rw [est183, up2_ne (r := 0) (k := 45) (a := 0) (j := 44) _ _ (by omega), hf172], by show st183 0 45 = 3; rw [est183, up2_same], by show st183 0 46 = (nI n168); rw [est183, up2_ne (r := 0) (k := 45) (a := 0) (j := 46) _ _ (by omega), hf174], by omega, by omega, by omega, by omega, by omega, (show NKm st183 by rw [est183]; exact (show NKm st163 from hf180))⟩)⟩, mB.of ht hP⟩, hS.F ht⟩) hS.2.2 dX12_readSaid_177
            · refine lv_istore_n (lv' := [(3, .int 0), (2, .int (nI k2)), (1, .int r1), (0, .ref (ar 0))]) hx hb dX12_readSaid_104 rfl hl (by decide) rfl (fun ls hl => ?_)
              refine lv_goto (tgt := 166) hx hb dX12_readSaid_105 (by decide) ?_
              refine lv_aload_n hx hb dX12_readSaid_166 rfl (lv_at hl 3 rfl) ?_
              refine lv_dup hx hb dX12_readSaid_167 rfl ?_
              refine va_get (D := (dC, dI)) (ci := 11) (v := .int (st163 0 45)) (C := RX12) (T := TX12) (N := 47) hx hb hts ii_X12_readSaid hown hK hP 0 rfl rfl 45 (by decide) (hts _ mm_X12_readSaid_2) (fun _ hh => hh) rfl dX12_readSaid_168 ?_
              refine zz_top (v := 4) (by show st163 0 45 = _; rw [hf181]) ?_
              refine lv_iconst (v := 1) hx hb dX12_readSaid_171 (by decide) ?_
              refine lv_isub hx hb dX12_readSaid_172 ?_
              refine zz_top (v := 3) (by decide) ?_
              refine va_put (D := (dC, dI)) (ci := 11) (v := .int 3) (ty := .int) (C := RX12) (T := TX12) (N := 47) hx hb hts ii_X12_readSaid tyX12 tyX12_ok nmX12 hown hK hP (mD hN _ _ _ _) hS 0 rfl rfl 45 (by decide) (hts _ mm_X12_readSaid_2) (fun _ hh => hh) rfl (by decide +kernel) rfl rfl (Nat.le_of_ble_eq_true rfl) dX12_readSaid_173 (fun H locs hP _ hS => ?_)
              have hP : va_P (dC, dI) vwCl (mw ar cy (up2 st163 0 45 3) sl164) H := hP
              obtain ⟨st184, est184⟩ : ∃ y, y = up2 st163 0 45 3 := ⟨_, rfl⟩
              have hG : MG [1, 2, 3, 6, 7, 13, 14, 15, 19, 20, 21, 22] st st184 := by rw [est184]; exact hG.up (rn (n := 3) (by decide : mr 0 45 = 9) (by omega)) (pn (by decide : pcl 0 45 = 11) (by decide))
              rw [← est184] at hP
              refine lv_iload_n hx hb dX12_readSaid_176 rfl (lv_at hl 0 rfl) ?_
              exact W.zret (v := 0) hx hb hr rfl (fun t ht hW => ⟨⟨0, (st184, sl164), rfl, ⟨hG, hL, Or.inr (⟨rfl, by show st184 0 45 = _; rw [est184, up2_same], (show NKm st184 by rw [est184]; exact (show NKm st163 from hf182))⟩)⟩, mB.of ht hP⟩, hS.F ht⟩) hS.2.2 dX12_readSaid_177
      refine lv_iload_n hx hb dX12_readSaid_30 rfl (lv_at hl 1 rfl) ?_
      refine lv_if_ne (tgt := 46) hx hb dX12_readSaid_31 (by decide) (fun c17 => ?_) (fun c17 => ?_)
      · exact kj70 _ _ _ _ ⟨fun hh => by first | omega | exact absurd hh (by assumption), hP, hS, lv_sub hl [0, 1, 2] rfl, rfl⟩
      · refine lv_iload_n hx hb dX12_readSaid_34 rfl (lv_at hl 0 rfl) ?_
        refine lv_bipush (v := 23) hx hb dX12_readSaid_35 (by decide) ?_
        refine lv_icmp_le (tgt := 46) hx hb dX12_readSaid_37 (by decide) (fun _ => ?_) (fun cc => absurd ((nI_leI (a := k2) (b := 23) (by omega) (by omega)).mpr (by omega)) cc)
        exact kj70 _ _ _ _ ⟨fun hh => by first | omega | exact absurd hh (by assumption), hP, hS, lv_sub hl [0, 1, 2] rfl, rfl⟩
    · refine lv_if_ne (tgt := 30) hx hb dX12_readSaid_21 (by decide) (fun cc => absurd (by decide) cc) (fun _ => ?_)
      refine lv_iinc (v := (nI (k2 + 1))) (lv' := [(2, .int (nI (k2 + 1))), (1, .int r1), (0, .ref (ar 0))]) hx hb dX12_readSaid_24 hl (k := 0) rfl (nI_add k2 1) (by decide) rfl (fun ls hl => ?_)
      refine lv_goto (tgt := 10) hx hb dX12_readSaid_27 (by decide) ?_
      exact ih5 (25 - (k2 + 1)) _ _ _ _ (by omega) ⟨(k2 + 1), rfl, by omega, by omega, hP, hS, lv_sub hl [0, 1, 2] rfl, rfl⟩
set_option maxHeartbeats 4000000 in
set_option maxRecDepth 100000 in
theorem m_readAnd_3 (l : Launch) (dC : Nat → ClassId) (dI : Nat → Nat → Nat) (ar : Nat → Nat) (cy : Nat → ClassId) (sz : Nat) (hN : MN ar) (st : Nat → Nat → Int32) (sl : Nat → Nat → Int64) (gn : Nat) (go : Nat) (ga gb : Nat) (hI : MI st) (hT : TS st ga gb) (h43 : st 0 43 = nI gn) (h44 : st 0 44 = nI go) (h45 : st 0 45 = 3) (hgn : gn ≤ 2 * go) (hgo : go ≤ 20) (hNK : NKm st) : Met l yX12_readAnd wsX12_readAnd ({ frames := 24, cells := 0, slots := 0, locals := 517 }) (va_Pc [.ref (ar 0)] (mPre dC dI ar cy sz st sl)) (va_Qi (fun (r : Int32) (x : MT) => MG [1, 2, 3, 6, 7, 13, 14, 15, 19, 20, 21, 22] st x.1 ∧ LQ [7, 9] sl x.2 ∧ ((∃ g : Nat, ∃ n1 : Nat, ∃ o1 : Nat, ∃ t1 : Nat, r = 1 ∧ TS x.1 g gb ∧ ga ≤ g ∧ x.1 0 43 = nI n1 ∧ x.1 0 44 = nI o1 ∧ x.1 0 45 = 3 ∧ x.1 0 46 = nI t1 ∧ t1 < n1 ∧ n1 + 2 * go + 1 ≤ gn + 2 * o1 ∧ go + 1 ≤ o1 ∧ o1 ≤ 20 ∧ gn ≤ n1 ∧ NKm x.1) ∨ (r = 0 ∧ x.1 0 45 = 3 ∧ NKm x.1))) (mB dC dI ar cy) (MA ar sz)) 0 0 (MA ar sz) := by
  refine Met.ofW (cc := cX12_readAnd) (maxL := 2) (ret := (some .boolean)) (by decide) rfl ?_
  intro p e s m args below meth c s₁ B hml hv
  obtain ⟨rfl, hsz, hP, hK⟩ := hv
  have hx := B.exec
  have hb := B.bytes
  have hr := B.returns
  have hts := atoms_spec (ws := wsX12_readAnd) B.pre
  have hown : s.vm.findClass RX12 = some m.cls := findClass_of_methodNamed B.named
  subst hsz
  have hS : va_S (MA ar s.heap.size) s.heap s.heap [] := va_S.rf
  have hG : MG [1, 2, 3, 6, 7, 13, 14, 15, 19, 20, 21, 22] st st := MG.rf hI
  have hl := lv_entry ([.ref (ar 0)]) (n := 2) (Nat.le_of_ble_eq_true rfl)
  rw [lg_entry_eq]
  generalize (lg_sl ([.ref (ar 0)]) ++ List.replicate (2 - (lg_sl ([.ref (ar 0)])).length) Slot.unset).toArray = ls at hl ⊢
  have hl : lv_has ls 2 [(0, .ref (ar 0))] := hl
  clear hI
  have hL : LQ [7, 9] sl sl := LQ.rf
  have hTc := hT.2.2.1
  have hTd := hT.2.2.2
  have hga : ga ≤ ga := Nat.le_refl ga
  refine lv_aload_n hx hb dX12_readAnd_0 rfl (lv_at hl 0 rfl) ?_
  refine va_calli (va_runV (As := []) (rest := []) ⟨hx, hb, hml, hown, hts⟩ (m_readSaid_3 l dC dI ar cy _ hN st sl gn go ga gb  hG.1 ((⟨by rw [hT.1], by rw [hT.2.1], by omega, by omega⟩ : TS st ga gb)) (by rw [h43]) (by rw [h44]) (by rw [h45]) (by omega) (by omega) (hNK)) (cwV 0 hts gX12_readAnd_X12_readSaid rfl rfl rfl (by decide +kernel) ⟨Nat.le_of_ble_eq_true rfl, Nat.le_of_ble_eq_true rfl⟩) ⟨fun a U g mk q => ⟨q.1, mPre.blind q.2⟩, va_recv hK hP (ci := 11) (q0 := 0) rfl rfl, fun U hU hW => ⟨rfl, mPre.of hP hK hU hW⟩⟩ rfl rfl hl.1 rfl (lv_room (Nat.le_of_ble_eq_true rfl)) dX12_readAnd_1 ⟨Nat.le_of_ble_eq_true rfl, Nat.le_of_ble_eq_true rfl⟩) hS (fun q _ h => MA.le hS.1 q h) (MA.le hS.1) (fun r1 x t H locs ht hvm hw hB _ _ hS => ?_)
  have hP := mB.at ht hB
  clear hB ht hvm
  obtain ⟨st2, sl3⟩ := x
  obtain ⟨hG2, hL2, hw⟩ := hw
  have hL : LQ [7, 9] sl sl3 := hL.tr hL2 (by decide)
  clear hL2
  dsimp only at hw
  have hP : va_P (dC, dI) vwCl (mw ar cy st2 sl3) _ := hP
  have hG : MG [1, 2, 3, 6, 7, 13, 14, 15, 19, 20, 21, 22] st st2 := hG.tr hG2 (by decide)
  have hGst2 : MG [1, 2, 3, 6, 7, 13, 14, 15, 19, 20, 21, 22] st st2 := hG2
  clear hG2
  rcases hw with ⟨n4, n5, n6, n7, rfl, hf8, hf9, hf10, hf11, hf12, hf13, hf14, hf15, hf16, hf17, hf18, hf19⟩ | ⟨rfl, hf20, hf21⟩
  · have hf8c := hf8.2.2.1
    have hf8d := hf8.2.2.2
    refine lv_if_ne (tgt := 9) hx hb dX12_readAnd_4 (by decide) (fun _ => ?_) (fun cc => absurd cc (by decide))
    refine lv_aload_n hx hb dX12_readAnd_9 rfl (lv_at hl 0 rfl) ?_
    refine va_get (D := (dC, dI)) (ci := 11) (v := .int (st2 0 46)) (C := RX12) (T := TX12) (N := 47) hx hb hts ii_X12_readAnd hown hK hP 0 rfl rfl 46 (by decide) (hts _ mm_X12_readAnd_1) (fun _ hh => hh) rfl dX12_readAnd_10 ?_
    refine zz_top (v := (nI n7)) (by show st2 0 46 = _; rw [hf13]) ?_
    refine lv_istore_n (lv' := [(1, .int (nI n7)), (0, .ref (ar 0))]) hx hb dX12_readAnd_13 rfl hl (by decide) rfl (fun ls hl => ?_)
    refine zz_wf (fun n stk H locs ls => ∃ k22 : Nat, ∃ st23 : Nat → Nat → Int32, ∃ sl24 : Nat → Nat → Int64, ∃ n25 : Nat, ∃ o26 : Nat, ∃ g27 : Nat, n = 21 - o26 ∧ 0 ≤ k22 ∧ k22 < 60 ∧ st23 0 43 = nI n25 ∧ st23 0 44 = nI o26 ∧ TS st23 g27 gb ∧ ga ≤ g27 ∧ k22 < n25 ∧ n25 + 2 * go + 1 ≤ gn + 2 * o26 ∧ go + 1 ≤ o26 ∧ o26 ≤ 20 ∧ gn ≤ n25 ∧ NKm st23 ∧ st23 0 45 = 3 ∧ va_P (dC, dI) vwCl (mw ar cy st23 sl24) H ∧ MG [1, 2, 3, 6, 7, 13, 14, 15, 19, 20, 21, 22] st st23 ∧ LQ [7, 9] sl sl24 ∧ va_S (MA ar s.heap.size) s.heap H locs ∧ lv_has ls 2 [(1, .int (nI k22)), (0, .ref (ar 0))] ∧ stk = []) ?_ (21 - n6) _ _ _ _ ⟨n7, st2, sl3, n5, n6, n4, rfl, by omega, by omega, by rw [hf10], by rw [hf11], ⟨by rw [hf8.1], by rw [hf8.2.1], by omega, by omega⟩, by omega, by omega, by omega, by omega, by omega, by omega, hf19, by rw [hf12], hP, hG, hL, hS, lv_sub hl [0, 1] rfl, rfl⟩
    rintro nn stk H locs ls ⟨k22, st23, sl24, n25, o26, g27, hm36, hv28_0, hv29_1, en25, eo26, hTg27, hTg27g, hv30_0, hv31_1, hv32_2, hv33_3, hv34_4, hv35_5, hv36_6, hP, hG, hL, hS, hl, rfl⟩ ih37
    have hTg27c := hTg27.2.2.1
    have hTg27d := hTg27.2.2.2
    refine lv_aload_n hx hb dX12_readAnd_14 rfl (lv_at hl 1 rfl) ?_
    refine lv_bipush (v := 14) hx hb dX12_readAnd_15 (by decide) ?_
    refine va_calli (va_runV (As := [.int 14]) (rest := []) ⟨hx, hb, hml, hown, hts⟩ (m_isWord l dC dI ar cy _ hN st23 sl24 14  hG.1) (cwV 1 hts gX12_readAnd_X12_isWord rfl rfl rfl (by decide +kernel) ⟨Nat.le_of_ble_eq_true rfl, Nat.le_of_ble_eq_true rfl⟩) ⟨fun a U g mk q => ⟨q.1, mPre.blind q.2⟩, va_recv hK hP (ci := 11) (q0 := 0) rfl rfl, fun U hU hW => ⟨rfl, mPre.of hP hK hU hW⟩⟩ rfl rfl hl.1 rfl (lv_room (Nat.le_of_ble_eq_true rfl)) dX12_readAnd_17 ⟨Nat.le_of_ble_eq_true rfl, Nat.le_of_ble_eq_true rfl⟩) hS (fun q _ h => MA.le hS.1 q h) (MA.le hS.1) (fun r38 x t H locs ht hvm hw hB _ _ hS => ?_)
    have hP := mB.at ht hB
    clear hB ht hvm
    obtain ⟨rfl, hw⟩ := hw
    have hP : va_P (dC, dI) vwCl (mw ar cy st23 sl24) _ := hP
    rcases hw with rfl | rfl
    · refine lv_if_eq (tgt := 51) hx hb dX12_readAnd_20 (by decide) (fun cc => absurd cc (by decide)) (fun _ => ?_)
      refine lv_aload_n hx hb dX12_readAnd_23 rfl (lv_at hl 1 rfl) ?_
      refine va_callv (va_runV (As := []) (rest := []) ⟨hx, hb, hml, hown, hts⟩ (m_go l dC dI ar cy _ hN st23 sl24 g27 gb  hG.1 ((⟨by rw [hTg27.1], by rw [hTg27.2.1], by omega, by omega⟩ : TS st23 g27 gb))) (cwV 0 hts gX12_readAnd_X12_go rfl rfl rfl (by decide +kernel) ⟨Nat.le_of_ble_eq_true rfl, Nat.le_of_ble_eq_true rfl⟩) ⟨fun a U g mk q => ⟨q.1, mPre.blind q.2⟩, va_recv hK hP (ci := 11) (q0 := 0) rfl rfl, fun U hU hW => ⟨rfl, mPre.of hP hK hU hW⟩⟩ rfl rfl hl.1 rfl (lv_room (Nat.le_of_ble_eq_true rfl)) dX12_readAnd_24 ⟨Nat.le_of_ble_eq_true rfl, Nat.le_of_ble_eq_true rfl⟩) hS (fun q _ h => MA.le hS.1 q h) (MA.le hS.1) (fun x t H locs ht hvm hw hB _ _ hS => ?_)
      have hP := mB.at ht hB
      clear hB ht hvm
      obtain ⟨st40, sl41⟩ := x
      obtain ⟨hG2, hL2, hw⟩ := hw
      have hL : LQ [7, 9] sl sl41 := hL.tr hL2 (by decide)
      clear hL2
      dsimp only at hw
      have hP : va_P (dC, dI) vwCl (mw ar cy st40 sl41) _ := hP
      have hG : MG [1, 2, 3, 6, 7, 13, 14, 15, 19, 20, 21, 22] st st40 := hG.tr hG2 (by decide)
      have hGst40 : MG [1, 2, 3, 6, 7, 8, 9, 10, 11, 12, 13, 14, 15, 16, 19, 20, 21, 22, 23] st23 st40 := hG2
      clear hG2
      obtain ⟨n42, hf43, hf44, hf45⟩ := hw
      have hf43c := hf43.2.2.1
      have hf43d := hf43.2.2.2
      refine lv_aload_n hx hb dX12_readAnd_27 rfl (lv_at hl 1 rfl) ?_
      refine va_calli (va_runV (As := []) (rest := []) ⟨hx, hb, hml, hown, hts⟩ (m_readSaid_3 l dC dI ar cy _ hN st40 sl41 n25 o26 n42 gb  hG.1 ((⟨by rw [hf43.1], by rw [hf43.2.1], by omega, by omega⟩ : TS st40 n42 gb)) (by rw [hGst40.2 0 43 (by decide), en25]) (by rw [hGst40.2 0 44 (by decide), eo26]) (by rw [hGst40.2 0 45 (by decide), hv36_6]) (by omega) (by omega) ((NKm.mg hGst40 (by decide) hv35_5))) (cwV 0 hts gX12_readAnd_X12_readSaid rfl rfl rfl (by decide +kernel) ⟨Nat.le_of_ble_eq_true rfl, Nat.le_of_ble_eq_true rfl⟩) ⟨fun a U g mk q => ⟨q.1, mPre.blind q.2⟩, va_recv hK hP (ci := 11) (q0 := 0) rfl rfl, fun U hU hW => ⟨rfl, mPre.of hP hK hU hW⟩⟩ rfl rfl hl.1 rfl (lv_room (Nat.le_of_ble_eq_true rfl)) dX12_readAnd_28 ⟨Nat.le_of_ble_eq_true rfl, Nat.le_of_ble_eq_true rfl⟩) hS (fun q _ h => MA.le hS.1 q h) (MA.le hS.1) (fun r46 x t H locs ht hvm hw hB _ _ hS => ?_)
      have hP := mB.at ht hB
      clear hB ht hvm
      obtain ⟨st47, sl48⟩ := x
      obtain ⟨hG2, hL2, hw⟩ := hw
      have hL : LQ [7, 9] sl sl48 := hL.tr hL2 (by decide)
      clear hL2
      dsimp only at hw
      have hP : va_P (dC, dI) vwCl (mw ar cy st47 sl48) _ := hP
      have hG : MG [1, 2, 3, 6, 7, 13, 14, 15, 19, 20, 21, 22] st st47 := hG.tr hG2 (by decide)
      have hGst47 : MG [1, 2, 3, 6, 7, 13, 14, 15, 19, 20, 21, 22] st40 st47 := hG2
      clear hG2
      rcases hw with ⟨n49, n50, n51, n52, rfl, hf53, hf54, hf55, hf56, hf57, hf58, hf59, hf60, hf61, hf62, hf63, hf64⟩ | ⟨rfl, hf65, hf66⟩
      · have hf53c := hf53.2.2.1
        have hf53d := hf53.2.2.2
        refine lv_if_ne (tgt := 36) hx hb dX12_readAnd_31 (by decide) (fun _ => ?_) (fun cc => absurd cc (by decide))
        refine lv_aload_n hx hb dX12_readAnd_36 rfl (lv_at hl 1 rfl) ?_
        refine lv_iconst (v := 2) hx hb dX12_readAnd_37 (by decide) ?_
        refine lv_iload_n hx hb dX12_readAnd_38 rfl (lv_at hl 0 rfl) ?_
        refine lv_aload_n hx hb dX12_readAnd_39 rfl (lv_at hl 1 rfl) ?_
        refine va_get (D := (dC, dI)) (ci := 11) (v := .int (st47 0 46)) (C := RX12) (T := TX12) (N := 47) hx hb hts ii_X12_readAnd hown hK hP 0 rfl rfl 46 (by decide) (hts _ mm_X12_readAnd_1) (fun _ hh => hh) rfl dX12_readAnd_40 ?_
        refine zz_top (v := (nI n52)) (by show st47 0 46 = _; rw [hf58]) ?_
        refine lv_iconst (v := 0) hx hb dX12_readAnd_43 (by decide) ?_
        refine va_calli (va_runV (As := [.int 2, .int (nI k22), .int (nI n52), .int 0]) (rest := []) ⟨hx, hb, hml, hown, hts⟩ (m_saysOne2 l dC dI ar cy _ hN st47 sl48 k22 n52 0 n50 (by omega) (by omega) hG.1 (by rw [hf55]) (by omega) (hf64) (by omega) (by omega)) (cwV 4 hts gX12_readAnd_X12_saysOne rfl rfl rfl (by decide +kernel) ⟨Nat.le_of_ble_eq_true rfl, Nat.le_of_ble_eq_true rfl⟩) ⟨fun a U g mk q => ⟨q.1, mPre.blind q.2⟩, va_recv hK hP (ci := 11) (q0 := 0) rfl rfl, fun U hU hW => ⟨rfl, mPre.of hP hK hU hW⟩⟩ rfl rfl hl.1 rfl (lv_room (Nat.le_of_ble_eq_true rfl)) dX12_readAnd_44 ⟨Nat.le_of_ble_eq_true rfl, Nat.le_of_ble_eq_true rfl⟩) hS (fun q _ h => MA.le hS.1 q h) (MA.le hS.1) (fun r67 x t H locs ht hvm hw hB _ _ hS => ?_)
        have hP := mB.at ht hB
        clear hB ht hvm
        obtain ⟨st68, sl69⟩ := x
        obtain ⟨hG2, hL2, hw⟩ := hw
        have hL : LQ [7, 9] sl sl69 := hL.tr hL2 (by decide)
        clear hL2
        dsimp only at hw
        have hP : va_P (dC, dI) vwCl (mw ar cy st68 sl69) _ := hP
        have hG : MG [1, 2, 3, 6, 7, 13, 14, 15, 19, 20, 21, 22] st st68 := hG.tr hG2 (by decide)
        have hGst68 : MG [1, 2, 3, 4, 5, 6, 7, 10, 11, 12, 13, 14, 15, 16, 17, 19, 20, 21, 22, 23] st47 st68 := hG2
        clear hG2
        obtain ⟨n70, rfl, hf71, hf72, hf73⟩ := hw
        refine lv_istore_n (lv' := [(1, .int (nI n70)), (0, .ref (ar 0))]) hx hb dX12_readAnd_47 rfl hl (by decide) rfl (fun ls hl => ?_)
        refine lv_goto (tgt := 14) hx hb dX12_readAnd_48 (by decide) ?_
        exact ih37 (21 - n51) _ _ _ _ (by omega) ⟨n70, st68, sl69, (n50 + 1), n51, n49, rfl, by omega, by omega, by rw [hf72], by rw [hGst68.2 0 44 (by decide), hf56], ⟨by rw [hGst68.2 0 5 (by decide), hf53.1], by rw [hGst68.2 0 3 (by decide), hf53.2.1], by omega, by omega⟩, by omega, by omega, by omega, by omega, by omega, by omega, hf73, by rw [hGst68.2 0 45 (by decide), hf57], hP, hG, hL, hS, lv_sub hl [0, 1] rfl, rfl⟩
      · refine lv_if_ne (tgt := 36) hx hb dX12_readAnd_31 (by decide) (fun cc => absurd (by decide) cc) (fun _ => ?_)
        refine lv_iconst (v := 0) hx hb dX12_readAnd_34 (by decide) ?_
        exact W.zret (v := 0) hx hb hr rfl (fun t ht hW => ⟨⟨0, (st47, sl48), rfl, ⟨hG, hL, Or.inr (⟨rfl, by show st47 0 45 = _; rw [hf65], hf66⟩)⟩, mB.of ht hP⟩, hS.F ht⟩) hS.2.2 dX12_readAnd_35
    · refine lv_if_eq (tgt := 51) hx hb dX12_readAnd_20 (by decide) (fun _ => ?_) (fun cc => absurd (by decide) cc)
      refine lv_aload_n hx hb dX12_readAnd_51 rfl (lv_at hl 1 rfl) ?_
      refine lv_iload_n hx hb dX12_readAnd_52 rfl (lv_at hl 0 rfl) ?_
      refine va_put (D := (dC, dI)) (ci := 11) (v := .int (nI k22)) (ty := .int) (C := RX12) (T := TX12) (N := 47) hx hb hts ii_X12_readAnd tyX12 tyX12_ok nmX12 hown hK hP (mD hN _ _ _ _) hS 0 rfl rfl 46 (by decide) (hts _ mm_X12_readAnd_1) (fun _ hh => hh) rfl (by decide +kernel) rfl rfl (Nat.le_of_ble_eq_true rfl) dX12_readAnd_53 (fun H locs hP _ hS => ?_)
      have hP : va_P (dC, dI) vwCl (mw ar cy (up2 st23 0 46 (nI k22)) sl24) H := hP
      obtain ⟨st74, est74⟩ : ∃ y, y = up2 st23 0 46 (nI k22) := ⟨_, rfl⟩
      have hG : MG [1, 2, 3, 6, 7, 13, 14, 15, 19, 20, 21, 22] st st74 := by rw [est74]; exact hG.up (rn (n := k22) (by decide : mr 0 46 = 60) (by omega)) (pn (by decide : pcl 0 46 = 12) (by decide))
      rw [← est74] at hP
      refine lv_iconst (v := 1) hx hb dX12_readAnd_56 (by decide) ?_
      exact W.zret (v := 1) hx hb hr rfl (fun t ht hW => ⟨⟨1, (st74, sl24), rfl, ⟨hG, hL, Or.inl (⟨g27, n25, o26, k22, rfl, (show TS st74 g27 gb from ⟨by rw [est74, up2_ne (r := 0) (k := 46) (a := 0) (j := 5) _ _ (by omega), hTg27.1], by rw [est74, up2_ne (r := 0) (k := 46) (a := 0) (j := 3) _ _ (by omega), hTg27.2.1], by omega, by omega⟩), by omega, by show st74 0 43 = (nI n25); rw [est74, up2_ne (r := 0) (k := 46) (a := 0) (j := 43) _ _ (by omega), en25], by show st74 0 44 = (nI o26); rw [est74, up2_ne (r := 0) (k := 46) (a := 0) (j := 44) _ _ (by omega), eo26], by show st74 0 45 = 3; rw [est74, up2_ne (r := 0) (k := 46) (a := 0) (j := 45) _ _ (by omega), hv36_6], by show st74 0 46 = (nI k22); rw [est74, up2_same], by omega, by omega, by omega, by omega, by omega, (show NKm st74 by rw [est74]; exact (show NKm st23 from hv35_5))⟩)⟩, mB.of ht hP⟩, hS.F ht⟩) hS.2.2 dX12_readAnd_57
  · refine lv_if_ne (tgt := 9) hx hb dX12_readAnd_4 (by decide) (fun cc => absurd (by decide) cc) (fun _ => ?_)
    refine lv_iconst (v := 0) hx hb dX12_readAnd_7 (by decide) ?_
    exact W.zret (v := 0) hx hb hr rfl (fun t ht hW => ⟨⟨0, (st2, sl3), rfl, ⟨hG, hL, Or.inr (⟨rfl, by show st2 0 45 = _; rw [hf20], hf21⟩)⟩, mB.of ht hP⟩, hS.F ht⟩) hS.2.2 dX12_readAnd_8
set_option maxHeartbeats 4000000 in
set_option maxRecDepth 100000 in
theorem m_readOr_3 (l : Launch) (dC : Nat → ClassId) (dI : Nat → Nat → Nat) (ar : Nat → Nat) (cy : Nat → ClassId) (sz : Nat) (hN : MN ar) (st : Nat → Nat → Int32) (sl : Nat → Nat → Int64) (gn : Nat) (go : Nat) (ga gb : Nat) (hI : MI st) (hT : TS st ga gb) (h43 : st 0 43 = nI gn) (h44 : st 0 44 = nI go) (h45 : st 0 45 = 3) (hgn : gn ≤ 2 * go) (hgo : go ≤ 20) (hNK : NKm st) : Met l yX12_readOr wsX12_readOr ({ frames := 25, cells := 0, slots := 0, locals := 538 }) (va_Pc [.ref (ar 0)] (mPre dC dI ar cy sz st sl)) (va_Qi (fun (r : Int32) (x : MT) => MG [1, 2, 3, 6, 7, 13, 14, 15, 19, 20, 21, 22] st x.1 ∧ LQ [7, 9] sl x.2 ∧ ((∃ g : Nat, ∃ n1 : Nat, ∃ o1 : Nat, ∃ t1 : Nat, r = 1 ∧ TS x.1 g gb ∧ ga ≤ g ∧ x.1 0 43 = nI n1 ∧ x.1 0 44 = nI o1 ∧ x.1 0 45 = 3 ∧ x.1 0 46 = nI t1 ∧ t1 < n1 ∧ n1 + 2 * go + 1 ≤ gn + 2 * o1 ∧ go + 1 ≤ o1 ∧ o1 ≤ 20 ∧ gn ≤ n1 ∧ NKm x.1) ∨ (r = 0 ∧ x.1 0 45 = 3 ∧ NKm x.1))) (mB dC dI ar cy) (MA ar sz)) 0 0 (MA ar sz) := by
  refine Met.ofW (cc := cX12_readOr) (maxL := 2) (ret := (some .boolean)) (by decide) rfl ?_
  intro p e s m args below meth c s₁ B hml hv
  obtain ⟨rfl, hsz, hP, hK⟩ := hv
  have hx := B.exec
  have hb := B.bytes
  have hr := B.returns
  have hts := atoms_spec (ws := wsX12_readOr) B.pre
  have hown : s.vm.findClass RX12 = some m.cls := findClass_of_methodNamed B.named
  subst hsz
  have hS : va_S (MA ar s.heap.size) s.heap s.heap [] := va_S.rf
  have hG : MG [1, 2, 3, 6, 7, 13, 14, 15, 19, 20, 21, 22] st st := MG.rf hI
  have hl := lv_entry ([.ref (ar 0)]) (n := 2) (Nat.le_of_ble_eq_true rfl)
  rw [lg_entry_eq]
  generalize (lg_sl ([.ref (ar 0)]) ++ List.replicate (2 - (lg_sl ([.ref (ar 0)])).length) Slot.unset).toArray = ls at hl ⊢
  have hl : lv_has ls 2 [(0, .ref (ar 0))] := hl
  clear hI
  have hL : LQ [7, 9] sl sl := LQ.rf
  have hTc := hT.2.2.1
  have hTd := hT.2.2.2
  have hga : ga ≤ ga := Nat.le_refl ga
  refine lv_aload_n hx hb dX12_readOr_0 rfl (lv_at hl 0 rfl) ?_
  refine va_calli (va_runV (As := []) (rest := []) ⟨hx, hb, hml, hown, hts⟩ (m_readAnd_3 l dC dI ar cy _ hN st sl gn go ga gb  hG.1 ((⟨by rw [hT.1], by rw [hT.2.1], by omega, by omega⟩ : TS st ga gb)) (by rw [h43]) (by rw [h44]) (by rw [h45]) (by omega) (by omega) (hNK)) (cwV 0 hts gX12_readOr_X12_readAnd rfl rfl rfl (by decide +kernel) ⟨Nat.le_of_ble_eq_true rfl, Nat.le_of_ble_eq_true rfl⟩) ⟨fun a U g mk q => ⟨q.1, mPre.blind q.2⟩, va_recv hK hP (ci := 11) (q0 := 0) rfl rfl, fun U hU hW => ⟨rfl, mPre.of hP hK hU hW⟩⟩ rfl rfl hl.1 rfl (lv_room (Nat.le_of_ble_eq_true rfl)) dX12_readOr_1 ⟨Nat.le_of_ble_eq_true rfl, Nat.le_of_ble_eq_true rfl⟩) hS (fun q _ h => MA.le hS.1 q h) (MA.le hS.1) (fun r1 x t H locs ht hvm hw hB _ _ hS => ?_)
  have hP := mB.at ht hB
  clear hB ht hvm
  obtain ⟨st2, sl3⟩ := x
  obtain ⟨hG2, hL2, hw⟩ := hw
  have hL : LQ [7, 9] sl sl3 := hL.tr hL2 (by decide)
  clear hL2
  dsimp only at hw
  have hP : va_P (dC, dI) vwCl (mw ar cy st2 sl3) _ := hP
  have hG : MG [1, 2, 3, 6, 7, 13, 14, 15, 19, 20, 21, 22] st st2 := hG.tr hG2 (by decide)
  have hGst2 : MG [1, 2, 3, 6, 7, 13, 14, 15, 19, 20, 21, 22] st st2 := hG2
  clear hG2
  rcases hw with ⟨n4, n5, n6, n7, rfl, hf8, hf9, hf10, hf11, hf12, hf13, hf14, hf15, hf16, hf17, hf18, hf19⟩ | ⟨rfl, hf20, hf21⟩
  · have hf8c := hf8.2.2.1
    have hf8d := hf8.2.2.2
    refine lv_if_ne (tgt := 9) hx hb dX12_readOr_4 (by decide) (fun _ => ?_) (fun cc => absurd cc (by decide))
    refine lv_aload_n hx hb dX12_readOr_9 rfl (lv_at hl 0 rfl) ?_
    refine va_get (D := (dC, dI)) (ci := 11) (v := .int (st2 0 46)) (C := RX12) (T := TX12) (N := 47) hx hb hts ii_X12_readOr hown hK hP 0 rfl rfl 46 (by decide) (hts _ mm_X12_readOr_1) (fun _ hh => hh) rfl dX12_readOr_10 ?_
    refine zz_top (v := (nI n7)) (by show st2 0 46 = _; rw [hf13]) ?_
    refine lv_istore_n (lv' := [(1, .int (nI n7)), (0, .ref (ar 0))]) hx hb dX12_readOr_13 rfl hl (by decide) rfl (fun ls hl => ?_)
    refine zz_wf (fun n stk H locs ls => ∃ k22 : Nat, ∃ st23 : Nat → Nat → Int32, ∃ sl24 : Nat → Nat → Int64, ∃ n25 : Nat, ∃ o26 : Nat, ∃ g27 : Nat, n = 21 - o26 ∧ 0 ≤ k22 ∧ k22 < 60 ∧ st23 0 43 = nI n25 ∧ st23 0 44 = nI o26 ∧ TS st23 g27 gb ∧ ga ≤ g27 ∧ k22 < n25 ∧ n25 + 2 * go + 1 ≤ gn + 2 * o26 ∧ go + 1 ≤ o26 ∧ o26 ≤ 20 ∧ gn ≤ n25 ∧ NKm st23 ∧ st23 0 45 = 3 ∧ va_P (dC, dI) vwCl (mw ar cy st23 sl24) H ∧ MG [1, 2, 3, 6, 7, 13, 14, 15, 19, 20, 21, 22] st st23 ∧ LQ [7, 9] sl sl24 ∧ va_S (MA ar s.heap.size) s.heap H locs ∧ lv_has ls 2 [(1, .int (nI k22)), (0, .ref (ar 0))] ∧ stk = []) ?_ (21 - n6) _ _ _ _ ⟨n7, st2, sl3, n5, n6, n4, rfl, by omega, by omega, by rw [hf10], by rw [hf11], ⟨by rw [hf8.1], by rw [hf8.2.1], by omega, by omega⟩, by omega, by omega, by omega, by omega, by omega, by omega, hf19, by rw [hf12], hP, hG, hL, hS, lv_sub hl [0, 1] rfl, rfl⟩
    rintro nn stk H locs ls ⟨k22, st23, sl24, n25, o26, g27, hm36, hv28_0, hv29_1, en25, eo26, hTg27, hTg27g, hv30_0, hv31_1, hv32_2, hv33_3, hv34_4, hv35_5, hv36_6, hP, hG, hL, hS, hl, rfl⟩ ih37
    have hTg27c := hTg27.2.2.1
    have hTg27d := hTg27.2.2.2
    refine lv_aload_n hx hb dX12_readOr_14 rfl (lv_at hl 1 rfl) ?_
    refine lv_bipush (v := 13) hx hb dX12_readOr_15 (by decide) ?_
    refine va_calli (va_runV (As := [.int 13]) (rest := []) ⟨hx, hb, hml, hown, hts⟩ (m_isWord l dC dI ar cy _ hN st23 sl24 13  hG.1) (cwV 1 hts gX12_readOr_X12_isWord rfl rfl rfl (by decide +kernel) ⟨Nat.le_of_ble_eq_true rfl, Nat.le_of_ble_eq_true rfl⟩) ⟨fun a U g mk q => ⟨q.1, mPre.blind q.2⟩, va_recv hK hP (ci := 11) (q0 := 0) rfl rfl, fun U hU hW => ⟨rfl, mPre.of hP hK hU hW⟩⟩ rfl rfl hl.1 rfl (lv_room (Nat.le_of_ble_eq_true rfl)) dX12_readOr_17 ⟨Nat.le_of_ble_eq_true rfl, Nat.le_of_ble_eq_true rfl⟩) hS (fun q _ h => MA.le hS.1 q h) (MA.le hS.1) (fun r38 x t H locs ht hvm hw hB _ _ hS => ?_)
    have hP := mB.at ht hB
    clear hB ht hvm
    obtain ⟨rfl, hw⟩ := hw
    have hP : va_P (dC, dI) vwCl (mw ar cy st23 sl24) _ := hP
    rcases hw with rfl | rfl
    · refine lv_if_eq (tgt := 51) hx hb dX12_readOr_20 (by decide) (fun cc => absurd cc (by decide)) (fun _ => ?_)
      refine lv_aload_n hx hb dX12_readOr_23 rfl (lv_at hl 1 rfl) ?_
      refine va_callv (va_runV (As := []) (rest := []) ⟨hx, hb, hml, hown, hts⟩ (m_go l dC dI ar cy _ hN st23 sl24 g27 gb  hG.1 ((⟨by rw [hTg27.1], by rw [hTg27.2.1], by omega, by omega⟩ : TS st23 g27 gb))) (cwV 0 hts gX12_readOr_X12_go rfl rfl rfl (by decide +kernel) ⟨Nat.le_of_ble_eq_true rfl, Nat.le_of_ble_eq_true rfl⟩) ⟨fun a U g mk q => ⟨q.1, mPre.blind q.2⟩, va_recv hK hP (ci := 11) (q0 := 0) rfl rfl, fun U hU hW => ⟨rfl, mPre.of hP hK hU hW⟩⟩ rfl rfl hl.1 rfl (lv_room (Nat.le_of_ble_eq_true rfl)) dX12_readOr_24 ⟨Nat.le_of_ble_eq_true rfl, Nat.le_of_ble_eq_true rfl⟩) hS (fun q _ h => MA.le hS.1 q h) (MA.le hS.1) (fun x t H locs ht hvm hw hB _ _ hS => ?_)
      have hP := mB.at ht hB
      clear hB ht hvm
      obtain ⟨st40, sl41⟩ := x
      obtain ⟨hG2, hL2, hw⟩ := hw
      have hL : LQ [7, 9] sl sl41 := hL.tr hL2 (by decide)
      clear hL2
      dsimp only at hw
      have hP : va_P (dC, dI) vwCl (mw ar cy st40 sl41) _ := hP
      have hG : MG [1, 2, 3, 6, 7, 13, 14, 15, 19, 20, 21, 22] st st40 := hG.tr hG2 (by decide)
      have hGst40 : MG [1, 2, 3, 6, 7, 8, 9, 10, 11, 12, 13, 14, 15, 16, 19, 20, 21, 22, 23] st23 st40 := hG2
      clear hG2
      obtain ⟨n42, hf43, hf44, hf45⟩ := hw
      have hf43c := hf43.2.2.1
      have hf43d := hf43.2.2.2
      refine lv_aload_n hx hb dX12_readOr_27 rfl (lv_at hl 1 rfl) ?_
      refine va_calli (va_runV (As := []) (rest := []) ⟨hx, hb, hml, hown, hts⟩ (m_readAnd_3 l dC dI ar cy _ hN st40 sl41 n25 o26 n42 gb  hG.1 ((⟨by rw [hf43.1], by rw [hf43.2.1], by omega, by omega⟩ : TS st40 n42 gb)) (by rw [hGst40.2 0 43 (by decide), en25]) (by rw [hGst40.2 0 44 (by decide), eo26]) (by rw [hGst40.2 0 45 (by decide), hv36_6]) (by omega) (by omega) ((NKm.mg hGst40 (by decide) hv35_5))) (cwV 0 hts gX12_readOr_X12_readAnd rfl rfl rfl (by decide +kernel) ⟨Nat.le_of_ble_eq_true rfl, Nat.le_of_ble_eq_true rfl⟩) ⟨fun a U g mk q => ⟨q.1, mPre.blind q.2⟩, va_recv hK hP (ci := 11) (q0 := 0) rfl rfl, fun U hU hW => ⟨rfl, mPre.of hP hK hU hW⟩⟩ rfl rfl hl.1 rfl (lv_room (Nat.le_of_ble_eq_true rfl)) dX12_readOr_28 ⟨Nat.le_of_ble_eq_true rfl, Nat.le_of_ble_eq_true rfl⟩) hS (fun q _ h => MA.le hS.1 q h) (MA.le hS.1) (fun r46 x t H locs ht hvm hw hB _ _ hS => ?_)
      have hP := mB.at ht hB
      clear hB ht hvm
      obtain ⟨st47, sl48⟩ := x
      obtain ⟨hG2, hL2, hw⟩ := hw
      have hL : LQ [7, 9] sl sl48 := hL.tr hL2 (by decide)
      clear hL2
      dsimp only at hw
      have hP : va_P (dC, dI) vwCl (mw ar cy st47 sl48) _ := hP
      have hG : MG [1, 2, 3, 6, 7, 13, 14, 15, 19, 20, 21, 22] st st47 := hG.tr hG2 (by decide)
      have hGst47 : MG [1, 2, 3, 6, 7, 13, 14, 15, 19, 20, 21, 22] st40 st47 := hG2
      clear hG2
      rcases hw with ⟨n49, n50, n51, n52, rfl, hf53, hf54, hf55, hf56, hf57, hf58, hf59, hf60, hf61, hf62, hf63, hf64⟩ | ⟨rfl, hf65, hf66⟩
      · have hf53c := hf53.2.2.1
        have hf53d := hf53.2.2.2
        refine lv_if_ne (tgt := 36) hx hb dX12_readOr_31 (by decide) (fun _ => ?_) (fun cc => absurd cc (by decide))
        refine lv_aload_n hx hb dX12_readOr_36 rfl (lv_at hl 1 rfl) ?_
        refine lv_iconst (v := 3) hx hb dX12_readOr_37 (by decide) ?_
        refine lv_iload_n hx hb dX12_readOr_38 rfl (lv_at hl 0 rfl) ?_
        refine lv_aload_n hx hb dX12_readOr_39 rfl (lv_at hl 1 rfl) ?_
        refine va_get (D := (dC, dI)) (ci := 11) (v := .int (st47 0 46)) (C := RX12) (T := TX12) (N := 47) hx hb hts ii_X12_readOr hown hK hP 0 rfl rfl 46 (by decide) (hts _ mm_X12_readOr_1) (fun _ hh => hh) rfl dX12_readOr_40 ?_
        refine zz_top (v := (nI n52)) (by show st47 0 46 = _; rw [hf58]) ?_
        refine lv_iconst (v := 0) hx hb dX12_readOr_43 (by decide) ?_
        refine va_calli (va_runV (As := [.int 3, .int (nI k22), .int (nI n52), .int 0]) (rest := []) ⟨hx, hb, hml, hown, hts⟩ (m_saysOne3 l dC dI ar cy _ hN st47 sl48 k22 n52 0 n50 (by omega) (by omega) hG.1 (by rw [hf55]) (by omega) (hf64) (by omega) (by omega)) (cwV 4 hts gX12_readOr_X12_saysOne rfl rfl rfl (by decide +kernel) ⟨Nat.le_of_ble_eq_true rfl, Nat.le_of_ble_eq_true rfl⟩) ⟨fun a U g mk q => ⟨q.1, mPre.blind q.2⟩, va_recv hK hP (ci := 11) (q0 := 0) rfl rfl, fun U hU hW => ⟨rfl, mPre.of hP hK hU hW⟩⟩ rfl rfl hl.1 rfl (lv_room (Nat.le_of_ble_eq_true rfl)) dX12_readOr_44 ⟨Nat.le_of_ble_eq_true rfl, Nat.le_of_ble_eq_true rfl⟩) hS (fun q _ h => MA.le hS.1 q h) (MA.le hS.1) (fun r67 x t H locs ht hvm hw hB _ _ hS => ?_)
        have hP := mB.at ht hB
        clear hB ht hvm
        obtain ⟨st68, sl69⟩ := x
        obtain ⟨hG2, hL2, hw⟩ := hw
        have hL : LQ [7, 9] sl sl69 := hL.tr hL2 (by decide)
        clear hL2
        dsimp only at hw
        have hP : va_P (dC, dI) vwCl (mw ar cy st68 sl69) _ := hP
        have hG : MG [1, 2, 3, 6, 7, 13, 14, 15, 19, 20, 21, 22] st st68 := hG.tr hG2 (by decide)
        have hGst68 : MG [1, 2, 3, 4, 5, 6, 7, 10, 11, 12, 13, 14, 15, 16, 17, 19, 20, 21, 22, 23] st47 st68 := hG2
        clear hG2
        obtain ⟨n70, rfl, hf71, hf72, hf73⟩ := hw
        refine lv_istore_n (lv' := [(1, .int (nI n70)), (0, .ref (ar 0))]) hx hb dX12_readOr_47 rfl hl (by decide) rfl (fun ls hl => ?_)
        refine lv_goto (tgt := 14) hx hb dX12_readOr_48 (by decide) ?_
        exact ih37 (21 - n51) _ _ _ _ (by omega) ⟨n70, st68, sl69, (n50 + 1), n51, n49, rfl, by omega, by omega, by rw [hf72], by rw [hGst68.2 0 44 (by decide), hf56], ⟨by rw [hGst68.2 0 5 (by decide), hf53.1], by rw [hGst68.2 0 3 (by decide), hf53.2.1], by omega, by omega⟩, by omega, by omega, by omega, by omega, by omega, by omega, hf73, by rw [hGst68.2 0 45 (by decide), hf57], hP, hG, hL, hS, lv_sub hl [0, 1] rfl, rfl⟩
      · refine lv_if_ne (tgt := 36) hx hb dX12_readOr_31 (by decide) (fun cc => absurd (by decide) cc) (fun _ => ?_)
        refine lv_iconst (v := 0) hx hb dX12_readOr_34 (by decide) ?_
        exact W.zret (v := 0) hx hb hr rfl (fun t ht hW => ⟨⟨0, (st47, sl48), rfl, ⟨hG, hL, Or.inr (⟨rfl, by show st47 0 45 = _; rw [hf65], hf66⟩)⟩, mB.of ht hP⟩, hS.F ht⟩) hS.2.2 dX12_readOr_35
    · refine lv_if_eq (tgt := 51) hx hb dX12_readOr_20 (by decide) (fun _ => ?_) (fun cc => absurd (by decide) cc)
      refine lv_aload_n hx hb dX12_readOr_51 rfl (lv_at hl 1 rfl) ?_
      refine lv_iload_n hx hb dX12_readOr_52 rfl (lv_at hl 0 rfl) ?_
      refine va_put (D := (dC, dI)) (ci := 11) (v := .int (nI k22)) (ty := .int) (C := RX12) (T := TX12) (N := 47) hx hb hts ii_X12_readOr tyX12 tyX12_ok nmX12 hown hK hP (mD hN _ _ _ _) hS 0 rfl rfl 46 (by decide) (hts _ mm_X12_readOr_1) (fun _ hh => hh) rfl (by decide +kernel) rfl rfl (Nat.le_of_ble_eq_true rfl) dX12_readOr_53 (fun H locs hP _ hS => ?_)
      have hP : va_P (dC, dI) vwCl (mw ar cy (up2 st23 0 46 (nI k22)) sl24) H := hP
      obtain ⟨st74, est74⟩ : ∃ y, y = up2 st23 0 46 (nI k22) := ⟨_, rfl⟩
      have hG : MG [1, 2, 3, 6, 7, 13, 14, 15, 19, 20, 21, 22] st st74 := by rw [est74]; exact hG.up (rn (n := k22) (by decide : mr 0 46 = 60) (by omega)) (pn (by decide : pcl 0 46 = 12) (by decide))
      rw [← est74] at hP
      refine lv_iconst (v := 1) hx hb dX12_readOr_56 (by decide) ?_
      exact W.zret (v := 1) hx hb hr rfl (fun t ht hW => ⟨⟨1, (st74, sl24), rfl, ⟨hG, hL, Or.inl (⟨g27, n25, o26, k22, rfl, (show TS st74 g27 gb from ⟨by rw [est74, up2_ne (r := 0) (k := 46) (a := 0) (j := 5) _ _ (by omega), hTg27.1], by rw [est74, up2_ne (r := 0) (k := 46) (a := 0) (j := 3) _ _ (by omega), hTg27.2.1], by omega, by omega⟩), by omega, by show st74 0 43 = (nI n25); rw [est74, up2_ne (r := 0) (k := 46) (a := 0) (j := 43) _ _ (by omega), en25], by show st74 0 44 = (nI o26); rw [est74, up2_ne (r := 0) (k := 46) (a := 0) (j := 44) _ _ (by omega), eo26], by show st74 0 45 = 3; rw [est74, up2_ne (r := 0) (k := 46) (a := 0) (j := 45) _ _ (by omega), hv36_6], by show st74 0 46 = (nI k22); rw [est74, up2_same], by omega, by omega, by omega, by omega, by omega, (show NKm st74 by rw [est74]; exact (show NKm st23 from hv35_5))⟩)⟩, mB.of ht hP⟩, hS.F ht⟩) hS.2.2 dX12_readOr_57
  · refine lv_if_ne (tgt := 9) hx hb dX12_readOr_4 (by decide) (fun cc => absurd (by decide) cc) (fun _ => ?_)
    refine lv_iconst (v := 0) hx hb dX12_readOr_7 (by decide) ?_
    exact W.zret (v := 0) hx hb hr rfl (fun t ht hW => ⟨⟨0, (st2, sl3), rfl, ⟨hG, hL, Or.inr (⟨rfl, by show st2 0 45 = _; rw [hf20], hf21⟩)⟩, mB.of ht hP⟩, hS.F ht⟩) hS.2.2 dX12_readOr_8
set_option maxHeartbeats 4000000 in
set_option maxRecDepth 100000 in
theorem m_readBracket_3 (l : Launch) (dC : Nat → ClassId) (dI : Nat → Nat → Nat) (ar : Nat → Nat) (cy : Nat → ClassId) (sz : Nat) (hN : MN ar) (st : Nat → Nat → Int32) (sl : Nat → Nat → Int64) (gn : Nat) (go : Nat) (ga gb : Nat) (hI : MI st) (hT : TS st ga gb) (h43 : st 0 43 = nI gn) (h44 : st 0 44 = nI go) (h45 : st 0 45 = 3) (hgn : gn ≤ 2 * go) (hgo : go ≤ 20) (hNK : NKm st) : Met l yX12_readBracket wsX12_readBracket ({ frames := 26, cells := 0, slots := 0, locals := 559 }) (va_Pc [.ref (ar 0)] (mPre dC dI ar cy sz st sl)) (va_Qi (fun (r : Int32) (x : MT) => MG [1, 2, 3, 6, 7, 13, 14, 15, 19, 20, 21, 22] st x.1 ∧ LQ [7, 9] sl x.2 ∧ ((∃ g : Nat, ∃ n1 : Nat, ∃ o1 : Nat, ∃ t1 : Nat, r = 1 ∧ TS x.1 g gb ∧ ga ≤ g ∧ x.1 0 43 = nI n1 ∧ x.1 0 44 = nI o1 ∧ x.1 0 45 = 3 ∧ x.1 0 46 = nI t1 ∧ t1 < n1 ∧ n1 + 2 * go + 1 ≤ gn + 2 * o1 ∧ go + 1 ≤ o1 ∧ o1 ≤ 20 ∧ gn ≤ n1 ∧ NKm x.1) ∨ (r = 0 ∧ x.1 0 45 = 3 ∧ NKm x.1))) (mB dC dI ar cy) (MA ar sz)) 0 0 (MA ar sz) := by
  refine Met.ofW (cc := cX12_readBracket) (maxL := 1) (ret := (some .boolean)) (by decide) rfl ?_
  intro p e s m args below meth c s₁ B hml hv
  obtain ⟨rfl, hsz, hP, hK⟩ := hv
  have hx := B.exec
  have hb := B.bytes
  have hr := B.returns
  have hts := atoms_spec (ws := wsX12_readBracket) B.pre
  have hown : s.vm.findClass RX12 = some m.cls := findClass_of_methodNamed B.named
  subst hsz
  have hS : va_S (MA ar s.heap.size) s.heap s.heap [] := va_S.rf
  have hG : MG [1, 2, 3, 6, 7, 13, 14, 15, 19, 20, 21, 22] st st := MG.rf hI
  have hl := lv_entry ([.ref (ar 0)]) (n := 1) (Nat.le_of_ble_eq_true rfl)
  rw [lg_entry_eq]
  generalize (lg_sl ([.ref (ar 0)]) ++ List.replicate (1 - (lg_sl ([.ref (ar 0)])).length) Slot.unset).toArray = ls at hl ⊢
  have hl : lv_has ls 1 [(0, .ref (ar 0))] := hl
  clear hI
  have hL : LQ [7, 9] sl sl := LQ.rf
  have hTc := hT.2.2.1
  have hTd := hT.2.2.2
  have hga : ga ≤ ga := Nat.le_refl ga
  refine lv_aload_n hx hb dX12_readBracket_0 rfl (lv_at hl 0 rfl) ?_
  refine va_calli (va_runV (As := []) (rest := []) ⟨hx, hb, hml, hown, hts⟩ (m_readOr_3 l dC dI ar cy _ hN st sl gn go ga gb  hG.1 ((⟨by rw [hT.1], by rw [hT.2.1], by omega, by omega⟩ : TS st ga gb)) (by rw [h43]) (by rw [h44]) (by rw [h45]) (by omega) (by omega) (hNK)) (cwV 0 hts gX12_readBracket_X12_readOr rfl rfl rfl (by decide +kernel) ⟨Nat.le_of_ble_eq_true rfl, Nat.le_of_ble_eq_true rfl⟩) ⟨fun a U g mk q => ⟨q.1, mPre.blind q.2⟩, va_recv hK hP (ci := 11) (q0 := 0) rfl rfl, fun U hU hW => ⟨rfl, mPre.of hP hK hU hW⟩⟩ rfl rfl hl.1 rfl (lv_room (Nat.le_of_ble_eq_true rfl)) dX12_readBracket_1 ⟨Nat.le_of_ble_eq_true rfl, Nat.le_of_ble_eq_true rfl⟩) hS (fun q _ h => MA.le hS.1 q h) (MA.le hS.1) (fun r1 x t H locs ht hvm hw hB _ _ hS => ?_)
  have hP := mB.at ht hB
  clear hB ht hvm
  obtain ⟨st2, sl3⟩ := x
  obtain ⟨hG2, hL2, hw⟩ := hw
  have hL : LQ [7, 9] sl sl3 := hL.tr hL2 (by decide)
  clear hL2
  dsimp only at hw
  have hP : va_P (dC, dI) vwCl (mw ar cy st2 sl3) _ := hP
  have hG : MG [1, 2, 3, 6, 7, 13, 14, 15, 19, 20, 21, 22] st st2 := hG.tr hG2 (by decide)
  have hGst2 : MG [1, 2, 3, 6, 7, 13, 14, 15, 19, 20, 21, 22] st st2 := hG2
  clear hG2
  rcases hw with ⟨n4, n5, n6, n7, rfl, hf8, hf9, hf10, hf11, hf12, hf13, hf14, hf15, hf16, hf17, hf18, hf19⟩ | ⟨rfl, hf20, hf21⟩
  · have hf8c := hf8.2.2.1
    have hf8d := hf8.2.2.2
    refine lv_if_ne (tgt := 9) hx hb dX12_readBracket_4 (by decide) (fun _ => ?_) (fun cc => absurd cc (by decide))
    refine lv_aload_n hx hb dX12_readBracket_9 rfl (lv_at hl 0 rfl) ?_
    refine lv_bipush (v := 41) hx hb dX12_readBracket_10 (by decide) ?_
    refine va_calli (va_runV (As := [.int 41]) (rest := []) ⟨hx, hb, hml, hown, hts⟩ (m_isSign l dC dI ar cy _ hN st2 sl3 41  hG.1) (cwV 1 hts gX12_readBracket_X12_isSign rfl rfl rfl (by decide +kernel) ⟨Nat.le_of_ble_eq_true rfl, Nat.le_of_ble_eq_true rfl⟩) ⟨fun a U g mk q => ⟨q.1, mPre.blind q.2⟩, va_recv hK hP (ci := 11) (q0 := 0) rfl rfl, fun U hU hW => ⟨rfl, mPre.of hP hK hU hW⟩⟩ rfl rfl hl.1 rfl (lv_room (Nat.le_of_ble_eq_true rfl)) dX12_readBracket_12 ⟨Nat.le_of_ble_eq_true rfl, Nat.le_of_ble_eq_true rfl⟩) hS (fun q _ h => MA.le hS.1 q h) (MA.le hS.1) (fun r22 x t H locs ht hvm hw hB _ _ hS => ?_)
    have hP := mB.at ht hB
    clear hB ht hvm
    obtain ⟨rfl, hw⟩ := hw
    have hP : va_P (dC, dI) vwCl (mw ar cy st2 sl3) _ := hP
    rcases hw with ⟨rfl, hf23⟩ | rfl
    · refine lv_if_ne (tgt := 24) hx hb dX12_readBracket_15 (by decide) (fun _ => ?_) (fun cc => absurd cc (by decide))
      refine lv_aload_n hx hb dX12_readBracket_24 rfl (lv_at hl 0 rfl) ?_
      refine va_callv (va_runV (As := []) (rest := []) ⟨hx, hb, hml, hown, hts⟩ (m_go l dC dI ar cy _ hN st2 sl3 n4 gb  hG.1 ((⟨by rw [hf8.1], by rw [hf8.2.1], by omega, by omega⟩ : TS st2 n4 gb))) (cwV 0 hts gX12_readBracket_X12_go rfl rfl rfl (by decide +kernel) ⟨Nat.le_of_ble_eq_true rfl, Nat.le_of_ble_eq_true rfl⟩) ⟨fun a U g mk q => ⟨q.1, mPre.blind q.2⟩, va_recv hK hP (ci := 11) (q0 := 0) rfl rfl, fun U hU hW => ⟨rfl, mPre.of hP hK hU hW⟩⟩ rfl rfl hl.1 rfl (lv_room (Nat.le_of_ble_eq_true rfl)) dX12_readBracket_25 ⟨Nat.le_of_ble_eq_true rfl, Nat.le_of_ble_eq_true rfl⟩) hS (fun q _ h => MA.le hS.1 q h) (MA.le hS.1) (fun x t H locs ht hvm hw hB _ _ hS => ?_)
      have hP := mB.at ht hB
      clear hB ht hvm
      obtain ⟨st25, sl26⟩ := x
      obtain ⟨hG2, hL2, hw⟩ := hw
      have hL : LQ [7, 9] sl sl26 := hL.tr hL2 (by decide)
      clear hL2
      dsimp only at hw
      have hP : va_P (dC, dI) vwCl (mw ar cy st25 sl26) _ := hP
      have hG : MG [1, 2, 3, 6, 7, 13, 14, 15, 19, 20, 21, 22] st st25 := hG.tr hG2 (by decide)
      have hGst25 : MG [1, 2, 3, 6, 7, 8, 9, 10, 11, 12, 13, 14, 15, 16, 19, 20, 21, 22, 23] st2 st25 := hG2
      clear hG2
      obtain ⟨n27, hf28, hf29, hf30⟩ := hw
      have hf28c := hf28.2.2.1
      have hf28d := hf28.2.2.2
      refine lv_iconst (v := 1) hx hb dX12_readBracket_28 (by decide) ?_
      exact W.zret (v := 1) hx hb hr rfl (fun t ht hW => ⟨⟨1, (st25, sl26), rfl, ⟨hG, hL, Or.inl (⟨n27, n5, n6, n7, rfl, (show TS st25 n27 gb from ⟨by rw [hf28.1], by rw [hf28.2.1], by omega, by omega⟩), by omega, by show st25 0 43 = (nI n5); rw [hGst25.2 0 43 (by decide), hf10], by show st25 0 44 = (nI n6); rw [hGst25.2 0 44 (by decide), hf11], by show st25 0 45 = 3; rw [hGst25.2 0 45 (by decide), hf12], by show st25 0 46 = (nI n7); rw [hGst25.2 0 46 (by decide), hf13], by omega, by omega, by omega, by omega, by omega, (NKm.mg hGst25 (by decide) hf19)⟩)⟩, mB.of ht hP⟩, hS.F ht⟩) hS.2.2 dX12_readBracket_29
    · refine lv_if_ne (tgt := 24) hx hb dX12_readBracket_15 (by decide) (fun cc => absurd (by decide) cc) (fun _ => ?_)
      refine lv_aload_n hx hb dX12_readBracket_18 rfl (lv_at hl 0 rfl) ?_
      refine lv_iconst (v := 1) hx hb dX12_readBracket_19 (by decide) ?_
      refine va_calli (va_runV (As := [.int 1]) (rest := []) ⟨hx, hb, hml, hown, hts⟩ (m_bad l dC dI ar cy _ hN st2 sl3 1  hG.1) (cwV 1 hts gX12_readBracket_X12_bad rfl rfl rfl (by decide +kernel) ⟨Nat.le_of_ble_eq_true rfl, Nat.le_of_ble_eq_true rfl⟩) ⟨fun a U g mk q => ⟨q.1, mPre.blind q.2⟩, va_recv hK hP (ci := 11) (q0 := 0) rfl rfl, fun U hU hW => ⟨rfl, mPre.of hP hK hU hW⟩⟩ rfl rfl hl.1 rfl (lv_room (Nat.le_of_ble_eq_true rfl)) dX12_readBracket_20 ⟨Nat.le_of_ble_eq_true rfl, Nat.le_of_ble_eq_true rfl⟩) hS (fun q _ h => MA.le hS.1 q h) (MA.le hS.1) (fun r31 x t H locs ht hvm hw hB _ _ hS => ?_)
      have hP := mB.at ht hB
      clear hB ht hvm
      obtain ⟨st32, sl33⟩ := x
      obtain ⟨hG2, hL2, hw⟩ := hw
      have hL : LQ [7, 9] sl sl33 := hL.tr hL2 (by decide)
      clear hL2
      have hP : va_P (dC, dI) vwCl (mw ar cy st32 sl33) _ := hP
      have hG : MG [1, 2, 3, 6, 7, 13, 14, 15, 19, 20, 21, 22] st st32 := hG.tr hG2 (by decide)
      have hGst32 : MG [1, 2, 3, 4, 5, 6, 7, 8, 9, 10, 11, 12, 13, 14, 15, 16, 17, 19, 20, 21, 22] st2 st32 := hG2
      clear hG2
      obtain rfl := hw
      exact W.zret (v := 0) hx hb hr rfl (fun t ht hW => ⟨⟨0, (st32, sl33), rfl, ⟨hG, hL, Or.inr (⟨rfl, by show st32 0 45 = _; rw [hGst32.2 0 45 (by decide), hf12], (NKm.mg hGst32 (by decide) hf19)⟩)⟩, mB.of ht hP⟩, hS.F ht⟩) hS.2.2 dX12_readBracket_23
  · refine lv_if_ne (tgt := 9) hx hb dX12_readBracket_4 (by decide) (fun cc => absurd (by decide) cc) (fun _ => ?_)
    refine lv_iconst (v := 0) hx hb dX12_readBracket_7 (by decide) ?_
    exact W.zret (v := 0) hx hb hr rfl (fun t ht hW => ⟨⟨0, (st2, sl3), rfl, ⟨hG, hL, Or.inr (⟨rfl, by show st2 0 45 = _; rw [hf20], hf21⟩)⟩, mB.of ht hP⟩, hS.F ht⟩) hS.2.2 dX12_readBracket_8
set_option maxHeartbeats 4000000 in
set_option maxRecDepth 100000 in
theorem m_readNot_3 (l : Launch) (dC : Nat → ClassId) (dI : Nat → Nat → Nat) (ar : Nat → Nat) (cy : Nat → ClassId) (sz : Nat) (hN : MN ar) (st : Nat → Nat → Int32) (sl : Nat → Nat → Int64) (gn : Nat) (go : Nat) (ga gb : Nat) (hI : MI st) (hT : TS st ga gb) (h43 : st 0 43 = nI gn) (h44 : st 0 44 = nI go) (h45 : st 0 45 = 3) (hgn : gn ≤ 2 * go) (hgo : go ≤ 20) (hNK : NKm st) : Met l yX12_readNot wsX12_readNot ({ frames := 24, cells := 0, slots := 0, locals := 517 }) (va_Pc [.ref (ar 0)] (mPre dC dI ar cy sz st sl)) (va_Qi (fun (r : Int32) (x : MT) => MG [1, 2, 3, 6, 7, 13, 14, 15, 19, 20, 21, 22] st x.1 ∧ LQ [7, 9] sl x.2 ∧ ((∃ g : Nat, ∃ n1 : Nat, ∃ o1 : Nat, ∃ t1 : Nat, r = 1 ∧ TS x.1 g gb ∧ ga ≤ g ∧ x.1 0 43 = nI n1 ∧ x.1 0 44 = nI o1 ∧ x.1 0 45 = 3 ∧ x.1 0 46 = nI t1 ∧ t1 < n1 ∧ n1 + 2 * go ≤ gn + 2 * o1 ∧ go + 1 ≤ o1 ∧ o1 ≤ 20 ∧ gn ≤ n1 ∧ NKm x.1) ∨ (r = 0 ∧ x.1 0 45 = 3 ∧ NKm x.1))) (mB dC dI ar cy) (MA ar sz)) 0 0 (MA ar sz) := by
  refine Met.ofW (cc := cX12_readNot) (maxL := 1) (ret := (some .boolean)) (by decide) rfl ?_
  intro p e s m args below meth c s₁ B hml hv
  obtain ⟨rfl, hsz, hP, hK⟩ := hv
  have hx := B.exec
  have hb := B.bytes
  have hr := B.returns
  have hts := atoms_spec (ws := wsX12_readNot) B.pre
  have hown : s.vm.findClass RX12 = some m.cls := findClass_of_methodNamed B.named
  subst hsz
  have hS : va_S (MA ar s.heap.size) s.heap s.heap [] := va_S.rf
  have hG : MG [1, 2, 3, 6, 7, 13, 14, 15, 19, 20, 21, 22] st st := MG.rf hI
  have hl := lv_entry ([.ref (ar 0)]) (n := 1) (Nat.le_of_ble_eq_true rfl)
  rw [lg_entry_eq]
  generalize (lg_sl ([.ref (ar 0)]) ++ List.replicate (1 - (lg_sl ([.ref (ar 0)])).length) Slot.unset).toArray = ls at hl ⊢
  have hl : lv_has ls 1 [(0, .ref (ar 0))] := hl
  clear hI
  have hL : LQ [7, 9] sl sl := LQ.rf
  have hTc := hT.2.2.1
  have hTd := hT.2.2.2
  have hga : ga ≤ ga := Nat.le_refl ga
  refine lv_aload_n hx hb dX12_readNot_0 rfl (lv_at hl 0 rfl) ?_
  refine va_calli (va_runV (As := []) (rest := []) ⟨hx, hb, hml, hown, hts⟩ (m_readSaid_3 l dC dI ar cy _ hN st sl gn go ga gb  hG.1 ((⟨by rw [hT.1], by rw [hT.2.1], by omega, by omega⟩ : TS st ga gb)) (by rw [h43]) (by rw [h44]) (by rw [h45]) (by omega) (by omega) (hNK)) (cwV 0 hts gX12_readNot_X12_readSaid rfl rfl rfl (by decide +kernel) ⟨Nat.le_of_ble_eq_true rfl, Nat.le_of_ble_eq_true rfl⟩) ⟨fun a U g mk q => ⟨q.1, mPre.blind q.2⟩, va_recv hK hP (ci := 11) (q0 := 0) rfl rfl, fun U hU hW => ⟨rfl, mPre.of hP hK hU hW⟩⟩ rfl rfl hl.1 rfl (lv_room (Nat.le_of_ble_eq_true rfl)) dX12_readNot_1 ⟨Nat.le_of_ble_eq_true rfl, Nat.le_of_ble_eq_true rfl⟩) hS (fun q _ h => MA.le hS.1 q h) (MA.le hS.1) (fun r1 x t H locs ht hvm hw hB _ _ hS => ?_)
  have hP := mB.at ht hB
  clear hB ht hvm
  obtain ⟨st2, sl3⟩ := x
  obtain ⟨hG2, hL2, hw⟩ := hw
  have hL : LQ [7, 9] sl sl3 := hL.tr hL2 (by decide)
  clear hL2
  dsimp only at hw
  have hP : va_P (dC, dI) vwCl (mw ar cy st2 sl3) _ := hP
  have hG : MG [1, 2, 3, 6, 7, 13, 14, 15, 19, 20, 21, 22] st st2 := hG.tr hG2 (by decide)
  have hGst2 : MG [1, 2, 3, 6, 7, 13, 14, 15, 19, 20, 21, 22] st st2 := hG2
  clear hG2
  rcases hw with ⟨n4, n5, n6, n7, rfl, hf8, hf9, hf10, hf11, hf12, hf13, hf14, hf15, hf16, hf17, hf18, hf19⟩ | ⟨rfl, hf20, hf21⟩
  · have hf8c := hf8.2.2.1
    have hf8d := hf8.2.2.2
    refine lv_if_ne (tgt := 9) hx hb dX12_readNot_4 (by decide) (fun _ => ?_) (fun cc => absurd cc (by decide))
    refine lv_aload_n hx hb dX12_readNot_9 rfl (lv_at hl 0 rfl) ?_
    refine lv_aload_n hx hb dX12_readNot_10 rfl (lv_at hl 0 rfl) ?_
    refine lv_iconst (v := 1) hx hb dX12_readNot_11 (by decide) ?_
    refine lv_aload_n hx hb dX12_readNot_12 rfl (lv_at hl 0 rfl) ?_
    refine va_get (D := (dC, dI)) (ci := 11) (v := .int (st2 0 46)) (C := RX12) (T := TX12) (N := 47) hx hb hts ii_X12_readNot hown hK hP 0 rfl rfl 46 (by decide) (hts _ mm_X12_readNot_1) (fun _ hh => hh) rfl dX12_readNot_13 ?_
    refine zz_top (v := (nI n7)) (by show st2 0 46 = _; rw [hf13]) ?_
    refine lv_iconst (v := 0) hx hb dX12_readNot_16 (by decide) ?_
    refine lv_iconst (v := 0) hx hb dX12_readNot_17 (by decide) ?_
    refine va_calli (va_runV (As := [.int 1, .int (nI n7), .int 0, .int 0]) (rest := [.ref (ar 0)]) ⟨hx, hb, hml, hown, hts⟩ (m_saysOne1 l dC dI ar cy _ hN st2 sl3 n7 0 0 n5 (by omega) hG.1 (by rw [hf10]) (by omega) (hf19) (by omega)) (cwV 4 hts gX12_readNot_X12_saysOne rfl rfl rfl (by decide +kernel) ⟨Nat.le_of_ble_eq_true rfl, Nat.le_of_ble_eq_true rfl⟩) ⟨fun a U g mk q => ⟨q.1, mPre.blind q.2⟩, va_recv hK hP (ci := 11) (q0 := 0) rfl rfl, fun U hU hW => ⟨rfl, mPre.of hP hK hU hW⟩⟩ rfl rfl hl.1 rfl (lv_room (Nat.le_of_ble_eq_true rfl)) dX12_readNot_18 ⟨Nat.le_of_ble_eq_true rfl, Nat.le_of_ble_eq_true rfl⟩) hS (fun q _ h => MA.le hS.1 q h) (MA.le hS.1) (fun r22 x t H locs ht hvm hw hB _ _ hS => ?_)
    have hP := mB.at ht hB
    clear hB ht hvm
    obtain ⟨st23, sl24⟩ := x
    obtain ⟨hG2, hL2, hw⟩ := hw
    have hL : LQ [7, 9] sl sl24 := hL.tr hL2 (by decide)
    clear hL2
    dsimp only at hw
    have hP : va_P (dC, dI) vwCl (mw ar cy st23 sl24) _ := hP
    have hG : MG [1, 2, 3, 6, 7, 13, 14, 15, 19, 20, 21, 22] st st23 := hG.tr hG2 (by decide)
    have hGst23 : MG [1, 2, 3, 4, 5, 6, 7, 10, 11, 12, 13, 14, 15, 16, 17, 19, 20, 21, 22, 23] st2 st23 := hG2
    clear hG2
    obtain ⟨n25, rfl, hf26, hf27, hf28⟩ := hw
    refine va_put (D := (dC, dI)) (ci := 11) (v := .int (nI n25)) (ty := .int) (C := RX12) (T := TX12) (N := 47) hx hb hts ii_X12_readNot tyX12 tyX12_ok nmX12 hown hK hP (mD hN _ _ _ _) hS 0 rfl rfl 46 (by decide) (hts _ mm_X12_readNot_1) (fun _ hh => hh) rfl (by decide +kernel) rfl rfl (Nat.le_of_ble_eq_true rfl) dX12_readNot_21 (fun H locs hP _ hS => ?_)
    have hP : va_P (dC, dI) vwCl (mw ar cy (up2 st23 0 46 (nI n25)) sl24) H := hP
    obtain ⟨st29, est29⟩ : ∃ y, y = up2 st23 0 46 (nI n25) := ⟨_, rfl⟩
    have hG : MG [1, 2, 3, 6, 7, 13, 14, 15, 19, 20, 21, 22] st st29 := by rw [est29]; exact hG.up (rn (n := n25) (by decide : mr 0 46 = 60) (by omega)) (pn (by decide : pcl 0 46 = 12) (by decide))
    rw [← est29] at hP
    refine lv_iconst (v := 1) hx hb dX12_readNot_24 (by decide) ?_
    exact W.zret (v := 1) hx hb hr rfl (fun t ht hW => ⟨⟨1, (st29, sl24), rfl, ⟨hG, hL, Or.inl (⟨n4, (n5 + 1), n6, n25, rfl, (show TS st29 n4 gb from ⟨by rw [est29, up2_ne (r := 0) (k := 46) (a := 0) (j := 5) _ _ (by omega), hGst23.2 0 5 (by decide), hf8.1], by rw [est29, up2_ne (r := 0) (k := 46) (a := 0) (j := 3) _ _ (by omega), hGst23.2 0 3 (by decide), hf8.2.1], by omega, by omega⟩), by omega, by show st29 0 43 = (nI (n5 + 1)); rw [est29, up2_ne (r := 0) (k := 46) (a := 0) (j := 43) _ _ (by omega), hf27], by show st29 0 44 = (nI n6); rw [est29, up2_ne (r := 0) (k := 46) (a := 0) (j := 44) _ _ (by omega), hGst23.2 0 44 (by decide), hf11], by show st29 0 45 = 3; rw [est29, up2_ne (r := 0) (k := 46) (a := 0) (j := 45) _ _ (by omega), hGst23.2 0 45 (by decide), hf12], by show st29 0 46 = (nI n25); rw [est29, up2_same], by omega, by omega, by omega, by omega, by omega, (show NKm st29 by rw [est29]; exact (show NKm st23 from hf28))⟩)⟩, mB.of ht hP⟩, hS.F ht⟩) hS.2.2 dX12_readNot_25
  · refine lv_if_ne (tgt := 9) hx hb dX12_readNot_4 (by decide) (fun cc => absurd (by decide) cc) (fun _ => ?_)
    refine lv_iconst (v := 0) hx hb dX12_readNot_7 (by decide) ?_
    exact W.zret (v := 0) hx hb hr rfl (fun t ht hW => ⟨⟨0, (st2, sl3), rfl, ⟨hG, hL, Or.inr (⟨rfl, by show st2 0 45 = _; rw [hf20], hf21⟩)⟩, mB.of ht hP⟩, hS.F ht⟩) hS.2.2 dX12_readNot_8
