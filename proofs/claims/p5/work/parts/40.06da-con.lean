set_option maxHeartbeats 4000000 in
set_option maxRecDepth 100000 in
theorem m_readNamed0 (l : Launch) (dC : Nat → ClassId) (dI : Nat → Nat → Nat) (ar : Nat → Nat) (cy : Nat → ClassId) (sz : Nat) (hN : MN ar) (st : Nat → Nat → Int32) (sl : Nat → Nat → Int64) (vb : Nat) (ga gb : Nat) (hvb : vb < 6) (hI : MI st) (hT : TS st ga gb) : Met l yX12_readNamed wsX12_readNamed ({ frames := 3, cells := 0, slots := 0, locals := 69 }) (va_Pc [.ref (ar 0), .int 0, .int (nI vb)] (mPre dC dI ar cy sz st sl)) (va_Qi (fun (r : Int32) (x : MT) => MG [1, 2, 3, 6, 7, 8, 9, 10, 11, 12, 13, 14, 15, 19, 20, 21, 22] st x.1 ∧ LQ [7, 9] sl x.2 ∧ ((∃ g : Nat, ∃ n : Nat, r = 1 ∧ TS x.1 g gb ∧ ga ≤ g ∧ (x.1 0 7 = 4 → ga < g) ∧ x.1 0 13 = nI n ∧ n < 5) ∨ (r = 0))) (mB dC dI ar cy) (MA ar sz)) 0 0 (MA ar sz) := by
  refine Met.ofW (cc := cX12_readNamed) (maxL := 3) (ret := (some .boolean)) (by decide) rfl ?_
  intro p e s m args below meth c s₁ B hml hv
  obtain ⟨rfl, hsz, hP, hK⟩ := hv
  have hx := B.exec
  have hb := B.bytes
  have hr := B.returns
  have hts := atoms_spec (ws := wsX12_readNamed) B.pre
  have hown : s.vm.findClass RX12 = some m.cls := findClass_of_methodNamed B.named
  subst hsz
  have hS : va_S (MA ar s.heap.size) s.heap s.heap [] := va_S.rf
  have hG : MG [1, 2, 3, 6, 7, 8, 9, 10, 11, 12, 13, 14, 15, 19, 20, 21, 22] st st := MG.rf hI
  have hl := lv_entry ([.ref (ar 0), .int 0, .int (nI vb)]) (n := 3) (Nat.le_of_ble_eq_true rfl)
  rw [lg_entry_eq]
  generalize (lg_sl ([.ref (ar 0), .int 0, .int (nI vb)]) ++ List.replicate (3 - (lg_sl ([.ref (ar 0), .int 0, .int (nI vb)])).length) Slot.unset).toArray = ls at hl ⊢
  have hl : lv_has ls 3 [(0, .ref (ar 0)), (1, .int 0), (2, .int (nI vb))] := hl
  clear hI
  have hL : LQ [7, 9] sl sl := LQ.rf
  have hTc := hT.2.2.1
  have hTd := hT.2.2.2
  have hga : ga ≤ ga := Nat.le_refl ga
  refine lv_aload_n hx hb dX12_readNamed_0 rfl (lv_at hl 0 rfl) ?_
  refine va_calli (va_runV (As := []) (rest := []) ⟨hx, hb, hml, hown, hts⟩ (m_isName l dC dI ar cy _ hN st sl  hG.1) (cwV 0 hts gX12_readNamed_X12_isName rfl rfl rfl (by decide +kernel) ⟨Nat.le_of_ble_eq_true rfl, Nat.le_of_ble_eq_true rfl⟩) ⟨fun a U g mk q => ⟨q.1, mPre.blind q.2⟩, va_recv hK hP (ci := 11) (q0 := 0) rfl rfl, fun U hU hW => ⟨rfl, mPre.of hP hK hU hW⟩⟩ rfl rfl hl.1 rfl (lv_room (Nat.le_of_ble_eq_true rfl)) dX12_readNamed_1 ⟨Nat.le_of_ble_eq_true rfl, Nat.le_of_ble_eq_true rfl⟩) hS (fun q _ h => MA.le hS.1 q h) (MA.le hS.1) (fun r1 x t H locs ht hvm hw hB _ _ hS => ?_)
  have hP := mB.at ht hB
  clear hB ht hvm
  obtain ⟨rfl, hw⟩ := hw
  have hP : va_P (dC, dI) vwCl (mw ar cy st sl) _ := hP
  rcases hw with rfl | rfl
  · refine lv_if_ne (tgt := 13) hx hb dX12_readNamed_4 (by decide) (fun _ => ?_) (fun cc => absurd cc (by decide))
    refine lv_aload_n hx hb dX12_readNamed_13 rfl (lv_at hl 0 rfl) ?_
    refine lv_aload_n hx hb dX12_readNamed_14 rfl (lv_at hl 0 rfl) ?_
    refine va_get (D := (dC, dI)) (ci := 11) (v := .ref (ar 7)) (C := RX12) (T := TX12) (N := 47) hx hb hts ii_X12_readNamed hown hK hP 0 rfl rfl 19 (by decide) (hts _ mm_X12_readNamed_1) (fun _ hh => hh) rfl dX12_readNamed_15 ?_
    refine lv_iload_n hx hb dX12_readNamed_18 rfl (lv_at hl 1 rfl) ?_
    refine lv_iload_n hx hb dX12_readNamed_19 rfl (lv_at hl 2 rfl) ?_
    refine lv_aload_n hx hb dX12_readNamed_20 rfl (lv_at hl 0 rfl) ?_
    refine va_get (D := (dC, dI)) (ci := 11) (v := .long (sl 0 12)) (C := RX12) (T := TX12) (N := 47) hx hb hts ii_X12_readNamed hown hK hP 0 rfl rfl 12 (by decide) (hts _ mm_X12_readNamed_2) (fun _ hh => hh) rfl dX12_readNamed_21 ?_
    refine lv_topl (fun z2 ez2 => ?_)
    clear ez2
    refine va_calli (va_runS (As := [.ref (ar 7), .int 0, .int (nI vb), .long z2]) (rest := [.ref (ar 0)]) ⟨hx, hb, hml, hown, hts⟩ (m_findIn7 l dC dI ar cy _ hN st sl 0 vb z2 (by omega) (by omega) hG.1 (by omega)) (va_cwS 4 hts gX12_readNamed_X12_findIn rfl rfl rfl (by decide +kernel) ⟨Nat.le_of_ble_eq_true rfl, Nat.le_of_ble_eq_true rfl⟩) ⟨fun a U g mk q => ⟨q.1, mPre.blind q.2⟩, fun U hU hW => ⟨rfl, mPre.of hP hK hU hW⟩⟩ rfl rfl hl.1 rfl (lv_room (Nat.le_of_ble_eq_true rfl)) dX12_readNamed_24 ⟨Nat.le_of_ble_eq_true rfl, Nat.le_of_ble_eq_true rfl⟩) hS (fun q _ h => MA.le hS.1 q h) (MA.le hS.1) (fun r3 x t H locs ht hvm hw hB _ _ hS => ?_)
    have hP := mB.at ht hB
    clear hB ht hvm
    obtain ⟨rfl, hw⟩ := hw
    have hP : va_P (dC, dI) vwCl (mw ar cy st sl) _ := hP
    rcases hw with rfl | ⟨n4, rfl, hf5⟩
    · refine va_put (D := (dC, dI)) (ci := 11) (v := .int (-1)) (ty := .int) (C := RX12) (T := TX12) (N := 47) hx hb hts ii_X12_readNamed tyX12 tyX12_ok nmX12 hown hK hP (mD hN _ _ _ _) hS 0 rfl rfl 13 (by decide) (hts _ mm_X12_readNamed_3) (fun _ hh => hh) rfl (by decide +kernel) rfl rfl (Nat.le_of_ble_eq_true rfl) dX12_readNamed_27 (fun H locs hP _ hS => ?_)
      have hP : va_P (dC, dI) vwCl (mw ar cy (up2 st 0 13 (-1)) sl) H := hP
      obtain ⟨st6, est6⟩ : ∃ y, y = up2 st 0 13 (-1) := ⟨_, rfl⟩
      have hG : MG [1, 2, 3, 6, 7, 8, 9, 10, 11, 12, 13, 14, 15, 19, 20, 21, 22] st st6 := by rw [est6]; exact hG.up (rz (by decide : mr 0 13 = 0)) (pn (by decide : pcl 0 13 = 16) (by decide))
      rw [← est6] at hP
      refine lv_aload_n hx hb dX12_readNamed_30 rfl (lv_at hl 0 rfl) ?_
      refine va_get (D := (dC, dI)) (ci := 11) (v := .int (st6 0 13)) (C := RX12) (T := TX12) (N := 47) hx hb hts ii_X12_readNamed hown hK hP 0 rfl rfl 13 (by decide) (hts _ mm_X12_readNamed_3) (fun _ hh => hh) rfl dX12_readNamed_31 ?_
      refine zz_top (v := (-1)) (by show st6 0 13 = _; rw [est6, up2_same]) ?_
      refine lv_iconst (v := (-1)) hx hb dX12_readNamed_34 (by decide) ?_
      refine lv_icmp_ne (tgt := 44) hx hb dX12_readNamed_35 (by decide) (fun cc => absurd (by decide) cc) (fun _ => ?_)
      refine lv_aload_n hx hb dX12_readNamed_38 rfl (lv_at hl 0 rfl) ?_
      refine lv_iconst (v := 3) hx hb dX12_readNamed_39 (by decide) ?_
      refine va_calli (va_runV (As := [.int 3]) (rest := []) ⟨hx, hb, hml, hown, hts⟩ (m_bad l dC dI ar cy _ hN st6 sl 3  hG.1) (cwV 1 hts gX12_readNamed_X12_bad rfl rfl rfl (by decide +kernel) ⟨Nat.le_of_ble_eq_true rfl, Nat.le_of_ble_eq_true rfl⟩) ⟨fun a U g mk q => ⟨q.1, mPre.blind q.2⟩, va_recv hK hP (ci := 11) (q0 := 0) rfl rfl, fun U hU hW => ⟨rfl, mPre.of hP hK hU hW⟩⟩ rfl rfl hl.1 rfl (lv_room (Nat.le_of_ble_eq_true rfl)) dX12_readNamed_40 ⟨Nat.le_of_ble_eq_true rfl, Nat.le_of_ble_eq_true rfl⟩) hS (fun q _ h => MA.le hS.1 q h) (MA.le hS.1) (fun r7 x t H locs ht hvm hw hB _ _ hS => ?_)
      have hP := mB.at ht hB
      clear hB ht hvm
      obtain ⟨st8, sl9⟩ := x
      obtain ⟨hG2, hL2, hw⟩ := hw
      have hL : LQ [7, 9] sl sl9 := hL.tr hL2 (by decide)
      clear hL2
      have hP : va_P (dC, dI) vwCl (mw ar cy st8 sl9) _ := hP
      have hG : MG [1, 2, 3, 6, 7, 8, 9, 10, 11, 12, 13, 14, 15, 19, 20, 21, 22] st st8 := hG.tr hG2 (by decide)
      have hGst8 : MG [1, 2, 3, 4, 5, 6, 7, 8, 9, 10, 11, 12, 13, 14, 15, 16, 17, 19, 20, 21, 22] st6 st8 := hG2
      clear hG2
      obtain rfl := hw
      exact W.zret (v := 0) hx hb hr rfl (fun t ht hW => ⟨⟨0, (st8, sl9), rfl, ⟨hG, hL, Or.inr (rfl)⟩, mB.of ht hP⟩, hS.F ht⟩) hS.2.2 dX12_readNamed_43
    · refine va_put (D := (dC, dI)) (ci := 11) (v := .int (nI n4)) (ty := .int) (C := RX12) (T := TX12) (N := 47) hx hb hts ii_X12_readNamed tyX12 tyX12_ok nmX12 hown hK hP (mD hN _ _ _ _) hS 0 rfl rfl 13 (by decide) (hts _ mm_X12_readNamed_3) (fun _ hh => hh) rfl (by decide +kernel) rfl rfl (Nat.le_of_ble_eq_true rfl) dX12_readNamed_27 (fun H locs hP _ hS => ?_)
      have hP : va_P (dC, dI) vwCl (mw ar cy (up2 st 0 13 (nI n4)) sl) H := hP
      obtain ⟨st10, est10⟩ : ∃ y, y = up2 st 0 13 (nI n4) := ⟨_, rfl⟩
      have hG : MG [1, 2, 3, 6, 7, 8, 9, 10, 11, 12, 13, 14, 15, 19, 20, 21, 22] st st10 := by rw [est10]; exact hG.up (rz (by decide : mr 0 13 = 0)) (pn (by decide : pcl 0 13 = 16) (by decide))
      rw [← est10] at hP
      refine lv_aload_n hx hb dX12_readNamed_30 rfl (lv_at hl 0 rfl) ?_
      refine va_get (D := (dC, dI)) (ci := 11) (v := .int (st10 0 13)) (C := RX12) (T := TX12) (N := 47) hx hb hts ii_X12_readNamed hown hK hP 0 rfl rfl 13 (by decide) (hts _ mm_X12_readNamed_3) (fun _ hh => hh) rfl dX12_readNamed_31 ?_
      refine zz_top (v := (nI n4)) (by show st10 0 13 = _; rw [est10, up2_same]) ?_
      refine lv_iconst (v := (-1)) hx hb dX12_readNamed_34 (by decide) ?_
      refine lv_icmp_ne (tgt := 44) hx hb dX12_readNamed_35 (by decide) (fun _ => ?_) (fun cc => absurd cc (nI_nem (by omega)))
      refine lv_aload_n hx hb dX12_readNamed_44 rfl (lv_at hl 0 rfl) ?_
      refine va_callv (va_runV (As := []) (rest := []) ⟨hx, hb, hml, hown, hts⟩ (m_go l dC dI ar cy _ hN st10 sl ga gb  hG.1 ((⟨by rw [est10, up2_ne (r := 0) (k := 13) (a := 0) (j := 5) _ _ (by omega), hT.1], by rw [est10, up2_ne (r := 0) (k := 13) (a := 0) (j := 3) _ _ (by omega), hT.2.1], by omega, by omega⟩ : TS st10 ga gb))) (cwV 0 hts gX12_readNamed_X12_go rfl rfl rfl (by decide +kernel) ⟨Nat.le_of_ble_eq_true rfl, Nat.le_of_ble_eq_true rfl⟩) ⟨fun a U g mk q => ⟨q.1, mPre.blind q.2⟩, va_recv hK hP (ci := 11) (q0 := 0) rfl rfl, fun U hU hW => ⟨rfl, mPre.of hP hK hU hW⟩⟩ rfl rfl hl.1 rfl (lv_room (Nat.le_of_ble_eq_true rfl)) dX12_readNamed_45 ⟨Nat.le_of_ble_eq_true rfl, Nat.le_of_ble_eq_true rfl⟩) hS (fun q _ h => MA.le hS.1 q h) (MA.le hS.1) (fun x t H locs ht hvm hw hB _ _ hS => ?_)
      have hP := mB.at ht hB
      clear hB ht hvm
      obtain ⟨st12, sl13⟩ := x
      obtain ⟨hG2, hL2, hw⟩ := hw
      have hL : LQ [7, 9] sl sl13 := hL.tr hL2 (by decide)
      clear hL2
      dsimp only at hw
      have hP : va_P (dC, dI) vwCl (mw ar cy st12 sl13) _ := hP
      have hG : MG [1, 2, 3, 6, 7, 8, 9, 10, 11, 12, 13, 14, 15, 19, 20, 21, 22] st st12 := hG.tr hG2 (by decide)
      have hGst12 : MG [1, 2, 3, 6, 7, 8, 9, 10, 11, 12, 13, 14, 15, 16, 19, 20, 21, 22, 23] st10 st12 := hG2
      clear hG2
      obtain ⟨n14, hf15, hf16, hf17⟩ := hw
      have hf15c := hf15.2.2.1
      have hf15d := hf15.2.2.2
      refine lv_iconst (v := 1) hx hb dX12_readNamed_48 (by decide) ?_
      exact W.zret (v := 1) hx hb hr rfl (fun t ht hW => ⟨⟨1, (st12, sl13), rfl, ⟨hG, hL, Or.inl (⟨n14, n4, rfl, (show TS st12 n14 gb from ⟨by rw [hf15.1], by rw [hf15.2.1], by omega, by omega⟩), by omega, fun (hh : st12 0 7 = 4) => by have hk := hf17 (by exact hh); omega, by show st12 0 13 = (nI n4); rw [hGst12.2 0 13 (by decide), est10, up2_same], by omega⟩)⟩, mB.of ht hP⟩, hS.F ht⟩) hS.2.2 dX12_readNamed_49
  · refine lv_if_ne (tgt := 13) hx hb dX12_readNamed_4 (by decide) (fun cc => absurd (by decide) cc) (fun _ => ?_)
    refine lv_aload_n hx hb dX12_readNamed_7 rfl (lv_at hl 0 rfl) ?_
    refine lv_iconst (v := 1) hx hb dX12_readNamed_8 (by decide) ?_
    refine va_calli (va_runV (As := [.int 1]) (rest := []) ⟨hx, hb, hml, hown, hts⟩ (m_bad l dC dI ar cy _ hN st sl 1  hG.1) (cwV 1 hts gX12_readNamed_X12_bad rfl rfl rfl (by decide +kernel) ⟨Nat.le_of_ble_eq_true rfl, Nat.le_of_ble_eq_true rfl⟩) ⟨fun a U g mk q => ⟨q.1, mPre.blind q.2⟩, va_recv hK hP (ci := 11) (q0 := 0) rfl rfl, fun U hU hW => ⟨rfl, mPre.of hP hK hU hW⟩⟩ rfl rfl hl.1 rfl (lv_room (Nat.le_of_ble_eq_true rfl)) dX12_readNamed_9 ⟨Nat.le_of_ble_eq_true rfl, Nat.le_of_ble_eq_true rfl⟩) hS (fun q _ h => MA.le hS.1 q h) (MA.le hS.1) (fun r18 x t H locs ht hvm hw hB _ _ hS => ?_)
    have hP := mB.at ht hB
    clear hB ht hvm
    obtain ⟨st19, sl20⟩ := x
    obtain ⟨hG2, hL2, hw⟩ := hw
    have hL : LQ [7, 9] sl sl20 := hL.tr hL2 (by decide)
    clear hL2
    have hP : va_P (dC, dI) vwCl (mw ar cy st19 sl20) _ := hP
    have hG : MG [1, 2, 3, 6, 7, 8, 9, 10, 11, 12, 13, 14, 15, 19, 20, 21, 22] st st19 := hG.tr hG2 (by decide)
    have hGst19 : MG [1, 2, 3, 4, 5, 6, 7, 8, 9, 10, 11, 12, 13, 14, 15, 16, 17, 19, 20, 21, 22] st st19 := hG2
    clear hG2
    obtain rfl := hw
    exact W.zret (v := 0) hx hb hr rfl (fun t ht hW => ⟨⟨0, (st19, sl20), rfl, ⟨hG, hL, Or.inr (rfl)⟩, mB.of ht hP⟩, hS.F ht⟩) hS.2.2 dX12_readNamed_12
set_option maxHeartbeats 4000000 in
set_option maxRecDepth 100000 in
theorem m_readNamed5 (l : Launch) (dC : Nat → ClassId) (dI : Nat → Nat → Nat) (ar : Nat → Nat) (cy : Nat → ClassId) (sz : Nat) (hN : MN ar) (st : Nat → Nat → Int32) (sl : Nat → Nat → Int64) (vb : Nat) (ga gb : Nat) (hvb : vb < 9) (hI : MI st) (hT : TS st ga gb) : Met l yX12_readNamed wsX12_readNamed ({ frames := 3, cells := 0, slots := 0, locals := 69 }) (va_Pc [.ref (ar 0), .int 5, .int (nI vb)] (mPre dC dI ar cy sz st sl)) (va_Qi (fun (r : Int32) (x : MT) => MG [1, 2, 3, 6, 7, 8, 9, 10, 11, 12, 13, 14, 15, 19, 20, 21, 22] st x.1 ∧ LQ [7, 9] sl x.2 ∧ ((∃ g : Nat, ∃ n : Nat, r = 1 ∧ TS x.1 g gb ∧ ga ≤ g ∧ (x.1 0 7 = 4 → ga < g) ∧ x.1 0 13 = nI n ∧ n < 8) ∨ (r = 0))) (mB dC dI ar cy) (MA ar sz)) 0 0 (MA ar sz) := by
  refine Met.ofW (cc := cX12_readNamed) (maxL := 3) (ret := (some .boolean)) (by decide) rfl ?_
  intro p e s m args below meth c s₁ B hml hv
  obtain ⟨rfl, hsz, hP, hK⟩ := hv
  have hx := B.exec
  have hb := B.bytes
  have hr := B.returns
  have hts := atoms_spec (ws := wsX12_readNamed) B.pre
  have hown : s.vm.findClass RX12 = some m.cls := findClass_of_methodNamed B.named
  subst hsz
  have hS : va_S (MA ar s.heap.size) s.heap s.heap [] := va_S.rf
  have hG : MG [1, 2, 3, 6, 7, 8, 9, 10, 11, 12, 13, 14, 15, 19, 20, 21, 22] st st := MG.rf hI
  have hl := lv_entry ([.ref (ar 0), .int 5, .int (nI vb)]) (n := 3) (Nat.le_of_ble_eq_true rfl)
  rw [lg_entry_eq]
  generalize (lg_sl ([.ref (ar 0), .int 5, .int (nI vb)]) ++ List.replicate (3 - (lg_sl ([.ref (ar 0), .int 5, .int (nI vb)])).length) Slot.unset).toArray = ls at hl ⊢
  have hl : lv_has ls 3 [(0, .ref (ar 0)), (1, .int 5), (2, .int (nI vb))] := hl
  clear hI
  have hL : LQ [7, 9] sl sl := LQ.rf
  have hTc := hT.2.2.1
  have hTd := hT.2.2.2
  have hga : ga ≤ ga := Nat.le_refl ga
  refine lv_aload_n hx hb dX12_readNamed_0 rfl (lv_at hl 0 rfl) ?_
  refine va_calli (va_runV (As := []) (rest := []) ⟨hx, hb, hml, hown, hts⟩ (m_isName l dC dI ar cy _ hN st sl  hG.1) (cwV 0 hts gX12_readNamed_X12_isName rfl rfl rfl (by decide +kernel) ⟨Nat.le_of_ble_eq_true rfl, Nat.le_of_ble_eq_true rfl⟩) ⟨fun a U g mk q => ⟨q.1, mPre.blind q.2⟩, va_recv hK hP (ci := 11) (q0 := 0) rfl rfl, fun U hU hW => ⟨rfl, mPre.of hP hK hU hW⟩⟩ rfl rfl hl.1 rfl (lv_room (Nat.le_of_ble_eq_true rfl)) dX12_readNamed_1 ⟨Nat.le_of_ble_eq_true rfl, Nat.le_of_ble_eq_true rfl⟩) hS (fun q _ h => MA.le hS.1 q h) (MA.le hS.1) (fun r1 x t H locs ht hvm hw hB _ _ hS => ?_)
  have hP := mB.at ht hB
  clear hB ht hvm
  obtain ⟨rfl, hw⟩ := hw
  have hP : va_P (dC, dI) vwCl (mw ar cy st sl) _ := hP
  rcases hw with rfl | rfl
  · refine lv_if_ne (tgt := 13) hx hb dX12_readNamed_4 (by decide) (fun _ => ?_) (fun cc => absurd cc (by decide))
    refine lv_aload_n hx hb dX12_readNamed_13 rfl (lv_at hl 0 rfl) ?_
    refine lv_aload_n hx hb dX12_readNamed_14 rfl (lv_at hl 0 rfl) ?_
    refine va_get (D := (dC, dI)) (ci := 11) (v := .ref (ar 7)) (C := RX12) (T := TX12) (N := 47) hx hb hts ii_X12_readNamed hown hK hP 0 rfl rfl 19 (by decide) (hts _ mm_X12_readNamed_1) (fun _ hh => hh) rfl dX12_readNamed_15 ?_
    refine lv_iload_n hx hb dX12_readNamed_18 rfl (lv_at hl 1 rfl) ?_
    refine lv_iload_n hx hb dX12_readNamed_19 rfl (lv_at hl 2 rfl) ?_
    refine lv_aload_n hx hb dX12_readNamed_20 rfl (lv_at hl 0 rfl) ?_
    refine va_get (D := (dC, dI)) (ci := 11) (v := .long (sl 0 12)) (C := RX12) (T := TX12) (N := 47) hx hb hts ii_X12_readNamed hown hK hP 0 rfl rfl 12 (by decide) (hts _ mm_X12_readNamed_2) (fun _ hh => hh) rfl dX12_readNamed_21 ?_
    refine lv_topl (fun z2 ez2 => ?_)
    clear ez2
    refine va_calli (va_runS (As := [.ref (ar 7), .int 5, .int (nI vb), .long z2]) (rest := [.ref (ar 0)]) ⟨hx, hb, hml, hown, hts⟩ (m_findIn7 l dC dI ar cy _ hN st sl 5 vb z2 (by omega) (by omega) hG.1 (by omega)) (va_cwS 4 hts gX12_readNamed_X12_findIn rfl rfl rfl (by decide +kernel) ⟨Nat.le_of_ble_eq_true rfl, Nat.le_of_ble_eq_true rfl⟩) ⟨fun a U g mk q => ⟨q.1, mPre.blind q.2⟩, fun U hU hW => ⟨rfl, mPre.of hP hK hU hW⟩⟩ rfl rfl hl.1 rfl (lv_room (Nat.le_of_ble_eq_true rfl)) dX12_readNamed_24 ⟨Nat.le_of_ble_eq_true rfl, Nat.le_of_ble_eq_true rfl⟩) hS (fun q _ h => MA.le hS.1 q h) (MA.le hS.1) (fun r3 x t H locs ht hvm hw hB _ _ hS => ?_)
    have hP := mB.at ht hB
    clear hB ht hvm
    obtain ⟨rfl, hw⟩ := hw
    have hP : va_P (dC, dI) vwCl (mw ar cy st sl) _ := hP
    rcases hw with rfl | ⟨n4, rfl, hf5⟩
    · refine va_put (D := (dC, dI)) (ci := 11) (v := .int (-1)) (ty := .int) (C := RX12) (T := TX12) (N := 47) hx hb hts ii_X12_readNamed tyX12 tyX12_ok nmX12 hown hK hP (mD hN _ _ _ _) hS 0 rfl rfl 13 (by decide) (hts _ mm_X12_readNamed_3) (fun _ hh => hh) rfl (by decide +kernel) rfl rfl (Nat.le_of_ble_eq_true rfl) dX12_readNamed_27 (fun H locs hP _ hS => ?_)
      have hP : va_P (dC, dI) vwCl (mw ar cy (up2 st 0 13 (-1)) sl) H := hP
      obtain ⟨st6, est6⟩ : ∃ y, y = up2 st 0 13 (-1) := ⟨_, rfl⟩
      have hG : MG [1, 2, 3, 6, 7, 8, 9, 10, 11, 12, 13, 14, 15, 19, 20, 21, 22] st st6 := by rw [est6]; exact hG.up (rz (by decide : mr 0 13 = 0)) (pn (by decide : pcl 0 13 = 16) (by decide))
      rw [← est6] at hP
      refine lv_aload_n hx hb dX12_readNamed_30 rfl (lv_at hl 0 rfl) ?_
      refine va_get (D := (dC, dI)) (ci := 11) (v := .int (st6 0 13)) (C := RX12) (T := TX12) (N := 47) hx hb hts ii_X12_readNamed hown hK hP 0 rfl rfl 13 (by decide) (hts _ mm_X12_readNamed_3) (fun _ hh => hh) rfl dX12_readNamed_31 ?_
      refine zz_top (v := (-1)) (by show st6 0 13 = _; rw [est6, up2_same]) ?_
      refine lv_iconst (v := (-1)) hx hb dX12_readNamed_34 (by decide) ?_
      refine lv_icmp_ne (tgt := 44) hx hb dX12_readNamed_35 (by decide) (fun cc => absurd (by decide) cc) (fun _ => ?_)
      refine lv_aload_n hx hb dX12_readNamed_38 rfl (lv_at hl 0 rfl) ?_
      refine lv_iconst (v := 3) hx hb dX12_readNamed_39 (by decide) ?_
      refine va_calli (va_runV (As := [.int 3]) (rest := []) ⟨hx, hb, hml, hown, hts⟩ (m_bad l dC dI ar cy _ hN st6 sl 3  hG.1) (cwV 1 hts gX12_readNamed_X12_bad rfl rfl rfl (by decide +kernel) ⟨Nat.le_of_ble_eq_true rfl, Nat.le_of_ble_eq_true rfl⟩) ⟨fun a U g mk q => ⟨q.1, mPre.blind q.2⟩, va_recv hK hP (ci := 11) (q0 := 0) rfl rfl, fun U hU hW => ⟨rfl, mPre.of hP hK hU hW⟩⟩ rfl rfl hl.1 rfl (lv_room (Nat.le_of_ble_eq_true rfl)) dX12_readNamed_40 ⟨Nat.le_of_ble_eq_true rfl, Nat.le_of_ble_eq_true rfl⟩) hS (fun q _ h => MA.le hS.1 q h) (MA.le hS.1) (fun r7 x t H locs ht hvm hw hB _ _ hS => ?_)
      have hP := mB.at ht hB
      clear hB ht hvm
      obtain ⟨st8, sl9⟩ := x
      obtain ⟨hG2, hL2, hw⟩ := hw
      have hL : LQ [7, 9] sl sl9 := hL.tr hL2 (by decide)
      clear hL2
      have hP : va_P (dC, dI) vwCl (mw ar cy st8 sl9) _ := hP
      have hG : MG [1, 2, 3, 6, 7, 8, 9, 10, 11, 12, 13, 14, 15, 19, 20, 21, 22] st st8 := hG.tr hG2 (by decide)
      have hGst8 : MG [1, 2, 3, 4, 5, 6, 7, 8, 9, 10, 11, 12, 13, 14, 15, 16, 17, 19, 20, 21, 22] st6 st8 := hG2
      clear hG2
      obtain rfl := hw
      exact W.zret (v := 0) hx hb hr rfl (fun t ht hW => ⟨⟨0, (st8, sl9), rfl, ⟨hG, hL, Or.inr (rfl)⟩, mB.of ht hP⟩, hS.F ht⟩) hS.2.2 dX12_readNamed_43
    · refine va_put (D := (dC, dI)) (ci := 11) (v := .int (nI n4)) (ty := .int) (C := RX12) (T := TX12) (N := 47) hx hb hts ii_X12_readNamed tyX12 tyX12_ok nmX12 hown hK hP (mD hN _ _ _ _) hS 0 rfl rfl 13 (by decide) (hts _ mm_X12_readNamed_3) (fun _ hh => hh) rfl (by decide +kernel) rfl rfl (Nat.le_of_ble_eq_true rfl) dX12_readNamed_27 (fun H locs hP _ hS => ?_)
      have hP : va_P (dC, dI) vwCl (mw ar cy (up2 st 0 13 (nI n4)) sl) H := hP
      obtain ⟨st10, est10⟩ : ∃ y, y = up2 st 0 13 (nI n4) := ⟨_, rfl⟩
      have hG : MG [1, 2, 3, 6, 7, 8, 9, 10, 11, 12, 13, 14, 15, 19, 20, 21, 22] st st10 := by rw [est10]; exact hG.up (rz (by decide : mr 0 13 = 0)) (pn (by decide : pcl 0 13 = 16) (by decide))
      rw [← est10] at hP
      refine lv_aload_n hx hb dX12_readNamed_30 rfl (lv_at hl 0 rfl) ?_
      refine va_get (D := (dC, dI)) (ci := 11) (v := .int (st10 0 13)) (C := RX12) (T := TX12) (N := 47) hx hb hts ii_X12_readNamed hown hK hP 0 rfl rfl 13 (by decide) (hts _ mm_X12_readNamed_3) (fun _ hh => hh) rfl dX12_readNamed_31 ?_
      refine zz_top (v := (nI n4)) (by show st10 0 13 = _; rw [est10, up2_same]) ?_
      refine lv_iconst (v := (-1)) hx hb dX12_readNamed_34 (by decide) ?_
      refine lv_icmp_ne (tgt := 44) hx hb dX12_readNamed_35 (by decide) (fun _ => ?_) (fun cc => absurd cc (nI_nem (by omega)))
      refine lv_aload_n hx hb dX12_readNamed_44 rfl (lv_at hl 0 rfl) ?_
      refine va_callv (va_runV (As := []) (rest := []) ⟨hx, hb, hml, hown, hts⟩ (m_go l dC dI ar cy _ hN st10 sl ga gb  hG.1 ((⟨by rw [est10, up2_ne (r := 0) (k := 13) (a := 0) (j := 5) _ _ (by omega), hT.1], by rw [est10, up2_ne (r := 0) (k := 13) (a := 0) (j := 3) _ _ (by omega), hT.2.1], by omega, by omega⟩ : TS st10 ga gb))) (cwV 0 hts gX12_readNamed_X12_go rfl rfl rfl (by decide +kernel) ⟨Nat.le_of_ble_eq_true rfl, Nat.le_of_ble_eq_true rfl⟩) ⟨fun a U g mk q => ⟨q.1, mPre.blind q.2⟩, va_recv hK hP (ci := 11) (q0 := 0) rfl rfl, fun U hU hW => ⟨rfl, mPre.of hP hK hU hW⟩⟩ rfl rfl hl.1 rfl (lv_room (Nat.le_of_ble_eq_true rfl)) dX12_readNamed_45 ⟨Nat.le_of_ble_eq_true rfl, Nat.le_of_ble_eq_true rfl⟩) hS (fun q _ h => MA.le hS.1 q h) (MA.le hS.1) (fun x t H locs ht hvm hw hB _ _ hS => ?_)
      have hP := mB.at ht hB
      clear hB ht hvm
      obtain ⟨st12, sl13⟩ := x
      obtain ⟨hG2, hL2, hw⟩ := hw
      have hL : LQ [7, 9] sl sl13 := hL.tr hL2 (by decide)
      clear hL2
      dsimp only at hw
      have hP : va_P (dC, dI) vwCl (mw ar cy st12 sl13) _ := hP
      have hG : MG [1, 2, 3, 6, 7, 8, 9, 10, 11, 12, 13, 14, 15, 19, 20, 21, 22] st st12 := hG.tr hG2 (by decide)
      have hGst12 : MG [1, 2, 3, 6, 7, 8, 9, 10, 11, 12, 13, 14, 15, 16, 19, 20, 21, 22, 23] st10 st12 := hG2
      clear hG2
      obtain ⟨n14, hf15, hf16, hf17⟩ := hw
      have hf15c := hf15.2.2.1
      have hf15d := hf15.2.2.2
      refine lv_iconst (v := 1) hx hb dX12_readNamed_48 (by decide) ?_
      exact W.zret (v := 1) hx hb hr rfl (fun t ht hW => ⟨⟨1, (st12, sl13), rfl, ⟨hG, hL, Or.inl (⟨n14, n4, rfl, (show TS st12 n14 gb from ⟨by rw [hf15.1], by rw [hf15.2.1], by omega, by omega⟩), by omega, fun (hh : st12 0 7 = 4) => by have hk := hf17 (by exact hh); omega, by show st12 0 13 = (nI n4); rw [hGst12.2 0 13 (by decide), est10, up2_same], by omega⟩)⟩, mB.of ht hP⟩, hS.F ht⟩) hS.2.2 dX12_readNamed_49
  · refine lv_if_ne (tgt := 13) hx hb dX12_readNamed_4 (by decide) (fun cc => absurd (by decide) cc) (fun _ => ?_)
    refine lv_aload_n hx hb dX12_readNamed_7 rfl (lv_at hl 0 rfl) ?_
    refine lv_iconst (v := 1) hx hb dX12_readNamed_8 (by decide) ?_
    refine va_calli (va_runV (As := [.int 1]) (rest := []) ⟨hx, hb, hml, hown, hts⟩ (m_bad l dC dI ar cy _ hN st sl 1  hG.1) (cwV 1 hts gX12_readNamed_X12_bad rfl rfl rfl (by decide +kernel) ⟨Nat.le_of_ble_eq_true rfl, Nat.le_of_ble_eq_true rfl⟩) ⟨fun a U g mk q => ⟨q.1, mPre.blind q.2⟩, va_recv hK hP (ci := 11) (q0 := 0) rfl rfl, fun U hU hW => ⟨rfl, mPre.of hP hK hU hW⟩⟩ rfl rfl hl.1 rfl (lv_room (Nat.le_of_ble_eq_true rfl)) dX12_readNamed_9 ⟨Nat.le_of_ble_eq_true rfl, Nat.le_of_ble_eq_true rfl⟩) hS (fun q _ h => MA.le hS.1 q h) (MA.le hS.1) (fun r18 x t H locs ht hvm hw hB _ _ hS => ?_)
    have hP := mB.at ht hB
    clear hB ht hvm
    obtain ⟨st19, sl20⟩ := x
    obtain ⟨hG2, hL2, hw⟩ := hw
    have hL : LQ [7, 9] sl sl20 := hL.tr hL2 (by decide)
    clear hL2
    have hP : va_P (dC, dI) vwCl (mw ar cy st19 sl20) _ := hP
    have hG : MG [1, 2, 3, 6, 7, 8, 9, 10, 11, 12, 13, 14, 15, 19, 20, 21, 22] st st19 := hG.tr hG2 (by decide)
    have hGst19 : MG [1, 2, 3, 4, 5, 6, 7, 8, 9, 10, 11, 12, 13, 14, 15, 16, 17, 19, 20, 21, 22] st st19 := hG2
    clear hG2
    obtain rfl := hw
    exact W.zret (v := 0) hx hb hr rfl (fun t ht hW => ⟨⟨0, (st19, sl20), rfl, ⟨hG, hL, Or.inr (rfl)⟩, mB.of ht hP⟩, hS.F ht⟩) hS.2.2 dX12_readNamed_12
set_option maxHeartbeats 4000000 in
set_option maxRecDepth 100000 in
theorem m_readPlaceName (l : Launch) (dC : Nat → ClassId) (dI : Nat → Nat → Nat) (ar : Nat → Nat) (cy : Nat → ClassId) (sz : Nat) (hN : MN ar) (st : Nat → Nat → Int32) (sl : Nat → Nat → Int64) (ga gb : Nat) (hI : MI st) (hT : TS st ga gb) : Met l yX12_readPlaceName wsX12_readPlaceName ({ frames := 4, cells := 0, slots := 0, locals := 91 }) (va_Pc [.ref (ar 0)] (mPre dC dI ar cy sz st sl)) (va_Qi (fun (r : Int32) (x : MT) => MG [1, 2, 3, 6, 7, 8, 9, 10, 11, 12, 13, 14, 15, 19, 20, 21, 22] st x.1 ∧ LQ [7, 9] sl x.2 ∧ ((∃ g : Nat, ∃ n : Nat, r = 1 ∧ TS x.1 g gb ∧ ga ≤ g ∧ (x.1 0 7 = 4 → ga < g) ∧ x.1 0 13 = nI n ∧ n < 5) ∨ (r = 0))) (mB dC dI ar cy) (MA ar sz)) 0 0 (MA ar sz) := by
  refine Met.ofW (cc := cX12_readPlaceName) (maxL := 1) (ret := (some .boolean)) (by decide) rfl ?_
  intro p e s m args below meth c s₁ B hml hv
  obtain ⟨rfl, hsz, hP, hK⟩ := hv
  have hx := B.exec
  have hb := B.bytes
  have hr := B.returns
  have hts := atoms_spec (ws := wsX12_readPlaceName) B.pre
  have hown : s.vm.findClass RX12 = some m.cls := findClass_of_methodNamed B.named
  subst hsz
  have hS : va_S (MA ar s.heap.size) s.heap s.heap [] := va_S.rf
  have hG : MG [1, 2, 3, 6, 7, 8, 9, 10, 11, 12, 13, 14, 15, 19, 20, 21, 22] st st := MG.rf hI
  have hl := lv_entry ([.ref (ar 0)]) (n := 1) (Nat.le_of_ble_eq_true rfl)
  rw [lg_entry_eq]
  generalize (lg_sl ([.ref (ar 0)]) ++ List.replicate (1 - (lg_sl ([.ref (ar 0)])).length) Slot.unset).toArray = ls at hl ⊢
  have hl : lv_has ls 1 [(0, .ref (ar 0))] := hl
  clear hI
  have hL : LQ [7, 9] sl sl := LQ.rf
  have hTc := hT.2.2.1
  have hTd := hT.2.2.2
  have hga : ga ≤ ga := Nat.le_refl ga
  refine lv_aload_n hx hb dX12_readPlaceName_0 rfl (lv_at hl 0 rfl) ?_
  refine lv_iconst (v := 0) hx hb dX12_readPlaceName_1 (by decide) ?_
  refine lv_aload_n hx hb dX12_readPlaceName_2 rfl (lv_at hl 0 rfl) ?_
  refine va_get (D := (dC, dI)) (ci := 11) (v := .ref (ar 2)) (C := RX12) (T := TX12) (N := 47) hx hb hts ii_X12_readPlaceName hown hK hP 0 rfl rfl 14 (by decide) (hts _ mm_X12_readPlaceName_1) (fun _ hh => hh) rfl dX12_readPlaceName_3 ?_
  refine lv_iconst (v := 0) hx hb dX12_readPlaceName_6 (by decide) ?_
  refine va_iald hx hb hK hP 2 1 rfl rfl (i := 0) (zz_in (by decide)) dX12_readPlaceName_7 ?_
  obtain ⟨n1, hn1, en1⟩ := hG.1.at (r := 2) (k := 0) (by decide : mr 2 0 = 6) (by decide)
  refine zz_top (v := nI n1) (by exact en1) ?_
  refine va_calli (va_runV (As := [.int 0, .int (nI n1)]) (rest := []) ⟨hx, hb, hml, hown, hts⟩ (m_readNamed0 l dC dI ar cy _ hN st sl n1 ga gb (by omega) hG.1 ((⟨by rw [hT.1], by rw [hT.2.1], by omega, by omega⟩ : TS st ga gb))) (cwV 2 hts gX12_readPlaceName_X12_readNamed rfl rfl rfl (by decide +kernel) ⟨Nat.le_of_ble_eq_true rfl, Nat.le_of_ble_eq_true rfl⟩) ⟨fun a U g mk q => ⟨q.1, mPre.blind q.2⟩, va_recv hK hP (ci := 11) (q0 := 0) rfl rfl, fun U hU hW => ⟨rfl, mPre.of hP hK hU hW⟩⟩ rfl rfl hl.1 rfl (lv_room (Nat.le_of_ble_eq_true rfl)) dX12_readPlaceName_8 ⟨Nat.le_of_ble_eq_true rfl, Nat.le_of_ble_eq_true rfl⟩) hS (fun q _ h => MA.le hS.1 q h) (MA.le hS.1) (fun r2 x t H locs ht hvm hw hB _ _ hS => ?_)
  have hP := mB.at ht hB
  clear hB ht hvm
  obtain ⟨st3, sl4⟩ := x
  obtain ⟨hG2, hL2, hw⟩ := hw
  have hL : LQ [7, 9] sl sl4 := hL.tr hL2 (by decide)
  clear hL2
  dsimp only at hw
  have hP : va_P (dC, dI) vwCl (mw ar cy st3 sl4) _ := hP
  have hG : MG [1, 2, 3, 6, 7, 8, 9, 10, 11, 12, 13, 14, 15, 19, 20, 21, 22] st st3 := hG.tr hG2 (by decide)
  have hGst3 : MG [1, 2, 3, 6, 7, 8, 9, 10, 11, 12, 13, 14, 15, 19, 20, 21, 22] st st3 := hG2
  clear hG2
  rcases hw with ⟨n5, n6, rfl, hf7, hf8, hf9, hf10, hf11⟩ | rfl
  · have hf7c := hf7.2.2.1
    have hf7d := hf7.2.2.2
    exact W.zret (v := 1) hx hb hr rfl (fun t ht hW => ⟨⟨1, (st3, sl4), rfl, ⟨hG, hL, Or.inl (⟨n5, n6, rfl, (show TS st3 n5 gb from ⟨by rw [hf7.1], by rw [hf7.2.1], by omega, by omega⟩), by omega, fun (hh : st3 0 7 = 4) => by have hk := hf9 (by exact hh); omega, by show st3 0 13 = (nI n6); rw [hf10], by omega⟩)⟩, mB.of ht hP⟩, hS.F ht⟩) hS.2.2 dX12_readPlaceName_11
  · exact W.zret (v := 0) hx hb hr rfl (fun t ht hW => ⟨⟨0, (st3, sl4), rfl, ⟨hG, hL, Or.inr (rfl)⟩, mB.of ht hP⟩, hS.F ht⟩) hS.2.2 dX12_readPlaceName_11
set_option maxHeartbeats 4000000 in
set_option maxRecDepth 100000 in
theorem m_keep0 (l : Launch) (dC : Nat → ClassId) (dI : Nat → Nat → Nat) (ar : Nat → Nat) (cy : Nat → ClassId) (sz : Nat) (hN : MN ar) (st : Nat → Nat → Int32) (sl : Nat → Nat → Int64) (va : Int32) (hI : MI st) : Met l yX12_keep wsX12_keep ({ frames := 0, cells := 0, slots := 0, locals := 0 }) (va_Pc [.ref (ar 0), .int va, .int 0] (mPre dC dI ar cy sz st sl)) (va_Qi (fun (r : Int32) (x : MT) => x = (st, sl) ∧ (r = 0)) (mB dC dI ar cy) (MA ar sz)) 0 0 (MA ar sz) := by
  refine Met.ofW (cc := cX12_keep) (maxL := 3) (ret := (some .boolean)) (by decide) rfl ?_
  intro p e s m args below meth c s₁ B hml hv
  obtain ⟨rfl, hsz, hP, hK⟩ := hv
  have hx := B.exec
  have hb := B.bytes
  have hr := B.returns
  have hts := atoms_spec (ws := wsX12_keep) B.pre
  have hown : s.vm.findClass RX12 = some m.cls := findClass_of_methodNamed B.named
  subst hsz
  have hS : va_S (MA ar s.heap.size) s.heap s.heap [] := va_S.rf
  have hG : MG [1, 2, 3, 4, 5, 6, 7, 8, 9, 10, 11, 12, 13, 14, 15, 16, 17, 19, 20, 21, 22, 23] st st := MG.rf hI
  have hl := lv_entry ([.ref (ar 0), .int va, .int 0]) (n := 3) (Nat.le_of_ble_eq_true rfl)
  rw [lg_entry_eq]
  generalize (lg_sl ([.ref (ar 0), .int va, .int 0]) ++ List.replicate (3 - (lg_sl ([.ref (ar 0), .int va, .int 0])).length) Slot.unset).toArray = ls at hl ⊢
  have hl : lv_has ls 3 [(0, .ref (ar 0)), (1, .int va), (2, .int 0)] := hl
  clear hI
  refine lv_iload_n hx hb dX12_keep_0 rfl (lv_at hl 2 rfl) ?_
  refine lv_if_eq (tgt := 14) hx hb dX12_keep_1 (by decide) (fun _ => ?_) (fun cc => absurd (by decide) cc)
  refine lv_iload_n hx hb dX12_keep_14 rfl (lv_at hl 2 rfl) ?_
  exact W.zret (v := 0) hx hb hr rfl (fun t ht hW => ⟨⟨0, (st, sl), rfl, ⟨rfl, rfl⟩, mB.of ht hP⟩, hS.F ht⟩) hS.2.2 dX12_keep_15
set_option maxHeartbeats 4000000 in
set_option maxRecDepth 100000 in
theorem m_keep1 (l : Launch) (dC : Nat → ClassId) (dI : Nat → Nat → Nat) (ar : Nat → Nat) (cy : Nat → ClassId) (sz : Nat) (hN : MN ar) (st : Nat → Nat → Int32) (sl : Nat → Nat → Int64) (va : Nat) (hva : va < 200) (hI : MI st) : Met l yX12_keep wsX12_keep ({ frames := 0, cells := 0, slots := 0, locals := 0 }) (va_Pc [.ref (ar 0), .int (nI va), .int 1] (mPre dC dI ar cy sz st sl)) (va_Qi (fun (r : Int32) (x : MT) => MG [1, 2, 3, 4, 5, 6, 7, 8, 9, 10, 11, 12, 14, 15, 16, 17, 19, 20, 21, 22, 23] st x.1 ∧ LQ [7, 9] sl x.2 ∧ (r = 1 ∧ x.1 = up2 st 14 va (st 0 13))) (mB dC dI ar cy) (MA ar sz)) 0 0 (MA ar sz) := by
  refine Met.ofW (cc := cX12_keep) (maxL := 3) (ret := (some .boolean)) (by decide) rfl ?_
  intro p e s m args below meth c s₁ B hml hv
  obtain ⟨rfl, hsz, hP, hK⟩ := hv
  have hx := B.exec
  have hb := B.bytes
  have hr := B.returns
  have hts := atoms_spec (ws := wsX12_keep) B.pre
  have hown : s.vm.findClass RX12 = some m.cls := findClass_of_methodNamed B.named
  subst hsz
  have hS : va_S (MA ar s.heap.size) s.heap s.heap [] := va_S.rf
  have hG : MG [1, 2, 3, 4, 5, 6, 7, 8, 9, 10, 11, 12, 14, 15, 16, 17, 19, 20, 21, 22, 23] st st := MG.rf hI
  have hl := lv_entry ([.ref (ar 0), .int (nI va), .int 1]) (n := 3) (Nat.le_of_ble_eq_true rfl)
  rw [lg_entry_eq]
  generalize (lg_sl ([.ref (ar 0), .int (nI va), .int 1]) ++ List.replicate (3 - (lg_sl ([.ref (ar 0), .int (nI va), .int 1])).length) Slot.unset).toArray = ls at hl ⊢
  have hl : lv_has ls 3 [(0, .ref (ar 0)), (1, .int (nI va)), (2, .int 1)] := hl
  clear hI
  have hL : LQ [7, 9] sl sl := LQ.rf
  refine lv_iload_n hx hb dX12_keep_0 rfl (lv_at hl 2 rfl) ?_
  refine lv_if_eq (tgt := 14) hx hb dX12_keep_1 (by decide) (fun cc => absurd cc (by decide)) (fun _ => ?_)
  refine lv_aload_n hx hb dX12_keep_4 rfl (lv_at hl 0 rfl) ?_
  refine va_get (D := (dC, dI)) (ci := 11) (v := .ref (ar 14)) (C := RX12) (T := TX12) (N := 47) hx hb hts ii_X12_keep hown hK hP 0 rfl rfl 38 (by decide) (hts _ mm_X12_keep_1) (fun _ hh => hh) rfl dX12_keep_5 ?_
  refine lv_iload_n hx hb dX12_keep_8 rfl (lv_at hl 1 rfl) ?_
  refine lv_aload_n hx hb dX12_keep_9 rfl (lv_at hl 0 rfl) ?_
  refine va_get (D := (dC, dI)) (ci := 11) (v := .int (st 0 13)) (C := RX12) (T := TX12) (N := 47) hx hb hts ii_X12_keep hown hK hP 0 rfl rfl 13 (by decide) (hts _ mm_X12_keep_2) (fun _ hh => hh) rfl dX12_keep_10 ?_
  refine lv_topi (fun z1 ez1 => ?_)
  refine va_iast hx hb hK hP (mD hN _ _ _ _) hS 14 13 rfl rfl (i := (nI va)) (vp_in_nI (by omega) (by decide)) dX12_keep_13 (fun H locs hP _ hS => ?_)
  rw [nI_clamp (by omega)] at hP
  have hP : va_P (dC, dI) vwCl (mw ar cy (up2 st 14 va z1) sl) H := hP
  obtain ⟨st2, est2⟩ : ∃ y, y = up2 st 14 va z1 := ⟨_, rfl⟩
  have hG : MG [1, 2, 3, 4, 5, 6, 7, 8, 9, 10, 11, 12, 14, 15, 16, 17, 19, 20, 21, 22, 23] st st2 := by rw [est2]; exact hG.up (rz (mr_14_0_200 va (by omega) (by omega))) (pn (pcl_14_0_200 va (by omega) (by omega)) (by decide))
  rw [← est2] at hP
  refine lv_iload_n hx hb dX12_keep_14 rfl (lv_at hl 2 rfl) ?_
  exact W.zret (v := 1) hx hb hr rfl (fun t ht hW => ⟨⟨1, (st2, sl), rfl, ⟨hG, hL, ⟨rfl, by show st2 = _; rw [est2, ez1]⟩⟩, mB.of ht hP⟩, hS.F ht⟩) hS.2.2 dX12_keep_15
set_option maxHeartbeats 4000000 in
set_option maxRecDepth 100000 in
theorem m_readHours (l : Launch) (dC : Nat → ClassId) (dI : Nat → Nat → Nat) (ar : Nat → Nat) (cy : Nat → ClassId) (sz : Nat) (hN : MN ar) (st : Nat → Nat → Int32) (sl : Nat → Nat → Int64) (va : Nat) (ga gb : Nat) (hva : va < 199) (hI : MI st) (hT : TS st ga gb) : Met l yX12_readHours wsX12_readHours ({ frames := 3, cells := 0, slots := 0, locals := 67 }) (va_Pc [.ref (ar 0), .int (nI va)] (mPre dC dI ar cy sz st sl)) (va_Qi (fun (r : Int32) (x : MT) => MG [1, 2, 3, 6, 7, 8, 9, 10, 11, 12, 14, 15, 19, 20, 21, 22] st x.1 ∧ LQ [7, 9] sl x.2 ∧ ((∃ g : Nat, ∃ u : Nat, ∃ w : Nat, r = 1 ∧ TS x.1 g gb ∧ ga ≤ g ∧ (x.1 0 7 = 4 → ga < g) ∧ x.1 14 va = nI u ∧ x.1 14 (va + 1) = nI w ∧ u ≤ w ∧ w < 24 ∧ (∀ j, j < va → x.1 14 j = st 14 j)) ∨ (r = 0))) (mB dC dI ar cy) (MA ar sz)) 0 0 (MA ar sz) := by
  refine Met.ofW (cc := cX12_readHours) (maxL := 2) (ret := (some .boolean)) (by decide) rfl ?_
  intro p e s m args below meth c s₁ B hml hv
  obtain ⟨rfl, hsz, hP, hK⟩ := hv
  have hx := B.exec
  have hb := B.bytes
  have hr := B.returns
  have hts := atoms_spec (ws := wsX12_readHours) B.pre
  have hown : s.vm.findClass RX12 = some m.cls := findClass_of_methodNamed B.named
  subst hsz
  have hS : va_S (MA ar s.heap.size) s.heap s.heap [] := va_S.rf
  have hG : MG [1, 2, 3, 6, 7, 8, 9, 10, 11, 12, 14, 15, 19, 20, 21, 22] st st := MG.rf hI
  have hl := lv_entry ([.ref (ar 0), .int (nI va)]) (n := 2) (Nat.le_of_ble_eq_true rfl)
  rw [lg_entry_eq]
  generalize (lg_sl ([.ref (ar 0), .int (nI va)]) ++ List.replicate (2 - (lg_sl ([.ref (ar 0), .int (nI va)])).length) Slot.unset).toArray = ls at hl ⊢
  have hl : lv_has ls 2 [(0, .ref (ar 0)), (1, .int (nI va))] := hl
  clear hI
  have hL : LQ [7, 9] sl sl := LQ.rf
  have hTc := hT.2.2.1
  have hTd := hT.2.2.2
  have hga : ga ≤ ga := Nat.le_refl ga
  refine lv_aload_n hx hb dX12_readHours_0 rfl (lv_at hl 0 rfl) ?_
  refine lv_iload_n hx hb dX12_readHours_1 rfl (lv_at hl 1 rfl) ?_
  refine lv_aload_n hx hb dX12_readHours_2 rfl (lv_at hl 0 rfl) ?_
  refine lv_iconst (v := 0) hx hb dX12_readHours_3 (by decide) ?_
  refine lv_bipush (v := 23) hx hb dX12_readHours_4 (by decide) ?_
  refine va_calli (va_runV (As := [.int 0, .int 23]) (rest := [.int (nI va), .ref (ar 0)]) ⟨hx, hb, hml, hown, hts⟩ (m_readNumber l dC dI ar cy _ hN st sl 0 23 ga gb  hG.1 ((⟨by rw [hT.1], by rw [hT.2.1], by omega, by omega⟩ : TS st ga gb))) (cwV 2 hts gX12_readHours_X12_readNumber rfl rfl rfl (by decide +kernel) ⟨Nat.le_of_ble_eq_true rfl, Nat.le_of_ble_eq_true rfl⟩) ⟨fun a U g mk q => ⟨q.1, mPre.blind q.2⟩, va_recv hK hP (ci := 11) (q0 := 0) rfl rfl, fun U hU hW => ⟨rfl, mPre.of hP hK hU hW⟩⟩ rfl rfl hl.1 rfl (lv_room (Nat.le_of_ble_eq_true rfl)) dX12_readHours_6 ⟨Nat.le_of_ble_eq_true rfl, Nat.le_of_ble_eq_true rfl⟩) hS (fun q _ h => MA.le hS.1 q h) (MA.le hS.1) (fun r1 x t H locs ht hvm hw hB _ _ hS => ?_)
  have hP := mB.at ht hB
  clear hB ht hvm
  obtain ⟨st2, sl3⟩ := x
  obtain ⟨hG2, hL2, hw⟩ := hw
  have hL : LQ [7, 9] sl sl3 := hL.tr hL2 (by decide)
  clear hL2
  dsimp only at hw
  have hP : va_P (dC, dI) vwCl (mw ar cy st2 sl3) _ := hP
  have hG : MG [1, 2, 3, 6, 7, 8, 9, 10, 11, 12, 14, 15, 19, 20, 21, 22] st st2 := hG.tr hG2 (by decide)
  have hGst2 : MG [1, 2, 3, 6, 7, 8, 9, 10, 11, 12, 13, 14, 15, 19, 20, 21, 22] st st2 := hG2
  clear hG2
  rcases hw with ⟨n4, z5, rfl, hf6, hf7, hf8, hf9, hf10, hf11⟩ | rfl
  · have hf6c := hf6.2.2.1
    have hf6d := hf6.2.2.2
    obtain ⟨n12, hn12a, hn12b, rfl⟩ := zz_rng (a := 0) (b := 23) (by omega) hf10 (by omega) hf11
    refine va_calli (va_runV (As := [.int (nI va), .int 1]) (rest := []) ⟨hx, hb, hml, hown, hts⟩ (m_keep1 l dC dI ar cy _ hN st2 sl3 va (by omega) hG.1) (cwV 2 hts gX12_readHours_X12_keep rfl rfl rfl (by decide +kernel) ⟨Nat.le_of_ble_eq_true rfl, Nat.le_of_ble_eq_true rfl⟩) ⟨fun a U g mk q => ⟨q.1, mPre.blind q.2⟩, va_recv hK hP (ci := 11) (q0 := 0) rfl rfl, fun U hU hW => ⟨rfl, mPre.of hP hK hU hW⟩⟩ rfl rfl hl.1 rfl (lv_room (Nat.le_of_ble_eq_true rfl)) dX12_readHours_9 ⟨Nat.le_of_ble_eq_true rfl, Nat.le_of_ble_eq_true rfl⟩) hS (fun q _ h => MA.le hS.1 q h) (MA.le hS.1) (fun r13 x t H locs ht hvm hw hB _ _ hS => ?_)
    have hP := mB.at ht hB
    clear hB ht hvm
    obtain ⟨st14, sl15⟩ := x
    obtain ⟨hG2, hL2, hw⟩ := hw
    have hL : LQ [7, 9] sl sl15 := hL.tr hL2 (by decide)
    clear hL2
    dsimp only at hw
    have hP : va_P (dC, dI) vwCl (mw ar cy st14 sl15) _ := hP
    have hG : MG [1, 2, 3, 6, 7, 8, 9, 10, 11, 12, 14, 15, 19, 20, 21, 22] st st14 := hG.tr hG2 (by decide)
    have hGst14 : MG [1, 2, 3, 4, 5, 6, 7, 8, 9, 10, 11, 12, 14, 15, 16, 17, 19, 20, 21, 22, 23] st2 st14 := hG2
    clear hG2
    obtain ⟨rfl, hf16⟩ := hw
    rw [show st2 0 13 = (nI n12) by rw [hf9]] at hf16
    refine lv_if_eq (tgt := 41) hx hb dX12_readHours_12 (by decide) (fun cc => absurd cc (by decide)) (fun _ => ?_)
    refine lv_aload_n hx hb dX12_readHours_15 rfl (lv_at hl 0 rfl) ?_
    refine lv_iload_n hx hb dX12_readHours_16 rfl (lv_at hl 1 rfl) ?_
    refine lv_iconst (v := 1) hx hb dX12_readHours_17 (by decide) ?_
    refine lv_iadd hx hb dX12_readHours_18 ?_
    refine zz_top (v := nI (va + 1)) (nI_add va 1) ?_
    refine lv_aload_n hx hb dX12_readHours_19 rfl (lv_at hl 0 rfl) ?_
    refine lv_aload_n hx hb dX12_readHours_20 rfl (lv_at hl 0 rfl) ?_
    refine va_get (D := (dC, dI)) (ci := 11) (v := .ref (ar 14)) (C := RX12) (T := TX12) (N := 47) hx hb hts ii_X12_readHours hown hK hP 0 rfl rfl 38 (by decide) (hts _ mm_X12_readHours_1) (fun _ hh => hh) rfl dX12_readHours_21 ?_
    refine lv_iload_n hx hb dX12_readHours_24 rfl (lv_at hl 1 rfl) ?_
    refine va_iald hx hb hK hP 14 13 rfl rfl (i := (nI va)) (vp_in_nI (by omega) (by decide)) dX12_readHours_25 ?_
    refine zz_top (v := (nI n12)) (by rw [nI_clamp (by omega)]; show st14 14 va = _; rw [hf16, up2_same]) ?_
    refine lv_bipush (v := 23) hx hb dX12_readHours_26 (by decide) ?_
    refine va_calli (va_runV (As := [.int (nI n12), .int 23]) (rest := [.int (nI (va + 1)), .ref (ar 0)]) ⟨hx, hb, hml, hown, hts⟩ (m_readNumber l dC dI ar cy _ hN st14 sl15 (nI n12) 23 n4 gb  hG.1 ((⟨by rw [hf16, up2_ne (r := 14) (k := va) (a := 0) (j := 5) _ _ (by omega), hf6.1], by rw [hf16, up2_ne (r := 14) (k := va) (a := 0) (j := 3) _ _ (by omega), hf6.2.1], by omega, by omega⟩ : TS st14 n4 gb))) (cwV 2 hts gX12_readHours_X12_readNumber rfl rfl rfl (by decide +kernel) ⟨Nat.le_of_ble_eq_true rfl, Nat.le_of_ble_eq_true rfl⟩) ⟨fun a U g mk q => ⟨q.1, mPre.blind q.2⟩, va_recv hK hP (ci := 11) (q0 := 0) rfl rfl, fun U hU hW => ⟨rfl, mPre.of hP hK hU hW⟩⟩ rfl rfl hl.1 rfl (lv_room (Nat.le_of_ble_eq_true rfl)) dX12_readHours_28 ⟨Nat.le_of_ble_eq_true rfl, Nat.le_of_ble_eq_true rfl⟩) hS (fun q _ h => MA.le hS.1 q h) (MA.le hS.1) (fun r17 x t H locs ht hvm hw hB _ _ hS => ?_)
    have hP := mB.at ht hB
    clear hB ht hvm
    obtain ⟨st18, sl19⟩ := x
    obtain ⟨hG2, hL2, hw⟩ := hw
    have hL : LQ [7, 9] sl sl19 := hL.tr hL2 (by decide)
    clear hL2
    dsimp only at hw
    have hP : va_P (dC, dI) vwCl (mw ar cy st18 sl19) _ := hP
    have hG : MG [1, 2, 3, 6, 7, 8, 9, 10, 11, 12, 14, 15, 19, 20, 21, 22] st st18 := hG.tr hG2 (by decide)
    have hGst18 : MG [1, 2, 3, 6, 7, 8, 9, 10, 11, 12, 13, 14, 15, 19, 20, 21, 22] st14 st18 := hG2
    clear hG2
    rcases hw with ⟨n20, z21, rfl, hf22, hf23, hf24, hf25, hf26, hf27⟩ | rfl
    · have hf22c := hf22.2.2.1
      have hf22d := hf22.2.2.2
      obtain ⟨n28, hn28a, hn28b, rfl⟩ := zz_rng (a := n12) (b := 23) (by omega) hf26 (by omega) hf27
      refine va_calli (va_runV (As := [.int (nI (va + 1)), .int 1]) (rest := []) ⟨hx, hb, hml, hown, hts⟩ (m_keep1 l dC dI ar cy _ hN st18 sl19 (va + 1) (by omega) hG.1) (cwV 2 hts gX12_readHours_X12_keep rfl rfl rfl (by decide +kernel) ⟨Nat.le_of_ble_eq_true rfl, Nat.le_of_ble_eq_true rfl⟩) ⟨fun a U g mk q => ⟨q.1, mPre.blind q.2⟩, va_recv hK hP (ci := 11) (q0 := 0) rfl rfl, fun U hU hW => ⟨rfl, mPre.of hP hK hU hW⟩⟩ rfl rfl hl.1 rfl (lv_room (Nat.le_of_ble_eq_true rfl)) dX12_readHours_31 ⟨Nat.le_of_ble_eq_true rfl, Nat.le_of_ble_eq_true rfl⟩) hS (fun q _ h => MA.le hS.1 q h) (MA.le hS.1) (fun r29 x t H locs ht hvm hw hB _ _ hS => ?_)
      have hP := mB.at ht hB
      clear hB ht hvm
      obtain ⟨st30, sl31⟩ := x
      obtain ⟨hG2, hL2, hw⟩ := hw
      have hL : LQ [7, 9] sl sl31 := hL.tr hL2 (by decide)
      clear hL2
      dsimp only at hw
      have hP : va_P (dC, dI) vwCl (mw ar cy st30 sl31) _ := hP
      have hG : MG [1, 2, 3, 6, 7, 8, 9, 10, 11, 12, 14, 15, 19, 20, 21, 22] st st30 := hG.tr hG2 (by decide)
      have hGst30 : MG [1, 2, 3, 4, 5, 6, 7, 8, 9, 10, 11, 12, 14, 15, 16, 17, 19, 20, 21, 22, 23] st18 st30 := hG2
      clear hG2
      obtain ⟨rfl, hf32⟩ := hw
      rw [show st18 0 13 = (nI n28) by rw [hf25]] at hf32
      refine lv_if_eq (tgt := 41) hx hb dX12_readHours_34 (by decide) (fun cc => absurd cc (by decide)) (fun _ => ?_)
      refine lv_iconst (v := 1) hx hb dX12_readHours_37 (by decide) ?_
      refine lv_goto (tgt := 42) hx hb dX12_readHours_38 (by decide) ?_
      exact W.zret (v := 1) hx hb hr rfl (fun t ht hW => ⟨⟨1, (st30, sl31), rfl, ⟨hG, hL, Or.inl (⟨n20, n12, n28, rfl, (show TS st30 n20 gb from ⟨by rw [hf32, up2_ne (r := 14) (k := (va + 1)) (a := 0) (j := 5) _ _ (by omega), hf22.1], by rw [hf32, up2_ne (r := 14) (k := (va + 1)) (a := 0) (j := 3) _ _ (by omega), hf22.2.1], by omega, by omega⟩), by omega, fun (hh : st30 0 7 = 4) => by have hk := hf24 (by rw [hf32, up2_ne (r := 14) (k := (va + 1)) (a := 0) (j := 7) _ _ (by omega)] at hh; exact hh); omega, by show st30 14 va = (nI n12); rw [hf32, up2_ne (r := 14) (k := (va + 1)) (a := 14) (j := va) _ _ (by omega), hGst18.2 14 va (show (13 : Nat) ∈ _ by decide), hf16, up2_same], by show st30 14 (va + 1) = (nI n28); rw [hf32, up2_same], by omega, by omega, fun jj hk => by show st30 14 jj = st 14 jj; rw [hf32, up2_ne (r := 14) (k := (va + 1)) (a := 14) (j := jj) _ _ (by omega), hGst18.2 14 jj (show (13 : Nat) ∈ _ by decide), hf16, up2_ne (r := 14) (k := va) (a := 14) (j := jj) _ _ (by omega), hGst2.2 14 jj (show (13 : Nat) ∈ _ by decide)]⟩)⟩, mB.of ht hP⟩, hS.F ht⟩) hS.2.2 dX12_readHours_42
    · refine va_calli (va_runV (As := [.int (nI (va + 1)), .int 0]) (rest := []) ⟨hx, hb, hml, hown, hts⟩ (m_keep0 l dC dI ar cy _ hN st18 sl19 (nI (va + 1))  hG.1) (cwV 2 hts gX12_readHours_X12_keep rfl rfl rfl (by decide +kernel) ⟨Nat.le_of_ble_eq_true rfl, Nat.le_of_ble_eq_true rfl⟩) ⟨fun a U g mk q => ⟨q.1, mPre.blind q.2⟩, va_recv hK hP (ci := 11) (q0 := 0) rfl rfl, fun U hU hW => ⟨rfl, mPre.of hP hK hU hW⟩⟩ rfl rfl hl.1 rfl (lv_room (Nat.le_of_ble_eq_true rfl)) dX12_readHours_31 ⟨Nat.le_of_ble_eq_true rfl, Nat.le_of_ble_eq_true rfl⟩) hS (fun q _ h => MA.le hS.1 q h) (MA.le hS.1) (fun r33 x t H locs ht hvm hw hB _ _ hS => ?_)
      have hP := mB.at ht hB
      clear hB ht hvm
      obtain ⟨rfl, hw⟩ := hw
      have hP : va_P (dC, dI) vwCl (mw ar cy st18 sl19) _ := hP
      obtain rfl := hw
      refine lv_if_eq (tgt := 41) hx hb dX12_readHours_34 (by decide) (fun _ => ?_) (fun cc => absurd (by decide) cc)
      refine lv_iconst (v := 0) hx hb dX12_readHours_41 (by decide) ?_
      exact W.zret (v := 0) hx hb hr rfl (fun t ht hW => ⟨⟨0, (st18, sl19), rfl, ⟨hG, hL, Or.inr (rfl)⟩, mB.of ht hP⟩, hS.F ht⟩) hS.2.2 dX12_readHours_42
  · refine va_calli (va_runV (As := [.int (nI va), .int 0]) (rest := []) ⟨hx, hb, hml, hown, hts⟩ (m_keep0 l dC dI ar cy _ hN st2 sl3 (nI va)  hG.1) (cwV 2 hts gX12_readHours_X12_keep rfl rfl rfl (by decide +kernel) ⟨Nat.le_of_ble_eq_true rfl, Nat.le_of_ble_eq_true rfl⟩) ⟨fun a U g mk q => ⟨q.1, mPre.blind q.2⟩, va_recv hK hP (ci := 11) (q0 := 0) rfl rfl, fun U hU hW => ⟨rfl, mPre.of hP hK hU hW⟩⟩ rfl rfl hl.1 rfl (lv_room (Nat.le_of_ble_eq_true rfl)) dX12_readHours_9 ⟨Nat.le_of_ble_eq_true rfl, Nat.le_of_ble_eq_true rfl⟩) hS (fun q _ h => MA.le hS.1 q h) (MA.le hS.1) (fun r34 x t H locs ht hvm hw hB _ _ hS => ?_)
    have hP := mB.at ht hB
    clear hB ht hvm
    obtain ⟨rfl, hw⟩ := hw
    have hP : va_P (dC, dI) vwCl (mw ar cy st2 sl3) _ := hP
    obtain rfl := hw
    refine lv_if_eq (tgt := 41) hx hb dX12_readHours_12 (by decide) (fun _ => ?_) (fun cc => absurd (by decide) cc)
    refine lv_iconst (v := 0) hx hb dX12_readHours_41 (by decide) ?_
    exact W.zret (v := 0) hx hb hr rfl (fun t ht hW => ⟨⟨0, (st2, sl3), rfl, ⟨hG, hL, Or.inr (rfl)⟩, mB.of ht hP⟩, hS.F ht⟩) hS.2.2 dX12_readHours_42
set_option maxHeartbeats 4000000 in
set_option maxRecDepth 100000 in
theorem m_readDogDoes (l : Launch) (dC : Nat → ClassId) (dI : Nat → Nat → Nat) (ar : Nat → Nat) (cy : Nat → ClassId) (sz : Nat) (hN : MN ar) (st : Nat → Nat → Int32) (sl : Nat → Nat → Int64) (va : Nat) (ga gb : Nat) (hva : va < 196) (hI : MI st) (hT : TS st ga gb) : Met l yX12_readDogDoes wsX12_readDogDoes ({ frames := 3, cells := 0, slots := 0, locals := 69 }) (va_Pc [.ref (ar 0), .int (nI va)] (mPre dC dI ar cy sz st sl)) (va_Qi (fun (r : Int32) (x : MT) => MG [1, 2, 3, 6, 7, 8, 9, 10, 11, 12, 14, 15, 19, 20, 21, 22] st x.1 ∧ LQ [7, 9] sl x.2 ∧ ((∃ g : Nat, r = 1 ∧ TS x.1 g gb ∧ ga ≤ g ∧ (x.1 0 7 = 4 → ga < g) ∧ x.1 14 va = 3 ∧ (∀ j, j < va → x.1 14 j = st 14 j)) ∨ (r = 0))) (mB dC dI ar cy) (MA ar sz)) 0 0 (MA ar sz) := by
  refine Met.ofW (cc := cX12_readDogDoes) (maxL := 2) (ret := (some .boolean)) (by decide) rfl ?_
  intro p e s m args below meth c s₁ B hml hv
  obtain ⟨rfl, hsz, hP, hK⟩ := hv
  have hx := B.exec
  have hb := B.bytes
  have hr := B.returns
  have hts := atoms_spec (ws := wsX12_readDogDoes) B.pre
  have hown : s.vm.findClass RX12 = some m.cls := findClass_of_methodNamed B.named
  subst hsz
  have hS : va_S (MA ar s.heap.size) s.heap s.heap [] := va_S.rf
  have hG : MG [1, 2, 3, 6, 7, 8, 9, 10, 11, 12, 14, 15, 19, 20, 21, 22] st st := MG.rf hI
  have hl := lv_entry ([.ref (ar 0), .int (nI va)]) (n := 2) (Nat.le_of_ble_eq_true rfl)
  rw [lg_entry_eq]
  generalize (lg_sl ([.ref (ar 0), .int (nI va)]) ++ List.replicate (2 - (lg_sl ([.ref (ar 0), .int (nI va)])).length) Slot.unset).toArray = ls at hl ⊢
  have hl : lv_has ls 2 [(0, .ref (ar 0)), (1, .int (nI va))] := hl
  clear hI
  have hL : LQ [7, 9] sl sl := LQ.rf
  have hTc := hT.2.2.1
  have hTd := hT.2.2.2
  have hga : ga ≤ ga := Nat.le_refl ga
  refine lv_aload_n hx hb dX12_readDogDoes_0 rfl (lv_at hl 0 rfl) ?_
  refine lv_bipush (v := 9) hx hb dX12_readDogDoes_1 (by decide) ?_
  refine va_calli (va_runV (As := [.int 9]) (rest := []) ⟨hx, hb, hml, hown, hts⟩ (m_isWord l dC dI ar cy _ hN st sl 9  hG.1) (cwV 1 hts gX12_readDogDoes_X12_isWord rfl rfl rfl (by decide +kernel) ⟨Nat.le_of_ble_eq_true rfl, Nat.le_of_ble_eq_true rfl⟩) ⟨fun a U g mk q => ⟨q.1, mPre.blind q.2⟩, va_recv hK hP (ci := 11) (q0 := 0) rfl rfl, fun U hU hW => ⟨rfl, mPre.of hP hK hU hW⟩⟩ rfl rfl hl.1 rfl (lv_room (Nat.le_of_ble_eq_true rfl)) dX12_readDogDoes_3 ⟨Nat.le_of_ble_eq_true rfl, Nat.le_of_ble_eq_true rfl⟩) hS (fun q _ h => MA.le hS.1 q h) (MA.le hS.1) (fun r1 x t H locs ht hvm hw hB _ _ hS => ?_)
  have hP := mB.at ht hB
  clear hB ht hvm
  obtain ⟨rfl, hw⟩ := hw
  have hP : va_P (dC, dI) vwCl (mw ar cy st sl) _ := hP
  rcases hw with rfl | rfl
  · refine lv_if_ne (tgt := 24) hx hb dX12_readDogDoes_6 (by decide) (fun _ => ?_) (fun cc => absurd cc (by decide))
    refine lv_aload_n hx hb dX12_readDogDoes_24 rfl (lv_at hl 0 rfl) ?_
    refine va_get (D := (dC, dI)) (ci := 11) (v := .ref (ar 14)) (C := RX12) (T := TX12) (N := 47) hx hb hts ii_X12_readDogDoes hown hK hP 0 rfl rfl 38 (by decide) (hts _ mm_X12_readDogDoes_1) (fun _ hh => hh) rfl dX12_readDogDoes_25 ?_
    refine lv_iload_n hx hb dX12_readDogDoes_28 rfl (lv_at hl 1 rfl) ?_
    refine lv_iconst (v := 3) hx hb dX12_readDogDoes_29 (by decide) ?_
    refine va_iast hx hb hK hP (mD hN _ _ _ _) hS 14 13 rfl rfl (i := (nI va)) (vp_in_nI (by omega) (by decide)) dX12_readDogDoes_30 (fun H locs hP _ hS => ?_)
    rw [nI_clamp (by omega)] at hP
    have hP : va_P (dC, dI) vwCl (mw ar cy (up2 st 14 va 3) sl) H := hP
    obtain ⟨st2, est2⟩ : ∃ y, y = up2 st 14 va 3 := ⟨_, rfl⟩
    have hG : MG [1, 2, 3, 6, 7, 8, 9, 10, 11, 12, 14, 15, 19, 20, 21, 22] st st2 := by rw [est2]; exact hG.up (rz (mr_14_0_196 va (by omega) (by omega))) (pn (pcl_14_0_196 va (by omega) (by omega)) (by decide))
    rw [← est2] at hP
    refine lv_aload_n hx hb dX12_readDogDoes_31 rfl (lv_at hl 0 rfl) ?_
    refine va_get (D := (dC, dI)) (ci := 11) (v := .ref (ar 14)) (C := RX12) (T := TX12) (N := 47) hx hb hts ii_X12_readDogDoes hown hK hP 0 rfl rfl 38 (by decide) (hts _ mm_X12_readDogDoes_1) (fun _ hh => hh) rfl dX12_readDogDoes_32 ?_
    refine lv_iload_n hx hb dX12_readDogDoes_35 rfl (lv_at hl 1 rfl) ?_
    refine lv_iconst (v := 2) hx hb dX12_readDogDoes_36 (by decide) ?_
    refine lv_iadd hx hb dX12_readDogDoes_37 ?_
    refine zz_top (v := nI (va + 2)) (nI_add va 2) ?_
    refine lv_aload_n hx hb dX12_readDogDoes_38 rfl (lv_at hl 0 rfl) ?_
    refine lv_bipush (v := 9) hx hb dX12_readDogDoes_39 (by decide) ?_
    refine va_calli (va_runV (As := [.int 9]) (rest := [.int (nI (va + 2)), .ref (ar 14)]) ⟨hx, hb, hml, hown, hts⟩ (m_isWord l dC dI ar cy _ hN st2 sl 9  hG.1) (cwV 1 hts gX12_readDogDoes_X12_isWord rfl rfl rfl (by decide +kernel) ⟨Nat.le_of_ble_eq_true rfl, Nat.le_of_ble_eq_true rfl⟩) ⟨fun a U g mk q => ⟨q.1, mPre.blind q.2⟩, va_recv hK hP (ci := 11) (q0 := 0) rfl rfl, fun U hU hW => ⟨rfl, mPre.of hP hK hU hW⟩⟩ rfl rfl hl.1 rfl (lv_room (Nat.le_of_ble_eq_true rfl)) dX12_readDogDoes_41 ⟨Nat.le_of_ble_eq_true rfl, Nat.le_of_ble_eq_true rfl⟩) hS (fun q _ h => MA.le hS.1 q h) (MA.le hS.1) (fun r3 x t H locs ht hvm hw hB _ _ hS => ?_)
    have hP := mB.at ht hB
    clear hB ht hvm
    obtain ⟨rfl, hw⟩ := hw
    have hP : va_P (dC, dI) vwCl (mw ar cy st2 sl) _ := hP
    rcases hw with rfl | rfl
    · refine lv_if_eq (tgt := 51) hx hb dX12_readDogDoes_44 (by decide) (fun cc => absurd cc (by decide)) (fun _ => ?_)
      refine lv_iconst (v := 1) hx hb dX12_readDogDoes_47 (by decide) ?_
      refine lv_goto (tgt := 52) hx hb dX12_readDogDoes_48 (by decide) ?_
      refine va_iast hx hb hK hP (mD hN _ _ _ _) hS 14 13 rfl rfl (i := (nI (va + 2))) (vp_in_nI (by omega) (by decide)) dX12_readDogDoes_52 (fun H locs hP _ hS => ?_)
      rw [nI_clamp (by omega)] at hP
      have hP : va_P (dC, dI) vwCl (mw ar cy (up2 st2 14 (va + 2) 1) sl) H := hP
      obtain ⟨st4, est4⟩ : ∃ y, y = up2 st2 14 (va + 2) 1 := ⟨_, rfl⟩
      have hG : MG [1, 2, 3, 6, 7, 8, 9, 10, 11, 12, 14, 15, 19, 20, 21, 22] st st4 := by rw [est4]; exact hG.up (rz (mr_14_2_198 (va + 2) (by omega) (by omega))) (pn (pcl_14_2_198 (va + 2) (by omega) (by omega)) (by decide))
      rw [← est4] at hP
      refine lv_aload_n hx hb dX12_readDogDoes_53 rfl (lv_at hl 0 rfl) ?_
      refine va_callv (va_runV (As := []) (rest := []) ⟨hx, hb, hml, hown, hts⟩ (m_go l dC dI ar cy _ hN st4 sl ga gb  hG.1 ((⟨by rw [est4, up2_ne (r := 14) (k := (va + 2)) (a := 0) (j := 5) _ _ (by omega), est2, up2_ne (r := 14) (k := va) (a := 0) (j := 5) _ _ (by omega), hT.1], by rw [est4, up2_ne (r := 14) (k := (va + 2)) (a := 0) (j := 3) _ _ (by omega), est2, up2_ne (r := 14) (k := va) (a := 0) (j := 3) _ _ (by omega), hT.2.1], by omega, by omega⟩ : TS st4 ga gb))) (cwV 0 hts gX12_readDogDoes_X12_go rfl rfl rfl (by decide +kernel) ⟨Nat.le_of_ble_eq_true rfl, Nat.le_of_ble_eq_true rfl⟩) ⟨fun a U g mk q => ⟨q.1, mPre.blind q.2⟩, va_recv hK hP (ci := 11) (q0 := 0) rfl rfl, fun U hU hW => ⟨rfl, mPre.of hP hK hU hW⟩⟩ rfl rfl hl.1 rfl (lv_room (Nat.le_of_ble_eq_true rfl)) dX12_readDogDoes_54 ⟨Nat.le_of_ble_eq_true rfl, Nat.le_of_ble_eq_true rfl⟩) hS (fun q _ h => MA.le hS.1 q h) (MA.le hS.1) (fun x t H locs ht hvm hw hB _ _ hS => ?_)
      have hP := mB.at ht hB
      clear hB ht hvm
      obtain ⟨st6, sl7⟩ := x
      obtain ⟨hG2, hL2, hw⟩ := hw
      have hL : LQ [7, 9] sl sl7 := hL.tr hL2 (by decide)
      clear hL2
      dsimp only at hw
      have hP : va_P (dC, dI) vwCl (mw ar cy st6 sl7) _ := hP
      have hG : MG [1, 2, 3, 6, 7, 8, 9, 10, 11, 12, 14, 15, 19, 20, 21, 22] st st6 := hG.tr hG2 (by decide)
      have hGst6 : MG [1, 2, 3, 6, 7, 8, 9, 10, 11, 12, 13, 14, 15, 16, 19, 20, 21, 22, 23] st4 st6 := hG2
      clear hG2
      obtain ⟨n8, hf9, hf10, hf11⟩ := hw
      have hf9c := hf9.2.2.1
      have hf9d := hf9.2.2.2
      refine lv_iconst (v := 1) hx hb dX12_readDogDoes_57 (by decide) ?_
      exact W.zret (v := 1) hx hb hr rfl (fun t ht hW => ⟨⟨1, (st6, sl7), rfl, ⟨hG, hL, Or.inl (⟨n8, rfl, (show TS st6 n8 gb from ⟨by rw [hf9.1], by rw [hf9.2.1], by omega, by omega⟩), by omega, fun (hh : st6 0 7 = 4) => by have hk := hf11 (by exact hh); omega, by show st6 14 va = 3; rw [hGst6.2 14 va (show (13 : Nat) ∈ _ by decide), est4, up2_ne (r := 14) (k := (va + 2)) (a := 14) (j := va) _ _ (by omega), est2, up2_same], fun jj hk => by show st6 14 jj = st 14 jj; rw [hGst6.2 14 jj (show (13 : Nat) ∈ _ by decide), est4, up2_ne (r := 14) (k := (va + 2)) (a := 14) (j := jj) _ _ (by omega), est2, up2_ne (r := 14) (k := va) (a := 14) (j := jj) _ _ (by omega)]⟩)⟩, mB.of ht hP⟩, hS.F ht⟩) hS.2.2 dX12_readDogDoes_58
    · refine lv_if_eq (tgt := 51) hx hb dX12_readDogDoes_44 (by decide) (fun _ => ?_) (fun cc => absurd (by decide) cc)
      refine lv_iconst (v := 0) hx hb dX12_readDogDoes_51 (by decide) ?_
      refine va_iast hx hb hK hP (mD hN _ _ _ _) hS 14 13 rfl rfl (i := (nI (va + 2))) (vp_in_nI (by omega) (by decide)) dX12_readDogDoes_52 (fun H locs hP _ hS => ?_)
      rw [nI_clamp (by omega)] at hP
      have hP : va_P (dC, dI) vwCl (mw ar cy (up2 st2 14 (va + 2) 0) sl) H := hP
      obtain ⟨st12, est12⟩ : ∃ y, y = up2 st2 14 (va + 2) 0 := ⟨_, rfl⟩
      have hG : MG [1, 2, 3, 6, 7, 8, 9, 10, 11, 12, 14, 15, 19, 20, 21, 22] st st12 := by rw [est12]; exact hG.up (rz (mr_14_2_198 (va + 2) (by omega) (by omega))) (pn (pcl_14_2_198 (va + 2) (by omega) (by omega)) (by decide))
      rw [← est12] at hP
      refine lv_aload_n hx hb dX12_readDogDoes_53 rfl (lv_at hl 0 rfl) ?_
      refine va_callv (va_runV (As := []) (rest := []) ⟨hx, hb, hml, hown, hts⟩ (m_go l dC dI ar cy _ hN st12 sl ga gb  hG.1 ((⟨by rw [est12, up2_ne (r := 14) (k := (va + 2)) (a := 0) (j := 5) _ _ (by omega), est2, up2_ne (r := 14) (k := va) (a := 0) (j := 5) _ _ (by omega), hT.1], by rw [est12, up2_ne (r := 14) (k := (va + 2)) (a := 0) (j := 3) _ _ (by omega), est2, up2_ne (r := 14) (k := va) (a := 0) (j := 3) _ _ (by omega), hT.2.1], by omega, by omega⟩ : TS st12 ga gb))) (cwV 0 hts gX12_readDogDoes_X12_go rfl rfl rfl (by decide +kernel) ⟨Nat.le_of_ble_eq_true rfl, Nat.le_of_ble_eq_true rfl⟩) ⟨fun a U g mk q => ⟨q.1, mPre.blind q.2⟩, va_recv hK hP (ci := 11) (q0 := 0) rfl rfl, fun U hU hW => ⟨rfl, mPre.of hP hK hU hW⟩⟩ rfl rfl hl.1 rfl (lv_room (Nat.le_of_ble_eq_true rfl)) dX12_readDogDoes_54 ⟨Nat.le_of_ble_eq_true rfl, Nat.le_of_ble_eq_true rfl⟩) hS (fun q _ h => MA.le hS.1 q h) (MA.le hS.1) (fun x t H locs ht hvm hw hB _ _ hS => ?_)
      have hP := mB.at ht hB
      clear hB ht hvm
      obtain ⟨st14, sl15⟩ := x
      obtain ⟨hG2, hL2, hw⟩ := hw
      have hL : LQ [7, 9] sl sl15 := hL.tr hL2 (by decide)
      clear hL2
      dsimp only at hw
      have hP : va_P (dC, dI) vwCl (mw ar cy st14 sl15) _ := hP
      have hG : MG [1, 2, 3, 6, 7, 8, 9, 10, 11, 12, 14, 15, 19, 20, 21, 22] st st14 := hG.tr hG2 (by decide)
      have hGst14 : MG [1, 2, 3, 6, 7, 8, 9, 10, 11, 12, 13, 14, 15, 16, 19, 20, 21, 22, 23] st12 st14 := hG2
      clear hG2
      obtain ⟨n16, hf17, hf18, hf19⟩ := hw
      have hf17c := hf17.2.2.1
      have hf17d := hf17.2.2.2
      refine lv_iconst (v := 1) hx hb dX12_readDogDoes_57 (by decide) ?_
      exact W.zret (v := 1) hx hb hr rfl (fun t ht hW => ⟨⟨1, (st14, sl15), rfl, ⟨hG, hL, Or.inl (⟨n16, rfl, (show TS st14 n16 gb from ⟨by rw [hf17.1], by rw [hf17.2.1], by omega, by omega⟩), by omega, fun (hh : st14 0 7 = 4) => by have hk := hf19 (by exact hh); omega, by show st14 14 va = 3; rw [hGst14.2 14 va (show (13 : Nat) ∈ _ by decide), est12, up2_ne (r := 14) (k := (va + 2)) (a := 14) (j := va) _ _ (by omega), est2, up2_same], fun jj hk => by show st14 14 jj = st 14 jj; rw [hGst14.2 14 jj (show (13 : Nat) ∈ _ by decide), est12, up2_ne (r := 14) (k := (va + 2)) (a := 14) (j := jj) _ _ (by omega), est2, up2_ne (r := 14) (k := va) (a := 14) (j := jj) _ _ (by omega)]⟩)⟩, mB.of ht hP⟩, hS.F ht⟩) hS.2.2 dX12_readDogDoes_58
  · refine lv_if_ne (tgt := 24) hx hb dX12_readDogDoes_6 (by decide) (fun cc => absurd (by decide) cc) (fun _ => ?_)
    refine lv_aload_n hx hb dX12_readDogDoes_9 rfl (lv_at hl 0 rfl) ?_
    refine lv_bipush (v := 10) hx hb dX12_readDogDoes_10 (by decide) ?_
    refine va_calli (va_runV (As := [.int 10]) (rest := []) ⟨hx, hb, hml, hown, hts⟩ (m_isWord l dC dI ar cy _ hN st sl 10  hG.1) (cwV 1 hts gX12_readDogDoes_X12_isWord rfl rfl rfl (by decide +kernel) ⟨Nat.le_of_ble_eq_true rfl, Nat.le_of_ble_eq_true rfl⟩) ⟨fun a U g mk q => ⟨q.1, mPre.blind q.2⟩, va_recv hK hP (ci := 11) (q0 := 0) rfl rfl, fun U hU hW => ⟨rfl, mPre.of hP hK hU hW⟩⟩ rfl rfl hl.1 rfl (lv_room (Nat.le_of_ble_eq_true rfl)) dX12_readDogDoes_12 ⟨Nat.le_of_ble_eq_true rfl, Nat.le_of_ble_eq_true rfl⟩) hS (fun q _ h => MA.le hS.1 q h) (MA.le hS.1) (fun r20 x t H locs ht hvm hw hB _ _ hS => ?_)
    have hP := mB.at ht hB
    clear hB ht hvm
    obtain ⟨rfl, hw⟩ := hw
    have hP : va_P (dC, dI) vwCl (mw ar cy st sl) _ := hP
    rcases hw with rfl | rfl
    · refine lv_if_ne (tgt := 24) hx hb dX12_readDogDoes_15 (by decide) (fun _ => ?_) (fun cc => absurd cc (by decide))
      refine lv_aload_n hx hb dX12_readDogDoes_24 rfl (lv_at hl 0 rfl) ?_
      refine va_get (D := (dC, dI)) (ci := 11) (v := .ref (ar 14)) (C := RX12) (T := TX12) (N := 47) hx hb hts ii_X12_readDogDoes hown hK hP 0 rfl rfl 38 (by decide) (hts _ mm_X12_readDogDoes_1) (fun _ hh => hh) rfl dX12_readDogDoes_25 ?_
      refine lv_iload_n hx hb dX12_readDogDoes_28 rfl (lv_at hl 1 rfl) ?_
      refine lv_iconst (v := 3) hx hb dX12_readDogDoes_29 (by decide) ?_
      refine va_iast hx hb hK hP (mD hN _ _ _ _) hS 14 13 rfl rfl (i := (nI va)) (vp_in_nI (by omega) (by decide)) dX12_readDogDoes_30 (fun H locs hP _ hS => ?_)
      rw [nI_clamp (by omega)] at hP
      have hP : va_P (dC, dI) vwCl (mw ar cy (up2 st 14 va 3) sl) H := hP
      obtain ⟨st21, est21⟩ : ∃ y, y = up2 st 14 va 3 := ⟨_, rfl⟩
      have hG : MG [1, 2, 3, 6, 7, 8, 9, 10, 11, 12, 14, 15, 19, 20, 21, 22] st st21 := by rw [est21]; exact hG.up (rz (mr_14_0_196 va (by omega) (by omega))) (pn (pcl_14_0_196 va (by omega) (by omega)) (by decide))
      rw [← est21] at hP
      refine lv_aload_n hx hb dX12_readDogDoes_31 rfl (lv_at hl 0 rfl) ?_
      refine va_get (D := (dC, dI)) (ci := 11) (v := .ref (ar 14)) (C := RX12) (T := TX12) (N := 47) hx hb hts ii_X12_readDogDoes hown hK hP 0 rfl rfl 38 (by decide) (hts _ mm_X12_readDogDoes_1) (fun _ hh => hh) rfl dX12_readDogDoes_32 ?_
      refine lv_iload_n hx hb dX12_readDogDoes_35 rfl (lv_at hl 1 rfl) ?_
      refine lv_iconst (v := 2) hx hb dX12_readDogDoes_36 (by decide) ?_
      refine lv_iadd hx hb dX12_readDogDoes_37 ?_
      refine zz_top (v := nI (va + 2)) (nI_add va 2) ?_
      refine lv_aload_n hx hb dX12_readDogDoes_38 rfl (lv_at hl 0 rfl) ?_
      refine lv_bipush (v := 9) hx hb dX12_readDogDoes_39 (by decide) ?_
      refine va_calli (va_runV (As := [.int 9]) (rest := [.int (nI (va + 2)), .ref (ar 14)]) ⟨hx, hb, hml, hown, hts⟩ (m_isWord l dC dI ar cy _ hN st21 sl 9  hG.1) (cwV 1 hts gX12_readDogDoes_X12_isWord rfl rfl rfl (by decide +kernel) ⟨Nat.le_of_ble_eq_true rfl, Nat.le_of_ble_eq_true rfl⟩) ⟨fun a U g mk q => ⟨q.1, mPre.blind q.2⟩, va_recv hK hP (ci := 11) (q0 := 0) rfl rfl, fun U hU hW => ⟨rfl, mPre.of hP hK hU hW⟩⟩ rfl rfl hl.1 rfl (lv_room (Nat.le_of_ble_eq_true rfl)) dX12_readDogDoes_41 ⟨Nat.le_of_ble_eq_true rfl, Nat.le_of_ble_eq_true rfl⟩) hS (fun q _ h => MA.le hS.1 q h) (MA.le hS.1) (fun r22 x t H locs ht hvm hw hB _ _ hS => ?_)
      have hP := mB.at ht hB
      clear hB ht hvm
      obtain ⟨rfl, hw⟩ := hw
      have hP : va_P (dC, dI) vwCl (mw ar cy st21 sl) _ := hP
      rcases hw with rfl | rfl
      · refine lv_if_eq (tgt := 51) hx hb dX12_readDogDoes_44 (by decide) (fun cc => absurd cc (by decide)) (fun _ => ?_)
        refine lv_iconst (v := 1) hx hb dX12_readDogDoes_47 (by decide) ?_
        refine lv_goto (tgt := 52) hx hb dX12_readDogDoes_48 (by decide) ?_
        refine va_iast hx hb hK hP (mD hN _ _ _ _) hS 14 13 rfl rfl (i := (nI (va + 2))) (vp_in_nI (by omega) (by decide)) dX12_readDogDoes_52 (fun H locs hP _ hS => ?_)
        rw [nI_clamp (by omega)] at hP
        have hP : va_P (dC, dI) vwCl (mw ar cy (up2 st21 14 (va + 2) 1) sl) H := hP
        obtain ⟨st23, est23⟩ : ∃ y, y = up2 st21 14 (va + 2) 1 := ⟨_, rfl⟩
        have hG : MG [1, 2, 3, 6, 7, 8, 9, 10, 11, 12, 14, 15, 19, 20, 21, 22] st st23 := by rw [est23]; exact hG.up (rz (mr_14_2_198 (va + 2) (by omega) (by omega))) (pn (pcl_14_2_198 (va + 2) (by omega) (by omega)) (by decide))
        rw [← est23] at hP
        refine lv_aload_n hx hb dX12_readDogDoes_53 rfl (lv_at hl 0 rfl) ?_
        refine va_callv (va_runV (As := []) (rest := []) ⟨hx, hb, hml, hown, hts⟩ (m_go l dC dI ar cy _ hN st23 sl ga gb  hG.1 ((⟨by rw [est23, up2_ne (r := 14) (k := (va + 2)) (a := 0) (j := 5) _ _ (by omega), est21, up2_ne (r := 14) (k := va) (a := 0) (j := 5) _ _ (by omega), hT.1], by rw [est23, up2_ne (r := 14) (k := (va + 2)) (a := 0) (j := 3) _ _ (by omega), est21, up2_ne (r := 14) (k := va) (a := 0) (j := 3) _ _ (by omega), hT.2.1], by omega, by omega⟩ : TS st23 ga gb))) (cwV 0 hts gX12_readDogDoes_X12_go rfl rfl rfl (by decide +kernel) ⟨Nat.le_of_ble_eq_true rfl, Nat.le_of_ble_eq_true rfl⟩) ⟨fun a U g mk q => ⟨q.1, mPre.blind q.2⟩, va_recv hK hP (ci := 11) (q0 := 0) rfl rfl, fun U hU hW => ⟨rfl, mPre.of hP hK hU hW⟩⟩ rfl rfl hl.1 rfl (lv_room (Nat.le_of_ble_eq_true rfl)) dX12_readDogDoes_54 ⟨Nat.le_of_ble_eq_true rfl, Nat.le_of_ble_eq_true rfl⟩) hS (fun q _ h => MA.le hS.1 q h) (MA.le hS.1) (fun x t H locs ht hvm hw hB _ _ hS => ?_)
        have hP := mB.at ht hB
        clear hB ht hvm
        obtain ⟨st25, sl26⟩ := x
        obtain ⟨hG2, hL2, hw⟩ := hw
        have hL : LQ [7, 9] sl sl26 := hL.tr hL2 (by decide)
        clear hL2
        dsimp only at hw
        have hP : va_P (dC, dI) vwCl (mw ar cy st25 sl26) _ := hP
        have hG : MG [1, 2, 3, 6, 7, 8, 9, 10, 11, 12, 14, 15, 19, 20, 21, 22] st st25 := hG.tr hG2 (by decide)
        have hGst25 : MG [1, 2, 3, 6, 7, 8, 9, 10, 11, 12, 13, 14, 15, 16, 19, 20, 21, 22, 23] st23 st25 := hG2
        clear hG2
        obtain ⟨n27, hf28, hf29, hf30⟩ := hw
        have hf28c := hf28.2.2.1
        have hf28d := hf28.2.2.2
        refine lv_iconst (v := 1) hx hb dX12_readDogDoes_57 (by decide) ?_
        exact W.zret (v := 1) hx hb hr rfl (fun t ht hW => ⟨⟨1, (st25, sl26), rfl, ⟨hG, hL, Or.inl (⟨n27, rfl, (show TS st25 n27 gb from ⟨by rw [hf28.1], by rw [hf28.2.1], by omega, by omega⟩), by omega, fun (hh : st25 0 7 = 4) => by have hk := hf30 (by exact hh); omega, by show st25 14 va = 3; rw [hGst25.2 14 va (show (13 : Nat) ∈ _ by decide), est23, up2_ne (r := 14) (k := (va + 2)) (a := 14) (j := va) _ _ (by omega), est21, up2_same], fun jj hk => by show st25 14 jj = st 14 jj; rw [hGst25.2 14 jj (show (13 : Nat) ∈ _ by decide), est23, up2_ne (r := 14) (k := (va + 2)) (a := 14) (j := jj) _ _ (by omega), est21, up2_ne (r := 14) (k := va) (a := 14) (j := jj) _ _ (by omega)]⟩)⟩, mB.of ht hP⟩, hS.F ht⟩) hS.2.2 dX12_readDogDoes_58
      · refine lv_if_eq (tgt := 51) hx hb dX12_readDogDoes_44 (by decide) (fun _ => ?_) (fun cc => absurd (by decide) cc)
        refine lv_iconst (v := 0) hx hb dX12_readDogDoes_51 (by decide) ?_
        refine va_iast hx hb hK hP (mD hN _ _ _ _) hS 14 13 rfl rfl (i := (nI (va + 2))) (vp_in_nI (by omega) (by decide)) dX12_readDogDoes_52 (fun H locs hP _ hS => ?_)
        rw [nI_clamp (by omega)] at hP
        have hP : va_P (dC, dI) vwCl (mw ar cy (up2 st21 14 (va + 2) 0) sl) H := hP
        obtain ⟨st31, est31⟩ : ∃ y, y = up2 st21 14 (va + 2) 0 := ⟨_, rfl⟩
        have hG : MG [1, 2, 3, 6, 7, 8, 9, 10, 11, 12, 14, 15, 19, 20, 21, 22] st st31 := by rw [est31]; exact hG.up (rz (mr_14_2_198 (va + 2) (by omega) (by omega))) (pn (pcl_14_2_198 (va + 2) (by omega) (by omega)) (by decide))
        rw [← est31] at hP
        refine lv_aload_n hx hb dX12_readDogDoes_53 rfl (lv_at hl 0 rfl) ?_
        refine va_callv (va_runV (As := []) (rest := []) ⟨hx, hb, hml, hown, hts⟩ (m_go l dC dI ar cy _ hN st31 sl ga gb  hG.1 ((⟨by rw [est31, up2_ne (r := 14) (k := (va + 2)) (a := 0) (j := 5) _ _ (by omega), est21, up2_ne (r := 14) (k := va) (a := 0) (j := 5) _ _ (by omega), hT.1], by rw [est31, up2_ne (r := 14) (k := (va + 2)) (a := 0) (j := 3) _ _ (by omega), est21, up2_ne (r := 14) (k := va) (a := 0) (j := 3) _ _ (by omega), hT.2.1], by omega, by omega⟩ : TS st31 ga gb))) (cwV 0 hts gX12_readDogDoes_X12_go rfl rfl rfl (by decide +kernel) ⟨Nat.le_of_ble_eq_true rfl, Nat.le_of_ble_eq_true rfl⟩) ⟨fun a U g mk q => ⟨q.1, mPre.blind q.2⟩, va_recv hK hP (ci := 11) (q0 := 0) rfl rfl, fun U hU hW => ⟨rfl, mPre.of hP hK hU hW⟩⟩ rfl rfl hl.1 rfl (lv_room (Nat.le_of_ble_eq_true rfl)) dX12_readDogDoes_54 ⟨Nat.le_of_ble_eq_true rfl, Nat.le_of_ble_eq_true rfl⟩) hS (fun q _ h => MA.le hS.1 q h) (MA.le hS.1) (fun x t H locs ht hvm hw hB _ _ hS => ?_)
        have hP := mB.at ht hB
        clear hB ht hvm
        obtain ⟨st33, sl34⟩ := x
        obtain ⟨hG2, hL2, hw⟩ := hw
        have hL : LQ [7, 9] sl sl34 := hL.tr hL2 (by decide)
        clear hL2
        dsimp only at hw
        have hP : va_P (dC, dI) vwCl (mw ar cy st33 sl34) _ := hP
        have hG : MG [1, 2, 3, 6, 7, 8, 9, 10, 11, 12, 14, 15, 19, 20, 21, 22] st st33 := hG.tr hG2 (by decide)
        have hGst33 : MG [1, 2, 3, 6, 7, 8, 9, 10, 11, 12, 13, 14, 15, 16, 19, 20, 21, 22, 23] st31 st33 := hG2
        clear hG2
        obtain ⟨n35, hf36, hf37, hf38⟩ := hw
        have hf36c := hf36.2.2.1
        have hf36d := hf36.2.2.2
        refine lv_iconst (v := 1) hx hb dX12_readDogDoes_57 (by decide) ?_
        exact W.zret (v := 1) hx hb hr rfl (fun t ht hW => ⟨⟨1, (st33, sl34), rfl, ⟨hG, hL, Or.inl (⟨n35, rfl, (show TS st33 n35 gb from ⟨by rw [hf36.1], by rw [hf36.2.1], by omega, by omega⟩), by omega, fun (hh : st33 0 7 = 4) => by have hk := hf38 (by exact hh); omega, by show st33 14 va = 3; rw [hGst33.2 14 va (show (13 : Nat) ∈ _ by decide), est31, up2_ne (r := 14) (k := (va + 2)) (a := 14) (j := va) _ _ (by omega), est21, up2_same], fun jj hk => by show st33 14 jj = st 14 jj; rw [hGst33.2 14 jj (show (13 : Nat) ∈ _ by decide), est31, up2_ne (r := 14) (k := (va + 2)) (a := 14) (j := jj) _ _ (by omega), est21, up2_ne (r := 14) (k := va) (a := 14) (j := jj) _ _ (by omega)]⟩)⟩, mB.of ht hP⟩, hS.F ht⟩) hS.2.2 dX12_readDogDoes_58
    · refine lv_if_ne (tgt := 24) hx hb dX12_readDogDoes_15 (by decide) (fun cc => absurd (by decide) cc) (fun _ => ?_)
      refine lv_aload_n hx hb dX12_readDogDoes_18 rfl (lv_at hl 0 rfl) ?_
      refine lv_iconst (v := 1) hx hb dX12_readDogDoes_19 (by decide) ?_
      refine va_calli (va_runV (As := [.int 1]) (rest := []) ⟨hx, hb, hml, hown, hts⟩ (m_bad l dC dI ar cy _ hN st sl 1  hG.1) (cwV 1 hts gX12_readDogDoes_X12_bad rfl rfl rfl (by decide +kernel) ⟨Nat.le_of_ble_eq_true rfl, Nat.le_of_ble_eq_true rfl⟩) ⟨fun a U g mk q => ⟨q.1, mPre.blind q.2⟩, va_recv hK hP (ci := 11) (q0 := 0) rfl rfl, fun U hU hW => ⟨rfl, mPre.of hP hK hU hW⟩⟩ rfl rfl hl.1 rfl (lv_room (Nat.le_of_ble_eq_true rfl)) dX12_readDogDoes_20 ⟨Nat.le_of_ble_eq_true rfl, Nat.le_of_ble_eq_true rfl⟩) hS (fun q _ h => MA.le hS.1 q h) (MA.le hS.1) (fun r39 x t H locs ht hvm hw hB _ _ hS => ?_)
      have hP := mB.at ht hB
      clear hB ht hvm
      obtain ⟨st40, sl41⟩ := x
      obtain ⟨hG2, hL2, hw⟩ := hw
      have hL : LQ [7, 9] sl sl41 := hL.tr hL2 (by decide)
      clear hL2
      have hP : va_P (dC, dI) vwCl (mw ar cy st40 sl41) _ := hP
      have hG : MG [1, 2, 3, 6, 7, 8, 9, 10, 11, 12, 14, 15, 19, 20, 21, 22] st st40 := hG.tr hG2 (by decide)
      have hGst40 : MG [1, 2, 3, 4, 5, 6, 7, 8, 9, 10, 11, 12, 13, 14, 15, 16, 17, 19, 20, 21, 22] st st40 := hG2
      clear hG2
      obtain rfl := hw
      exact W.zret (v := 0) hx hb hr rfl (fun t ht hW => ⟨⟨0, (st40, sl41), rfl, ⟨hG, hL, Or.inr (rfl)⟩, mB.of ht hP⟩, hS.F ht⟩) hS.2.2 dX12_readDogDoes_23
set_option maxHeartbeats 4000000 in
set_option maxRecDepth 100000 in
theorem m_readPersonDoes (l : Launch) (dC : Nat → ClassId) (dI : Nat → Nat → Nat) (ar : Nat → Nat) (cy : Nat → ClassId) (sz : Nat) (hN : MN ar) (st : Nat → Nat → Int32) (sl : Nat → Nat → Int64) (va : Nat) (ga gb : Nat) (hva : va < 196) (hI : MI st) (hT : TS st ga gb) : Met l yX12_readPersonDoes wsX12_readPersonDoes ({ frames := 5, cells := 0, slots := 0, locals := 111 }) (va_Pc [.ref (ar 0), .int (nI va)] (mPre dC dI ar cy sz st sl)) (va_Qi (fun (r : Int32) (x : MT) => MG [1, 2, 3, 6, 7, 8, 9, 10, 11, 12, 14, 15, 19, 20, 21, 22] st x.1 ∧ LQ [7, 9] sl x.2 ∧ ((∃ g : Nat, ∃ n : Nat, r = 1 ∧ TS x.1 g gb ∧ ga ≤ g ∧ (x.1 0 7 = 4 → ga < g) ∧ x.1 14 va = 4 ∧ x.1 14 (va + 1) = st 14 (va + 1) ∧ x.1 14 (va + 2) = nI n ∧ n < 5 ∧ (∀ j, j < va → x.1 14 j = st 14 j)) ∨ (r = 0))) (mB dC dI ar cy) (MA ar sz)) 0 0 (MA ar sz) := by
  refine Met.ofW (cc := cX12_readPersonDoes) (maxL := 2) (ret := (some .boolean)) (by decide) rfl ?_
  intro p e s m args below meth c s₁ B hml hv
  obtain ⟨rfl, hsz, hP, hK⟩ := hv
  have hx := B.exec
  have hb := B.bytes
  have hr := B.returns
  have hts := atoms_spec (ws := wsX12_readPersonDoes) B.pre
  have hown : s.vm.findClass RX12 = some m.cls := findClass_of_methodNamed B.named
  subst hsz
  have hS : va_S (MA ar s.heap.size) s.heap s.heap [] := va_S.rf
  have hG : MG [1, 2, 3, 6, 7, 8, 9, 10, 11, 12, 14, 15, 19, 20, 21, 22] st st := MG.rf hI
  have hl := lv_entry ([.ref (ar 0), .int (nI va)]) (n := 2) (Nat.le_of_ble_eq_true rfl)
  rw [lg_entry_eq]
  generalize (lg_sl ([.ref (ar 0), .int (nI va)]) ++ List.replicate (2 - (lg_sl ([.ref (ar 0), .int (nI va)])).length) Slot.unset).toArray = ls at hl ⊢
  have hl : lv_has ls 2 [(0, .ref (ar 0)), (1, .int (nI va))] := hl
  clear hI
  have hL : LQ [7, 9] sl sl := LQ.rf
  have hTc := hT.2.2.1
  have hTd := hT.2.2.2
  have hga : ga ≤ ga := Nat.le_refl ga
  refine lv_aload_n hx hb dX12_readPersonDoes_0 rfl (lv_at hl 0 rfl) ?_
  refine lv_bipush (v := 11) hx hb dX12_readPersonDoes_1 (by decide) ?_
  refine va_calli (va_runV (As := [.int 11]) (rest := []) ⟨hx, hb, hml, hown, hts⟩ (m_isWord l dC dI ar cy _ hN st sl 11  hG.1) (cwV 1 hts gX12_readPersonDoes_X12_isWord rfl rfl rfl (by decide +kernel) ⟨Nat.le_of_ble_eq_true rfl, Nat.le_of_ble_eq_true rfl⟩) ⟨fun a U g mk q => ⟨q.1, mPre.blind q.2⟩, va_recv hK hP (ci := 11) (q0 := 0) rfl rfl, fun U hU hW => ⟨rfl, mPre.of hP hK hU hW⟩⟩ rfl rfl hl.1 rfl (lv_room (Nat.le_of_ble_eq_true rfl)) dX12_readPersonDoes_3 ⟨Nat.le_of_ble_eq_true rfl, Nat.le_of_ble_eq_true rfl⟩) hS (fun q _ h => MA.le hS.1 q h) (MA.le hS.1) (fun r1 x t H locs ht hvm hw hB _ _ hS => ?_)
  have hP := mB.at ht hB
  clear hB ht hvm
  obtain ⟨rfl, hw⟩ := hw
  have hP : va_P (dC, dI) vwCl (mw ar cy st sl) _ := hP
  rcases hw with rfl | rfl
  · refine lv_if_ne (tgt := 15) hx hb dX12_readPersonDoes_6 (by decide) (fun _ => ?_) (fun cc => absurd cc (by decide))
    refine lv_aload_n hx hb dX12_readPersonDoes_15 rfl (lv_at hl 0 rfl) ?_
    refine va_get (D := (dC, dI)) (ci := 11) (v := .ref (ar 14)) (C := RX12) (T := TX12) (N := 47) hx hb hts ii_X12_readPersonDoes hown hK hP 0 rfl rfl 38 (by decide) (hts _ mm_X12_readPersonDoes_1) (fun _ hh => hh) rfl dX12_readPersonDoes_16 ?_
    refine lv_iload_n hx hb dX12_readPersonDoes_19 rfl (lv_at hl 1 rfl) ?_
    refine lv_iconst (v := 4) hx hb dX12_readPersonDoes_20 (by decide) ?_
    refine va_iast hx hb hK hP (mD hN _ _ _ _) hS 14 13 rfl rfl (i := (nI va)) (vp_in_nI (by omega) (by decide)) dX12_readPersonDoes_21 (fun H locs hP _ hS => ?_)
    rw [nI_clamp (by omega)] at hP
    have hP : va_P (dC, dI) vwCl (mw ar cy (up2 st 14 va 4) sl) H := hP
    obtain ⟨st2, est2⟩ : ∃ y, y = up2 st 14 va 4 := ⟨_, rfl⟩
    have hG : MG [1, 2, 3, 6, 7, 8, 9, 10, 11, 12, 14, 15, 19, 20, 21, 22] st st2 := by rw [est2]; exact hG.up (rz (mr_14_0_196 va (by omega) (by omega))) (pn (pcl_14_0_196 va (by omega) (by omega)) (by decide))
    rw [← est2] at hP
    refine lv_aload_n hx hb dX12_readPersonDoes_22 rfl (lv_at hl 0 rfl) ?_
    refine va_callv (va_runV (As := []) (rest := []) ⟨hx, hb, hml, hown, hts⟩ (m_go l dC dI ar cy _ hN st2 sl ga gb  hG.1 ((⟨by rw [est2, up2_ne (r := 14) (k := va) (a := 0) (j := 5) _ _ (by omega), hT.1], by rw [est2, up2_ne (r := 14) (k := va) (a := 0) (j := 3) _ _ (by omega), hT.2.1], by omega, by omega⟩ : TS st2 ga gb))) (cwV 0 hts gX12_readPersonDoes_X12_go rfl rfl rfl (by decide +kernel) ⟨Nat.le_of_ble_eq_true rfl, Nat.le_of_ble_eq_true rfl⟩) ⟨fun a U g mk q => ⟨q.1, mPre.blind q.2⟩, va_recv hK hP (ci := 11) (q0 := 0) rfl rfl, fun U hU hW => ⟨rfl, mPre.of hP hK hU hW⟩⟩ rfl rfl hl.1 rfl (lv_room (Nat.le_of_ble_eq_true rfl)) dX12_readPersonDoes_23 ⟨Nat.le_of_ble_eq_true rfl, Nat.le_of_ble_eq_true rfl⟩) hS (fun q _ h => MA.le hS.1 q h) (MA.le hS.1) (fun x t H locs ht hvm hw hB _ _ hS => ?_)
    have hP := mB.at ht hB
    clear hB ht hvm
    obtain ⟨st4, sl5⟩ := x
    obtain ⟨hG2, hL2, hw⟩ := hw
    have hL : LQ [7, 9] sl sl5 := hL.tr hL2 (by decide)
    clear hL2
    dsimp only at hw
    have hP : va_P (dC, dI) vwCl (mw ar cy st4 sl5) _ := hP
    have hG : MG [1, 2, 3, 6, 7, 8, 9, 10, 11, 12, 14, 15, 19, 20, 21, 22] st st4 := hG.tr hG2 (by decide)
    have hGst4 : MG [1, 2, 3, 6, 7, 8, 9, 10, 11, 12, 13, 14, 15, 16, 19, 20, 21, 22, 23] st2 st4 := hG2
    clear hG2
    obtain ⟨n6, hf7, hf8, hf9⟩ := hw
    have hf7c := hf7.2.2.1
    have hf7d := hf7.2.2.2
    refine lv_aload_n hx hb dX12_readPersonDoes_26 rfl (lv_at hl 0 rfl) ?_
    refine lv_iload_n hx hb dX12_readPersonDoes_27 rfl (lv_at hl 1 rfl) ?_
    refine lv_iconst (v := 2) hx hb dX12_readPersonDoes_28 (by decide) ?_
    refine lv_iadd hx hb dX12_readPersonDoes_29 ?_
    refine zz_top (v := nI (va + 2)) (nI_add va 2) ?_
    refine lv_aload_n hx hb dX12_readPersonDoes_30 rfl (lv_at hl 0 rfl) ?_
    refine va_calli (va_runV (As := []) (rest := [.int (nI (va + 2)), .ref (ar 0)]) ⟨hx, hb, hml, hown, hts⟩ (m_readPlaceName l dC dI ar cy _ hN st4 sl5 n6 gb  hG.1 ((⟨by rw [hf7.1], by rw [hf7.2.1], by omega, by omega⟩ : TS st4 n6 gb))) (cwV 0 hts gX12_readPersonDoes_X12_readPlaceName rfl rfl rfl (by decide +kernel) ⟨Nat.le_of_ble_eq_true rfl, Nat.le_of_ble_eq_true rfl⟩) ⟨fun a U g mk q => ⟨q.1, mPre.blind q.2⟩, va_recv hK hP (ci := 11) (q0 := 0) rfl rfl, fun U hU hW => ⟨rfl, mPre.of hP hK hU hW⟩⟩ rfl rfl hl.1 rfl (lv_room (Nat.le_of_ble_eq_true rfl)) dX12_readPersonDoes_31 ⟨Nat.le_of_ble_eq_true rfl, Nat.le_of_ble_eq_true rfl⟩) hS (fun q _ h => MA.le hS.1 q h) (MA.le hS.1) (fun r10 x t H locs ht hvm hw hB _ _ hS => ?_)
    have hP := mB.at ht hB
    clear hB ht hvm
    obtain ⟨st11, sl12⟩ := x
    obtain ⟨hG2, hL2, hw⟩ := hw
    have hL : LQ [7, 9] sl sl12 := hL.tr hL2 (by decide)
    clear hL2
    dsimp only at hw
    have hP : va_P (dC, dI) vwCl (mw ar cy st11 sl12) _ := hP
    have hG : MG [1, 2, 3, 6, 7, 8, 9, 10, 11, 12, 14, 15, 19, 20, 21, 22] st st11 := hG.tr hG2 (by decide)
    have hGst11 : MG [1, 2, 3, 6, 7, 8, 9, 10, 11, 12, 13, 14, 15, 19, 20, 21, 22] st4 st11 := hG2
    clear hG2
    rcases hw with ⟨n13, n14, rfl, hf15, hf16, hf17, hf18, hf19⟩ | rfl
    · have hf15c := hf15.2.2.1
      have hf15d := hf15.2.2.2
      refine va_calli (va_runV (As := [.int (nI (va + 2)), .int 1]) (rest := []) ⟨hx, hb, hml, hown, hts⟩ (m_keep1 l dC dI ar cy _ hN st11 sl12 (va + 2) (by omega) hG.1) (cwV 2 hts gX12_readPersonDoes_X12_keep rfl rfl rfl (by decide +kernel) ⟨Nat.le_of_ble_eq_true rfl, Nat.le_of_ble_eq_true rfl⟩) ⟨fun a U g mk q => ⟨q.1, mPre.blind q.2⟩, va_recv hK hP (ci := 11) (q0 := 0) rfl rfl, fun U hU hW => ⟨rfl, mPre.of hP hK hU hW⟩⟩ rfl rfl hl.1 rfl (lv_room (Nat.le_of_ble_eq_true rfl)) dX12_readPersonDoes_34 ⟨Nat.le_of_ble_eq_true rfl, Nat.le_of_ble_eq_true rfl⟩) hS (fun q _ h => MA.le hS.1 q h) (MA.le hS.1) (fun r20 x t H locs ht hvm hw hB _ _ hS => ?_)
      have hP := mB.at ht hB
      clear hB ht hvm
      obtain ⟨st21, sl22⟩ := x
      obtain ⟨hG2, hL2, hw⟩ := hw
      have hL : LQ [7, 9] sl sl22 := hL.tr hL2 (by decide)
      clear hL2
      dsimp only at hw
      have hP : va_P (dC, dI) vwCl (mw ar cy st21 sl22) _ := hP
      have hG : MG [1, 2, 3, 6, 7, 8, 9, 10, 11, 12, 14, 15, 19, 20, 21, 22] st st21 := hG.tr hG2 (by decide)
      have hGst21 : MG [1, 2, 3, 4, 5, 6, 7, 8, 9, 10, 11, 12, 14, 15, 16, 17, 19, 20, 21, 22, 23] st11 st21 := hG2
      clear hG2
      obtain ⟨rfl, hf23⟩ := hw
      rw [show st11 0 13 = (nI n14) by rw [hf18]] at hf23
      refine lv_if_eq (tgt := 54) hx hb dX12_readPersonDoes_37 (by decide) (fun cc => absurd cc (by decide)) (fun _ => ?_)
      refine lv_aload_n hx hb dX12_readPersonDoes_40 rfl (lv_at hl 0 rfl) ?_
      refine lv_iload_n hx hb dX12_readPersonDoes_41 rfl (lv_at hl 1 rfl) ?_
      refine lv_iconst (v := 3) hx hb dX12_readPersonDoes_42 (by decide) ?_
      refine lv_iadd hx hb dX12_readPersonDoes_43 ?_
      refine zz_top (v := nI (va + 3)) (nI_add va 3) ?_
      refine va_calli (va_runV (As := [.int (nI (va + 3))]) (rest := []) ⟨hx, hb, hml, hown, hts⟩ (m_readHours l dC dI ar cy _ hN st21 sl22 (va + 3) n13 gb (by omega) hG.1 ((⟨by rw [hf23, up2_ne (r := 14) (k := (va + 2)) (a := 0) (j := 5) _ _ (by omega), hf15.1], by rw [hf23, up2_ne (r := 14) (k := (va + 2)) (a := 0) (j := 3) _ _ (by omega), hf15.2.1], by omega, by omega⟩ : TS st21 n13 gb))) (cwV 1 hts gX12_readPersonDoes_X12_readHours rfl rfl rfl (by decide +kernel) ⟨Nat.le_of_ble_eq_true rfl, Nat.le_of_ble_eq_true rfl⟩) ⟨fun a U g mk q => ⟨q.1, mPre.blind q.2⟩, va_recv hK hP (ci := 11) (q0 := 0) rfl rfl, fun U hU hW => ⟨rfl, mPre.of hP hK hU hW⟩⟩ rfl rfl hl.1 rfl (lv_room (Nat.le_of_ble_eq_true rfl)) dX12_readPersonDoes_44 ⟨Nat.le_of_ble_eq_true rfl, Nat.le_of_ble_eq_true rfl⟩) hS (fun q _ h => MA.le hS.1 q h) (MA.le hS.1) (fun r24 x t H locs ht hvm hw hB _ _ hS => ?_)
      have hP := mB.at ht hB
      clear hB ht hvm
      obtain ⟨st25, sl26⟩ := x
      obtain ⟨hG2, hL2, hw⟩ := hw
      have hL : LQ [7, 9] sl sl26 := hL.tr hL2 (by decide)
      clear hL2
      dsimp only at hw
      have hP : va_P (dC, dI) vwCl (mw ar cy st25 sl26) _ := hP
      have hG : MG [1, 2, 3, 6, 7, 8, 9, 10, 11, 12, 14, 15, 19, 20, 21, 22] st st25 := hG.tr hG2 (by decide)
      have hGst25 : MG [1, 2, 3, 6, 7, 8, 9, 10, 11, 12, 14, 15, 19, 20, 21, 22] st21 st25 := hG2
      clear hG2
      rcases hw with ⟨n27, n28, n29, rfl, hf30, hf31, hf32, hf33, hf34, hf35, hf36, hf37⟩ | rfl
      · have hf30c := hf30.2.2.1
        have hf30d := hf30.2.2.2
        refine lv_if_eq (tgt := 54) hx hb dX12_readPersonDoes_47 (by decide) (fun cc => absurd cc (by decide)) (fun _ => ?_)
        refine lv_iconst (v := 1) hx hb dX12_readPersonDoes_50 (by decide) ?_
        refine lv_goto (tgt := 55) hx hb dX12_readPersonDoes_51 (by decide) ?_
        exact W.zret (v := 1) hx hb hr rfl (fun t ht hW => ⟨⟨1, (st25, sl26), rfl, ⟨hG, hL, Or.inl (⟨n27, n14, rfl, (show TS st25 n27 gb from ⟨by rw [hf30.1], by rw [hf30.2.1], by omega, by omega⟩), by omega, fun (hh : st25 0 7 = 4) => by have hk := hf32 (by exact hh); omega, by show st25 14 va = 4; rw [hf37 va (by omega), hf23, up2_ne (r := 14) (k := (va + 2)) (a := 14) (j := va) _ _ (by omega), hGst11.2 14 va (show (13 : Nat) ∈ _ by decide), hGst4.2 14 va (show (13 : Nat) ∈ _ by decide), est2, up2_same], by show st25 14 (va + 1) = st 14 (va + 1); rw [hf37 (va + 1) (by omega), hf23, up2_ne (r := 14) (k := (va + 2)) (a := 14) (j := (va + 1)) _ _ (by omega), hGst11.2 14 (va + 1) (show (13 : Nat) ∈ _ by decide), hGst4.2 14 (va + 1) (show (13 : Nat) ∈ _ by decide), est2, up2_ne (r := 14) (k := va) (a := 14) (j := (va + 1)) _ _ (by omega)], by show st25 14 (va + 2) = (nI n14); rw [hf37 (va + 2) (by omega), hf23, up2_same], by omega, fun jj hk => by show st25 14 jj = st 14 jj; rw [hf37 jj (by omega), hf23, up2_ne (r := 14) (k := (va + 2)) (a := 14) (j := jj) _ _ (by omega), hGst11.2 14 jj (show (13 : Nat) ∈ _ by decide), hGst4.2 14 jj (show (13 : Nat) ∈ _ by decide), est2, up2_ne (r := 14) (k := va) (a := 14) (j := jj) _ _ (by omega)]⟩)⟩, mB.of ht hP⟩, hS.F ht⟩) hS.2.2 dX12_readPersonDoes_55
      · refine lv_if_eq (tgt := 54) hx hb dX12_readPersonDoes_47 (by decide) (fun _ => ?_) (fun cc => absurd (by decide) cc)
        refine lv_iconst (v := 0) hx hb dX12_readPersonDoes_54 (by decide) ?_
        exact W.zret (v := 0) hx hb hr rfl (fun t ht hW => ⟨⟨0, (st25, sl26), rfl, ⟨hG, hL, Or.inr (rfl)⟩, mB.of ht hP⟩, hS.F ht⟩) hS.2.2 dX12_readPersonDoes_55
    · refine va_calli (va_runV (As := [.int (nI (va + 2)), .int 0]) (rest := []) ⟨hx, hb, hml, hown, hts⟩ (m_keep0 l dC dI ar cy _ hN st11 sl12 (nI (va + 2))  hG.1) (cwV 2 hts gX12_readPersonDoes_X12_keep rfl rfl rfl (by decide +kernel) ⟨Nat.le_of_ble_eq_true rfl, Nat.le_of_ble_eq_true rfl⟩) ⟨fun a U g mk q => ⟨q.1, mPre.blind q.2⟩, va_recv hK hP (ci := 11) (q0 := 0) rfl rfl, fun U hU hW => ⟨rfl, mPre.of hP hK hU hW⟩⟩ rfl rfl hl.1 rfl (lv_room (Nat.le_of_ble_eq_true rfl)) dX12_readPersonDoes_34 ⟨Nat.le_of_ble_eq_true rfl, Nat.le_of_ble_eq_true rfl⟩) hS (fun q _ h => MA.le hS.1 q h) (MA.le hS.1) (fun r38 x t H locs ht hvm hw hB _ _ hS => ?_)
      have hP := mB.at ht hB
      clear hB ht hvm
      obtain ⟨rfl, hw⟩ := hw
      have hP : va_P (dC, dI) vwCl (mw ar cy st11 sl12) _ := hP
      obtain rfl := hw
      refine lv_if_eq (tgt := 54) hx hb dX12_readPersonDoes_37 (by decide) (fun _ => ?_) (fun cc => absurd (by decide) cc)
      refine lv_iconst (v := 0) hx hb dX12_readPersonDoes_54 (by decide) ?_
      exact W.zret (v := 0) hx hb hr rfl (fun t ht hW => ⟨⟨0, (st11, sl12), rfl, ⟨hG, hL, Or.inr (rfl)⟩, mB.of ht hP⟩, hS.F ht⟩) hS.2.2 dX12_readPersonDoes_55
  · refine lv_if_ne (tgt := 15) hx hb dX12_readPersonDoes_6 (by decide) (fun cc => absurd (by decide) cc) (fun _ => ?_)
    refine lv_aload_n hx hb dX12_readPersonDoes_9 rfl (lv_at hl 0 rfl) ?_
    refine lv_iconst (v := 1) hx hb dX12_readPersonDoes_10 (by decide) ?_
    refine va_calli (va_runV (As := [.int 1]) (rest := []) ⟨hx, hb, hml, hown, hts⟩ (m_bad l dC dI ar cy _ hN st sl 1  hG.1) (cwV 1 hts gX12_readPersonDoes_X12_bad rfl rfl rfl (by decide +kernel) ⟨Nat.le_of_ble_eq_true rfl, Nat.le_of_ble_eq_true rfl⟩) ⟨fun a U g mk q => ⟨q.1, mPre.blind q.2⟩, va_recv hK hP (ci := 11) (q0 := 0) rfl rfl, fun U hU hW => ⟨rfl, mPre.of hP hK hU hW⟩⟩ rfl rfl hl.1 rfl (lv_room (Nat.le_of_ble_eq_true rfl)) dX12_readPersonDoes_11 ⟨Nat.le_of_ble_eq_true rfl, Nat.le_of_ble_eq_true rfl⟩) hS (fun q _ h => MA.le hS.1 q h) (MA.le hS.1) (fun r39 x t H locs ht hvm hw hB _ _ hS => ?_)
    have hP := mB.at ht hB
    clear hB ht hvm
    obtain ⟨st40, sl41⟩ := x
    obtain ⟨hG2, hL2, hw⟩ := hw
    have hL : LQ [7, 9] sl sl41 := hL.tr hL2 (by decide)
    clear hL2
    have hP : va_P (dC, dI) vwCl (mw ar cy st40 sl41) _ := hP
    have hG : MG [1, 2, 3, 6, 7, 8, 9, 10, 11, 12, 14, 15, 19, 20, 21, 22] st st40 := hG.tr hG2 (by decide)
    have hGst40 : MG [1, 2, 3, 4, 5, 6, 7, 8, 9, 10, 11, 12, 13, 14, 15, 16, 17, 19, 20, 21, 22] st st40 := hG2
    clear hG2
    obtain rfl := hw
    exact W.zret (v := 0) hx hb hr rfl (fun t ht hW => ⟨⟨0, (st40, sl41), rfl, ⟨hG, hL, Or.inr (rfl)⟩, mB.of ht hP⟩, hS.F ht⟩) hS.2.2 dX12_readPersonDoes_14
set_option maxHeartbeats 4000000 in
set_option maxRecDepth 100000 in
theorem m_isOfAll (l : Launch) (dC : Nat → ClassId) (dI : Nat → Nat → Nat) (ar : Nat → Nat) (cy : Nat → ClassId) (sz : Nat) (hN : MN ar) (st : Nat → Nat → Int32) (sl : Nat → Nat → Int64) (hI : MI st) : Met l yX12_isOfAll wsX12_isOfAll ({ frames := 3, cells := 0, slots := 0, locals := 69 }) (va_Pc [.ref (ar 0)] (mPre dC dI ar cy sz st sl)) (va_Qi (fun (r : Int32) (x : MT) => x = (st, sl) ∧ ((r = 1) ∨ (r = 0))) (mB dC dI ar cy) (MA ar sz)) 0 0 (MA ar sz) := by
  refine Met.ofW (cc := cX12_isOfAll) (maxL := 1) (ret := (some .boolean)) (by decide) rfl ?_
  intro p e s m args below meth c s₁ B hml hv
  obtain ⟨rfl, hsz, hP, hK⟩ := hv
  have hx := B.exec
  have hb := B.bytes
  have hr := B.returns
  have hts := atoms_spec (ws := wsX12_isOfAll) B.pre
  have hown : s.vm.findClass RX12 = some m.cls := findClass_of_methodNamed B.named
  subst hsz
  have hS : va_S (MA ar s.heap.size) s.heap s.heap [] := va_S.rf
  have hG : MG [1, 2, 3, 4, 5, 6, 7, 8, 9, 10, 11, 12, 13, 14, 15, 16, 17, 19, 20, 21, 22, 23] st st := MG.rf hI
  have hl := lv_entry ([.ref (ar 0)]) (n := 1) (Nat.le_of_ble_eq_true rfl)
  rw [lg_entry_eq]
  generalize (lg_sl ([.ref (ar 0)]) ++ List.replicate (1 - (lg_sl ([.ref (ar 0)])).length) Slot.unset).toArray = ls at hl ⊢
  have hl : lv_has ls 1 [(0, .ref (ar 0))] := hl
  clear hI
  refine lv_aload_n hx hb dX12_isOfAll_0 rfl (lv_at hl 0 rfl) ?_
  refine lv_bipush (v := 6) hx hb dX12_isOfAll_1 (by decide) ?_
  refine va_calli (va_runV (As := [.int 6]) (rest := []) ⟨hx, hb, hml, hown, hts⟩ (m_isWord l dC dI ar cy _ hN st sl 6  hG.1) (cwV 1 hts gX12_isOfAll_X12_isWord rfl rfl rfl (by decide +kernel) ⟨Nat.le_of_ble_eq_true rfl, Nat.le_of_ble_eq_true rfl⟩) ⟨fun a U g mk q => ⟨q.1, mPre.blind q.2⟩, va_recv hK hP (ci := 11) (q0 := 0) rfl rfl, fun U hU hW => ⟨rfl, mPre.of hP hK hU hW⟩⟩ rfl rfl hl.1 rfl (lv_room (Nat.le_of_ble_eq_true rfl)) dX12_isOfAll_3 ⟨Nat.le_of_ble_eq_true rfl, Nat.le_of_ble_eq_true rfl⟩) hS (fun q _ h => MA.le hS.1 q h) (MA.le hS.1) (fun r1 x t H locs ht hvm hw hB _ _ hS => ?_)
  have hP := mB.at ht hB
  clear hB ht hvm
  obtain ⟨rfl, hw⟩ := hw
  have hP : va_P (dC, dI) vwCl (mw ar cy st sl) _ := hP
  rcases hw with rfl | rfl
  · refine lv_if_ne (tgt := 44) hx hb dX12_isOfAll_6 (by decide) (fun _ => ?_) (fun cc => absurd cc (by decide))
    refine lv_iconst (v := 1) hx hb dX12_isOfAll_44 (by decide) ?_
    refine lv_goto (tgt := 49) hx hb dX12_isOfAll_45 (by decide) ?_
    exact W.zret (v := 1) hx hb hr rfl (fun t ht hW => ⟨⟨1, (st, sl), rfl, ⟨rfl, Or.inl (rfl)⟩, mB.of ht hP⟩, hS.F ht⟩) hS.2.2 dX12_isOfAll_49
  · refine lv_if_ne (tgt := 44) hx hb dX12_isOfAll_6 (by decide) (fun cc => absurd (by decide) cc) (fun _ => ?_)
    refine lv_aload_n hx hb dX12_isOfAll_9 rfl (lv_at hl 0 rfl) ?_
    refine lv_bipush (v := 7) hx hb dX12_isOfAll_10 (by decide) ?_
    refine va_calli (va_runV (As := [.int 7]) (rest := []) ⟨hx, hb, hml, hown, hts⟩ (m_isWord l dC dI ar cy _ hN st sl 7  hG.1) (cwV 1 hts gX12_isOfAll_X12_isWord rfl rfl rfl (by decide +kernel) ⟨Nat.le_of_ble_eq_true rfl, Nat.le_of_ble_eq_true rfl⟩) ⟨fun a U g mk q => ⟨q.1, mPre.blind q.2⟩, va_recv hK hP (ci := 11) (q0 := 0) rfl rfl, fun U hU hW => ⟨rfl, mPre.of hP hK hU hW⟩⟩ rfl rfl hl.1 rfl (lv_room (Nat.le_of_ble_eq_true rfl)) dX12_isOfAll_12 ⟨Nat.le_of_ble_eq_true rfl, Nat.le_of_ble_eq_true rfl⟩) hS (fun q _ h => MA.le hS.1 q h) (MA.le hS.1) (fun r2 x t H locs ht hvm hw hB _ _ hS => ?_)
    have hP := mB.at ht hB
    clear hB ht hvm
    obtain ⟨rfl, hw⟩ := hw
    have hP : va_P (dC, dI) vwCl (mw ar cy st sl) _ := hP
    rcases hw with rfl | rfl
    · refine lv_if_ne (tgt := 44) hx hb dX12_isOfAll_15 (by decide) (fun _ => ?_) (fun cc => absurd cc (by decide))
      refine lv_iconst (v := 1) hx hb dX12_isOfAll_44 (by decide) ?_
      refine lv_goto (tgt := 49) hx hb dX12_isOfAll_45 (by decide) ?_
      exact W.zret (v := 1) hx hb hr rfl (fun t ht hW => ⟨⟨1, (st, sl), rfl, ⟨rfl, Or.inl (rfl)⟩, mB.of ht hP⟩, hS.F ht⟩) hS.2.2 dX12_isOfAll_49
    · refine lv_if_ne (tgt := 44) hx hb dX12_isOfAll_15 (by decide) (fun cc => absurd (by decide) cc) (fun _ => ?_)
      refine lv_aload_n hx hb dX12_isOfAll_18 rfl (lv_at hl 0 rfl) ?_
      refine lv_bipush (v := 8) hx hb dX12_isOfAll_19 (by decide) ?_
      refine va_calli (va_runV (As := [.int 8]) (rest := []) ⟨hx, hb, hml, hown, hts⟩ (m_isWord l dC dI ar cy _ hN st sl 8  hG.1) (cwV 1 hts gX12_isOfAll_X12_isWord rfl rfl rfl (by decide +kernel) ⟨Nat.le_of_ble_eq_true rfl, Nat.le_of_ble_eq_true rfl⟩) ⟨fun a U g mk q => ⟨q.1, mPre.blind q.2⟩, va_recv hK hP (ci := 11) (q0 := 0) rfl rfl, fun U hU hW => ⟨rfl, mPre.of hP hK hU hW⟩⟩ rfl rfl hl.1 rfl (lv_room (Nat.le_of_ble_eq_true rfl)) dX12_isOfAll_21 ⟨Nat.le_of_ble_eq_true rfl, Nat.le_of_ble_eq_true rfl⟩) hS (fun q _ h => MA.le hS.1 q h) (MA.le hS.1) (fun r3 x t H locs ht hvm hw hB _ _ hS => ?_)
      have hP := mB.at ht hB
      clear hB ht hvm
      obtain ⟨rfl, hw⟩ := hw
      have hP : va_P (dC, dI) vwCl (mw ar cy st sl) _ := hP
      rcases hw with rfl | rfl
      · refine lv_if_ne (tgt := 44) hx hb dX12_isOfAll_24 (by decide) (fun _ => ?_) (fun cc => absurd cc (by decide))
        refine lv_iconst (v := 1) hx hb dX12_isOfAll_44 (by decide) ?_
        refine lv_goto (tgt := 49) hx hb dX12_isOfAll_45 (by decide) ?_
        exact W.zret (v := 1) hx hb hr rfl (fun t ht hW => ⟨⟨1, (st, sl), rfl, ⟨rfl, Or.inl (rfl)⟩, mB.of ht hP⟩, hS.F ht⟩) hS.2.2 dX12_isOfAll_49
      · refine lv_if_ne (tgt := 44) hx hb dX12_isOfAll_24 (by decide) (fun cc => absurd (by decide) cc) (fun _ => ?_)
        refine lv_aload_n hx hb dX12_isOfAll_27 rfl (lv_at hl 0 rfl) ?_
        refine lv_iconst (v := 5) hx hb dX12_isOfAll_28 (by decide) ?_
        refine va_calli (va_runV (As := [.int 5]) (rest := []) ⟨hx, hb, hml, hown, hts⟩ (m_isWord l dC dI ar cy _ hN st sl 5  hG.1) (cwV 1 hts gX12_isOfAll_X12_isWord rfl rfl rfl (by decide +kernel) ⟨Nat.le_of_ble_eq_true rfl, Nat.le_of_ble_eq_true rfl⟩) ⟨fun a U g mk q => ⟨q.1, mPre.blind q.2⟩, va_recv hK hP (ci := 11) (q0 := 0) rfl rfl, fun U hU hW => ⟨rfl, mPre.of hP hK hU hW⟩⟩ rfl rfl hl.1 rfl (lv_room (Nat.le_of_ble_eq_true rfl)) dX12_isOfAll_29 ⟨Nat.le_of_ble_eq_true rfl, Nat.le_of_ble_eq_true rfl⟩) hS (fun q _ h => MA.le hS.1 q h) (MA.le hS.1) (fun r4 x t H locs ht hvm hw hB _ _ hS => ?_)
        have hP := mB.at ht hB
        clear hB ht hvm
        obtain ⟨rfl, hw⟩ := hw
        have hP : va_P (dC, dI) vwCl (mw ar cy st sl) _ := hP
        rcases hw with rfl | rfl
        · refine lv_if_ne (tgt := 44) hx hb dX12_isOfAll_32 (by decide) (fun _ => ?_) (fun cc => absurd cc (by decide))
          refine lv_iconst (v := 1) hx hb dX12_isOfAll_44 (by decide) ?_
          refine lv_goto (tgt := 49) hx hb dX12_isOfAll_45 (by decide) ?_
          exact W.zret (v := 1) hx hb hr rfl (fun t ht hW => ⟨⟨1, (st, sl), rfl, ⟨rfl, Or.inl (rfl)⟩, mB.of ht hP⟩, hS.F ht⟩) hS.2.2 dX12_isOfAll_49
        · refine lv_if_ne (tgt := 44) hx hb dX12_isOfAll_32 (by decide) (fun cc => absurd (by decide) cc) (fun _ => ?_)
          refine lv_aload_n hx hb dX12_isOfAll_35 rfl (lv_at hl 0 rfl) ?_
          refine lv_bipush (v := 12) hx hb dX12_isOfAll_36 (by decide) ?_
          refine va_calli (va_runV (As := [.int 12]) (rest := []) ⟨hx, hb, hml, hown, hts⟩ (m_isWord l dC dI ar cy _ hN st sl 12  hG.1) (cwV 1 hts gX12_isOfAll_X12_isWord rfl rfl rfl (by decide +kernel) ⟨Nat.le_of_ble_eq_true rfl, Nat.le_of_ble_eq_true rfl⟩) ⟨fun a U g mk q => ⟨q.1, mPre.blind q.2⟩, va_recv hK hP (ci := 11) (q0 := 0) rfl rfl, fun U hU hW => ⟨rfl, mPre.of hP hK hU hW⟩⟩ rfl rfl hl.1 rfl (lv_room (Nat.le_of_ble_eq_true rfl)) dX12_isOfAll_38 ⟨Nat.le_of_ble_eq_true rfl, Nat.le_of_ble_eq_true rfl⟩) hS (fun q _ h => MA.le hS.1 q h) (MA.le hS.1) (fun r5 x t H locs ht hvm hw hB _ _ hS => ?_)
          have hP := mB.at ht hB
          clear hB ht hvm
          obtain ⟨rfl, hw⟩ := hw
          have hP : va_P (dC, dI) vwCl (mw ar cy st sl) _ := hP
          rcases hw with rfl | rfl
          · refine lv_if_eq (tgt := 48) hx hb dX12_isOfAll_41 (by decide) (fun cc => absurd cc (by decide)) (fun _ => ?_)
            refine lv_iconst (v := 1) hx hb dX12_isOfAll_44 (by decide) ?_
            refine lv_goto (tgt := 49) hx hb dX12_isOfAll_45 (by decide) ?_
            exact W.zret (v := 1) hx hb hr rfl (fun t ht hW => ⟨⟨1, (st, sl), rfl, ⟨rfl, Or.inl (rfl)⟩, mB.of ht hP⟩, hS.F ht⟩) hS.2.2 dX12_isOfAll_49
          · refine lv_if_eq (tgt := 48) hx hb dX12_isOfAll_41 (by decide) (fun _ => ?_) (fun cc => absurd (by decide) cc)
            refine lv_iconst (v := 0) hx hb dX12_isOfAll_48 (by decide) ?_
            exact W.zret (v := 0) hx hb hr rfl (fun t ht hW => ⟨⟨0, (st, sl), rfl, ⟨rfl, Or.inr (rfl)⟩, mB.of ht hP⟩, hS.F ht⟩) hS.2.2 dX12_isOfAll_49
