set_option maxHeartbeats 4000000 in
set_option maxRecDepth 100000 in
theorem m_readOne0 (l : Launch) (dC : Nat → ClassId) (dI : Nat → Nat → Nat) (ar : Nat → Nat) (cy : Nat → ClassId) (sz : Nat) (hN : MN ar) (st : Nat → Nat → Int32) (sl : Nat → Nat → Int64) (vb : Nat) (ga gb : Nat) (hvb : vb < 6) (hI : MI st) (hT : TS st ga gb) : Met l yX12_readOne wsX12_readOne ({ frames := 3, cells := 0, slots := 0, locals := 69 }) (va_Pc [.ref (ar 0), .int 0, .int (nI vb)] (mPre dC dI ar cy sz st sl)) (va_Qi (fun (r : Int32) (x : MT) => MG [1, 2, 3, 6, 7, 8, 9, 10, 11, 12, 13, 14, 15, 19, 20, 21, 22] st x.1 ∧ LQ [7, 9] sl x.2 ∧ ((∃ g : Nat, ∃ n : Nat, r = 1 ∧ TS x.1 g gb ∧ ga ≤ g ∧ (x.1 0 7 = 4 → ga < g) ∧ x.1 0 13 = nI n ∧ n < 5) ∨ (r = 0))) (mB dC dI ar cy) (MA ar sz)) 0 0 (MA ar sz) := by
  refine Met.ofW (cc := cX12_readOne) (maxL := 3) (ret := (some .boolean)) (by decide) rfl ?_
  intro p e s m args below meth c s₁ B hml hv
  obtain ⟨rfl, hsz, hP, hK⟩ := hv
  have hx := B.exec
  have hb := B.bytes
  have hr := B.returns
  have hts := atoms_spec (ws := wsX12_readOne) B.pre
  have hown : s.vm.findClass RX12 = some m.cls := findClass_of_methodNamed B.named
  subst hsz
  have hS : va_S (MA ar s.heap.size) s.heap s.heap [] := va_S.rf
  have hG : MG [1, 2, 3, 6, 7, 8, 9, 10, 11, 12, 13, 14, 15, 19, 20, 21, 22] st st := MG.rf hI
  have hl := lv_entry ([.ref (ar 0), .int 0, .int (nI vb)]) (n := 3) (Nat.le_of_ble_eq_true rfl)
  rw [lg_entry_eq]
  generalize (lg_sl ([.ref (ar 0), .int 0, .int (nI vb)]) ++ List.replicate (3 - (lg_sl ([.ref (ar 0), .int 0, .int (nI vb)])).length) Slot.unset).toArray = ls at hl ⊢
  have hl : lv_has ls 3 [(0, .ref (ar 0)), (1, .int 0), (2, .int (nI vb))] := hl
  clear hI
  have hL : LQ [7, 9] sl sl := LQ.rf
  have hTc := hT.2.2.1
  have hTd := hT.2.2.2
  have hga : ga ≤ ga := Nat.le_refl ga
  refine lv_aload_n hx hb dX12_readOne_0 rfl (lv_at hl 0 rfl) ?_
  refine va_calli (va_runV (As := []) (rest := []) ⟨hx, hb, hml, hown, hts⟩ (m_isName l dC dI ar cy _ hN st sl  hG.1) (cwV 0 hts gX12_readOne_X12_isName rfl rfl rfl (by decide +kernel) ⟨Nat.le_of_ble_eq_true rfl, Nat.le_of_ble_eq_true rfl⟩) ⟨fun a U g mk q => ⟨q.1, mPre.blind q.2⟩, va_recv hK hP (ci := 11) (q0 := 0) rfl rfl, fun U hU hW => ⟨rfl, mPre.of hP hK hU hW⟩⟩ rfl rfl hl.1 rfl (lv_room (Nat.le_of_ble_eq_true rfl)) dX12_readOne_1 ⟨Nat.le_of_ble_eq_true rfl, Nat.le_of_ble_eq_true rfl⟩) hS (fun q _ h => MA.le hS.1 q h) (MA.le hS.1) (fun r1 x t H locs ht hvm hw hB _ _ hS => ?_)
  have hP := mB.at ht hB
  clear hB ht hvm
  obtain ⟨rfl, hw⟩ := hw
  have hP : va_P (dC, dI) vwCl (mw ar cy st sl) _ := hP
  rcases hw with rfl | rfl
  · refine lv_if_ne (tgt := 13) hx hb dX12_readOne_4 (by decide) (fun _ => ?_) (fun cc => absurd cc (by decide))
    refine lv_aload_n hx hb dX12_readOne_13 rfl (lv_at hl 0 rfl) ?_
    refine lv_aload_n hx hb dX12_readOne_14 rfl (lv_at hl 0 rfl) ?_
    refine va_get (D := (dC, dI)) (ci := 11) (v := .ref (ar 8)) (C := RX12) (T := TX12) (N := 47) hx hb hts ii_X12_readOne hown hK hP 0 rfl rfl 20 (by decide) (hts _ mm_X12_readOne_1) (fun _ hh => hh) rfl dX12_readOne_15 ?_
    refine lv_iload_n hx hb dX12_readOne_18 rfl (lv_at hl 1 rfl) ?_
    refine lv_iload_n hx hb dX12_readOne_19 rfl (lv_at hl 2 rfl) ?_
    refine lv_aload_n hx hb dX12_readOne_20 rfl (lv_at hl 0 rfl) ?_
    refine va_get (D := (dC, dI)) (ci := 11) (v := .long (sl 0 12)) (C := RX12) (T := TX12) (N := 47) hx hb hts ii_X12_readOne hown hK hP 0 rfl rfl 12 (by decide) (hts _ mm_X12_readOne_2) (fun _ hh => hh) rfl dX12_readOne_21 ?_
    refine lv_topl (fun z2 ez2 => ?_)
    clear ez2
    refine va_calli (va_runS (As := [.ref (ar 8), .int 0, .int (nI vb), .long z2]) (rest := [.ref (ar 0)]) ⟨hx, hb, hml, hown, hts⟩ (m_findIn8 l dC dI ar cy _ hN st sl 0 vb z2 (by omega) (by omega) hG.1 (by omega)) (va_cwS 4 hts gX12_readOne_X12_findIn rfl rfl rfl (by decide +kernel) ⟨Nat.le_of_ble_eq_true rfl, Nat.le_of_ble_eq_true rfl⟩) ⟨fun a U g mk q => ⟨q.1, mPre.blind q.2⟩, fun U hU hW => ⟨rfl, mPre.of hP hK hU hW⟩⟩ rfl rfl hl.1 rfl (lv_room (Nat.le_of_ble_eq_true rfl)) dX12_readOne_24 ⟨Nat.le_of_ble_eq_true rfl, Nat.le_of_ble_eq_true rfl⟩) hS (fun q _ h => MA.le hS.1 q h) (MA.le hS.1) (fun r3 x t H locs ht hvm hw hB _ _ hS => ?_)
    have hP := mB.at ht hB
    clear hB ht hvm
    obtain ⟨rfl, hw⟩ := hw
    have hP : va_P (dC, dI) vwCl (mw ar cy st sl) _ := hP
    rcases hw with rfl | ⟨n4, rfl, hf5⟩
    · refine va_put (D := (dC, dI)) (ci := 11) (v := .int (-1)) (ty := .int) (C := RX12) (T := TX12) (N := 47) hx hb hts ii_X12_readOne tyX12 tyX12_ok nmX12 hown hK hP (mD hN _ _ _ _) hS 0 rfl rfl 13 (by decide) (hts _ mm_X12_readOne_3) (fun _ hh => hh) rfl (by decide +kernel) rfl rfl (Nat.le_of_ble_eq_true rfl) dX12_readOne_27 (fun H locs hP _ hS => ?_)
      have hP : va_P (dC, dI) vwCl (mw ar cy (up2 st 0 13 (-1)) sl) H := hP
      obtain ⟨st6, est6⟩ : ∃ y, y = up2 st 0 13 (-1) := ⟨_, rfl⟩
      have hG : MG [1, 2, 3, 6, 7, 8, 9, 10, 11, 12, 13, 14, 15, 19, 20, 21, 22] st st6 := by rw [est6]; exact hG.up (rz (by decide : mr 0 13 = 0)) (pn (by decide : pcl 0 13 = 16) (by decide))
      rw [← est6] at hP
      refine lv_aload_n hx hb dX12_readOne_30 rfl (lv_at hl 0 rfl) ?_
      refine va_get (D := (dC, dI)) (ci := 11) (v := .int (st6 0 13)) (C := RX12) (T := TX12) (N := 47) hx hb hts ii_X12_readOne hown hK hP 0 rfl rfl 13 (by decide) (hts _ mm_X12_readOne_3) (fun _ hh => hh) rfl dX12_readOne_31 ?_
      refine zz_top (v := (-1)) (by show st6 0 13 = _; rw [est6, up2_same]) ?_
      refine lv_iconst (v := (-1)) hx hb dX12_readOne_34 (by decide) ?_
      refine lv_icmp_ne (tgt := 44) hx hb dX12_readOne_35 (by decide) (fun cc => absurd (by decide) cc) (fun _ => ?_)
      refine lv_aload_n hx hb dX12_readOne_38 rfl (lv_at hl 0 rfl) ?_
      refine lv_iconst (v := 3) hx hb dX12_readOne_39 (by decide) ?_
      refine va_calli (va_runV (As := [.int 3]) (rest := []) ⟨hx, hb, hml, hown, hts⟩ (m_bad l dC dI ar cy _ hN st6 sl 3  hG.1) (cwV 1 hts gX12_readOne_X12_bad rfl rfl rfl (by decide +kernel) ⟨Nat.le_of_ble_eq_true rfl, Nat.le_of_ble_eq_true rfl⟩) ⟨fun a U g mk q => ⟨q.1, mPre.blind q.2⟩, va_recv hK hP (ci := 11) (q0 := 0) rfl rfl, fun U hU hW => ⟨rfl, mPre.of hP hK hU hW⟩⟩ rfl rfl hl.1 rfl (lv_room (Nat.le_of_ble_eq_true rfl)) dX12_readOne_40 ⟨Nat.le_of_ble_eq_true rfl, Nat.le_of_ble_eq_true rfl⟩) hS (fun q _ h => MA.le hS.1 q h) (MA.le hS.1) (fun r7 x t H locs ht hvm hw hB _ _ hS => ?_)
      have hP := mB.at ht hB
      clear hB ht hvm
      obtain ⟨st8, sl9⟩ := x
      obtain ⟨hG2, hL2, hw⟩ := hw
      have hL : LQ [7, 9] sl sl9 := hL.tr hL2 (by decide)
      clear hL2
      have hP : va_P (dC, dI) vwCl (mw ar cy st8 sl9) _ := hP
      have hG : MG [1, 2, 3, 6, 7, 8, 9, 10, 11, 12, 13, 14, 15, 19, 20, 21, 22] st st8 := hG.tr hG2 (by decide)
      have hGst8 : MG [1, 2, 3, 4, 5, 6, 7, 8, 9, 10, 11, 12, 13, 14, 15, 16, 17, 19, 20, 21, 22] st6 st8 := hG2
      clear hG2
      obtain rfl := hw
      exact W.zret (v := 0) hx hb hr rfl (fun t ht hW => ⟨⟨0, (st8, sl9), rfl, ⟨hG, hL, Or.inr (rfl)⟩, mB.of ht hP⟩, hS.F ht⟩) hS.2.2 dX12_readOne_43
    · refine va_put (D := (dC, dI)) (ci := 11) (v := .int (nI n4)) (ty := .int) (C := RX12) (T := TX12) (N := 47) hx hb hts ii_X12_readOne tyX12 tyX12_ok nmX12 hown hK hP (mD hN _ _ _ _) hS 0 rfl rfl 13 (by decide) (hts _ mm_X12_readOne_3) (fun _ hh => hh) rfl (by decide +kernel) rfl rfl (Nat.le_of_ble_eq_true rfl) dX12_readOne_27 (fun H locs hP _ hS => ?_)
      have hP : va_P (dC, dI) vwCl (mw ar cy (up2 st 0 13 (nI n4)) sl) H := hP
      obtain ⟨st10, est10⟩ : ∃ y, y = up2 st 0 13 (nI n4) := ⟨_, rfl⟩
      have hG : MG [1, 2, 3, 6, 7, 8, 9, 10, 11, 12, 13, 14, 15, 19, 20, 21, 22] st st10 := by rw [est10]; exact hG.up (rz (by decide : mr 0 13 = 0)) (pn (by decide : pcl 0 13 = 16) (by decide))
      rw [← est10] at hP
      refine lv_aload_n hx hb dX12_readOne_30 rfl (lv_at hl 0 rfl) ?_
      refine va_get (D := (dC, dI)) (ci := 11) (v := .int (st10 0 13)) (C := RX12) (T := TX12) (N := 47) hx hb hts ii_X12_readOne hown hK hP 0 rfl rfl 13 (by decide) (hts _ mm_X12_readOne_3) (fun _ hh => hh) rfl dX12_readOne_31 ?_
      refine zz_top (v := (nI n4)) (by show st10 0 13 = _; rw [est10, up2_same]) ?_
      refine lv_iconst (v := (-1)) hx hb dX12_readOne_34 (by decide) ?_
      refine lv_icmp_ne (tgt := 44) hx hb dX12_readOne_35 (by decide) (fun _ => ?_) (fun cc => absurd cc (nI_nem (by omega)))
      refine lv_aload_n hx hb dX12_readOne_44 rfl (lv_at hl 0 rfl) ?_
      refine va_callv (va_runV (As := []) (rest := []) ⟨hx, hb, hml, hown, hts⟩ (m_go l dC dI ar cy _ hN st10 sl ga gb  hG.1 ((⟨by rw [est10, up2_ne (r := 0) (k := 13) (a := 0) (j := 5) _ _ (by omega), hT.1], by rw [est10, up2_ne (r := 0) (k := 13) (a := 0) (j := 3) _ _ (by omega), hT.2.1], by omega, by omega⟩ : TS st10 ga gb))) (cwV 0 hts gX12_readOne_X12_go rfl rfl rfl (by decide +kernel) ⟨Nat.le_of_ble_eq_true rfl, Nat.le_of_ble_eq_true rfl⟩) ⟨fun a U g mk q => ⟨q.1, mPre.blind q.2⟩, va_recv hK hP (ci := 11) (q0 := 0) rfl rfl, fun U hU hW => ⟨rfl, mPre.of hP hK hU hW⟩⟩ rfl rfl hl.1 rfl (lv_room (Nat.le_of_ble_eq_true rfl)) dX12_readOne_45 ⟨Nat.le_of_ble_eq_true rfl, Nat.le_of_ble_eq_true rfl⟩) hS (fun q _ h => MA.le hS.1 q h) (MA.le hS.1) (fun x t H locs ht hvm hw hB _ _ hS => ?_)
      have hP := mB.at ht hB
      clear hB ht hvm
      obtain ⟨st12, sl13⟩ := x
      obtain ⟨hG2, hL2, hw⟩ := hw
      have hL : LQ [7, 9] sl sl13 := hL.tr hL2 (by decide)
      clear hL2
      dsimp only at hw
      have hP : va_P (dC, dI) vwCl (mw ar cy st12 sl13) _ := hP
      have hG : MG [1, 2, 3, 6, 7, 8, 9, 10, 11, 12, 13, 14, 15, 19, 20, 21, 22] st st12 := hG.tr hG2 (by decide)
      have hGst12 : MG [1, 2, 3, 6, 7, 8, 9, 10, 11, 12, 13, 14, 15, 16, 19, 20, 21, 22, 23] st10 st12 := hG2
      clear hG2
      obtain ⟨n14, hf15, hf16, hf17⟩ := hw
      have hf15c := hf15.2.2.1
      have hf15d := hf15.2.2.2
      refine lv_iconst (v := 1) hx hb dX12_readOne_48 (by decide) ?_
      exact W.zret (v := 1) hx hb hr rfl (fun t ht hW => ⟨⟨1, (st12, sl13), rfl, ⟨hG, hL, Or.inl (⟨n14, n4, rfl, (show TS st12 n14 gb from ⟨by rw [hf15.1], by rw [hf15.2.1], by omega, by omega⟩), by omega, fun (hh : st12 0 7 = 4) => by have hk := hf17 (by exact hh); omega, by show st12 0 13 = (nI n4); rw [hGst12.2 0 13 (by decide), est10, up2_same], by omega⟩)⟩, mB.of ht hP⟩, hS.F ht⟩) hS.2.2 dX12_readOne_49
  · refine lv_if_ne (tgt := 13) hx hb dX12_readOne_4 (by decide) (fun cc => absurd (by decide) cc) (fun _ => ?_)
    refine lv_aload_n hx hb dX12_readOne_7 rfl (lv_at hl 0 rfl) ?_
    refine lv_iconst (v := 1) hx hb dX12_readOne_8 (by decide) ?_
    refine va_calli (va_runV (As := [.int 1]) (rest := []) ⟨hx, hb, hml, hown, hts⟩ (m_bad l dC dI ar cy _ hN st sl 1  hG.1) (cwV 1 hts gX12_readOne_X12_bad rfl rfl rfl (by decide +kernel) ⟨Nat.le_of_ble_eq_true rfl, Nat.le_of_ble_eq_true rfl⟩) ⟨fun a U g mk q => ⟨q.1, mPre.blind q.2⟩, va_recv hK hP (ci := 11) (q0 := 0) rfl rfl, fun U hU hW => ⟨rfl, mPre.of hP hK hU hW⟩⟩ rfl rfl hl.1 rfl (lv_room (Nat.le_of_ble_eq_true rfl)) dX12_readOne_9 ⟨Nat.le_of_ble_eq_true rfl, Nat.le_of_ble_eq_true rfl⟩) hS (fun q _ h => MA.le hS.1 q h) (MA.le hS.1) (fun r18 x t H locs ht hvm hw hB _ _ hS => ?_)
    have hP := mB.at ht hB
    clear hB ht hvm
    obtain ⟨st19, sl20⟩ := x
    obtain ⟨hG2, hL2, hw⟩ := hw
    have hL : LQ [7, 9] sl sl20 := hL.tr hL2 (by decide)
    clear hL2
    have hP : va_P (dC, dI) vwCl (mw ar cy st19 sl20) _ := hP
    have hG : MG [1, 2, 3, 6, 7, 8, 9, 10, 11, 12, 13, 14, 15, 19, 20, 21, 22] st st19 := hG.tr hG2 (by decide)
    have hGst19 : MG [1, 2, 3, 4, 5, 6, 7, 8, 9, 10, 11, 12, 13, 14, 15, 16, 17, 19, 20, 21, 22] st st19 := hG2
    clear hG2
    obtain rfl := hw
    exact W.zret (v := 0) hx hb hr rfl (fun t ht hW => ⟨⟨0, (st19, sl20), rfl, ⟨hG, hL, Or.inr (rfl)⟩, mB.of ht hP⟩, hS.F ht⟩) hS.2.2 dX12_readOne_12
set_option maxHeartbeats 4000000 in
set_option maxRecDepth 100000 in
theorem m_readOne5 (l : Launch) (dC : Nat → ClassId) (dI : Nat → Nat → Nat) (ar : Nat → Nat) (cy : Nat → ClassId) (sz : Nat) (hN : MN ar) (st : Nat → Nat → Int32) (sl : Nat → Nat → Int64) (vb : Nat) (ga gb : Nat) (hvb : vb < 9) (hI : MI st) (hT : TS st ga gb) : Met l yX12_readOne wsX12_readOne ({ frames := 3, cells := 0, slots := 0, locals := 69 }) (va_Pc [.ref (ar 0), .int 5, .int (nI vb)] (mPre dC dI ar cy sz st sl)) (va_Qi (fun (r : Int32) (x : MT) => MG [1, 2, 3, 6, 7, 8, 9, 10, 11, 12, 13, 14, 15, 19, 20, 21, 22] st x.1 ∧ LQ [7, 9] sl x.2 ∧ ((∃ g : Nat, ∃ n : Nat, r = 1 ∧ TS x.1 g gb ∧ ga ≤ g ∧ (x.1 0 7 = 4 → ga < g) ∧ x.1 0 13 = nI n ∧ n < 8) ∨ (r = 0))) (mB dC dI ar cy) (MA ar sz)) 0 0 (MA ar sz) := by
  refine Met.ofW (cc := cX12_readOne) (maxL := 3) (ret := (some .boolean)) (by decide) rfl ?_
  intro p e s m args below meth c s₁ B hml hv
  obtain ⟨rfl, hsz, hP, hK⟩ := hv
  have hx := B.exec
  have hb := B.bytes
  have hr := B.returns
  have hts := atoms_spec (ws := wsX12_readOne) B.pre
  have hown : s.vm.findClass RX12 = some m.cls := findClass_of_methodNamed B.named
  subst hsz
  have hS : va_S (MA ar s.heap.size) s.heap s.heap [] := va_S.rf
  have hG : MG [1, 2, 3, 6, 7, 8, 9, 10, 11, 12, 13, 14, 15, 19, 20, 21, 22] st st := MG.rf hI
  have hl := lv_entry ([.ref (ar 0), .int 5, .int (nI vb)]) (n := 3) (Nat.le_of_ble_eq_true rfl)
  rw [lg_entry_eq]
  generalize (lg_sl ([.ref (ar 0), .int 5, .int (nI vb)]) ++ List.replicate (3 - (lg_sl ([.ref (ar 0), .int 5, .int (nI vb)])).length) Slot.unset).toArray = ls at hl ⊢
  have hl : lv_has ls 3 [(0, .ref (ar 0)), (1, .int 5), (2, .int (nI vb))] := hl
  clear hI
  have hL : LQ [7, 9] sl sl := LQ.rf
  have hTc := hT.2.2.1
  have hTd := hT.2.2.2
  have hga : ga ≤ ga := Nat.le_refl ga
  refine lv_aload_n hx hb dX12_readOne_0 rfl (lv_at hl 0 rfl) ?_
  refine va_calli (va_runV (As := []) (rest := []) ⟨hx, hb, hml, hown, hts⟩ (m_isName l dC dI ar cy _ hN st sl  hG.1) (cwV 0 hts gX12_readOne_X12_isName rfl rfl rfl (by decide +kernel) ⟨Nat.le_of_ble_eq_true rfl, Nat.le_of_ble_eq_true rfl⟩) ⟨fun a U g mk q => ⟨q.1, mPre.blind q.2⟩, va_recv hK hP (ci := 11) (q0 := 0) rfl rfl, fun U hU hW => ⟨rfl, mPre.of hP hK hU hW⟩⟩ rfl rfl hl.1 rfl (lv_room (Nat.le_of_ble_eq_true rfl)) dX12_readOne_1 ⟨Nat.le_of_ble_eq_true rfl, Nat.le_of_ble_eq_true rfl⟩) hS (fun q _ h => MA.le hS.1 q h) (MA.le hS.1) (fun r1 x t H locs ht hvm hw hB _ _ hS => ?_)
  have hP := mB.at ht hB
  clear hB ht hvm
  obtain ⟨rfl, hw⟩ := hw
  have hP : va_P (dC, dI) vwCl (mw ar cy st sl) _ := hP
  rcases hw with rfl | rfl
  · refine lv_if_ne (tgt := 13) hx hb dX12_readOne_4 (by decide) (fun _ => ?_) (fun cc => absurd cc (by decide))
    refine lv_aload_n hx hb dX12_readOne_13 rfl (lv_at hl 0 rfl) ?_
    refine lv_aload_n hx hb dX12_readOne_14 rfl (lv_at hl 0 rfl) ?_
    refine va_get (D := (dC, dI)) (ci := 11) (v := .ref (ar 8)) (C := RX12) (T := TX12) (N := 47) hx hb hts ii_X12_readOne hown hK hP 0 rfl rfl 20 (by decide) (hts _ mm_X12_readOne_1) (fun _ hh => hh) rfl dX12_readOne_15 ?_
    refine lv_iload_n hx hb dX12_readOne_18 rfl (lv_at hl 1 rfl) ?_
    refine lv_iload_n hx hb dX12_readOne_19 rfl (lv_at hl 2 rfl) ?_
    refine lv_aload_n hx hb dX12_readOne_20 rfl (lv_at hl 0 rfl) ?_
    refine va_get (D := (dC, dI)) (ci := 11) (v := .long (sl 0 12)) (C := RX12) (T := TX12) (N := 47) hx hb hts ii_X12_readOne hown hK hP 0 rfl rfl 12 (by decide) (hts _ mm_X12_readOne_2) (fun _ hh => hh) rfl dX12_readOne_21 ?_
    refine lv_topl (fun z2 ez2 => ?_)
    clear ez2
    refine va_calli (va_runS (As := [.ref (ar 8), .int 5, .int (nI vb), .long z2]) (rest := [.ref (ar 0)]) ⟨hx, hb, hml, hown, hts⟩ (m_findIn8 l dC dI ar cy _ hN st sl 5 vb z2 (by omega) (by omega) hG.1 (by omega)) (va_cwS 4 hts gX12_readOne_X12_findIn rfl rfl rfl (by decide +kernel) ⟨Nat.le_of_ble_eq_true rfl, Nat.le_of_ble_eq_true rfl⟩) ⟨fun a U g mk q => ⟨q.1, mPre.blind q.2⟩, fun U hU hW => ⟨rfl, mPre.of hP hK hU hW⟩⟩ rfl rfl hl.1 rfl (lv_room (Nat.le_of_ble_eq_true rfl)) dX12_readOne_24 ⟨Nat.le_of_ble_eq_true rfl, Nat.le_of_ble_eq_true rfl⟩) hS (fun q _ h => MA.le hS.1 q h) (MA.le hS.1) (fun r3 x t H locs ht hvm hw hB _ _ hS => ?_)
    have hP := mB.at ht hB
    clear hB ht hvm
    obtain ⟨rfl, hw⟩ := hw
    have hP : va_P (dC, dI) vwCl (mw ar cy st sl) _ := hP
    rcases hw with rfl | ⟨n4, rfl, hf5⟩
    · refine va_put (D := (dC, dI)) (ci := 11) (v := .int (-1)) (ty := .int) (C := RX12) (T := TX12) (N := 47) hx hb hts ii_X12_readOne tyX12 tyX12_ok nmX12 hown hK hP (mD hN _ _ _ _) hS 0 rfl rfl 13 (by decide) (hts _ mm_X12_readOne_3) (fun _ hh => hh) rfl (by decide +kernel) rfl rfl (Nat.le_of_ble_eq_true rfl) dX12_readOne_27 (fun H locs hP _ hS => ?_)
      have hP : va_P (dC, dI) vwCl (mw ar cy (up2 st 0 13 (-1)) sl) H := hP
      obtain ⟨st6, est6⟩ : ∃ y, y = up2 st 0 13 (-1) := ⟨_, rfl⟩
      have hG : MG [1, 2, 3, 6, 7, 8, 9, 10, 11, 12, 13, 14, 15, 19, 20, 21, 22] st st6 := by rw [est6]; exact hG.up (rz (by decide : mr 0 13 = 0)) (pn (by decide : pcl 0 13 = 16) (by decide))
      rw [← est6] at hP
      refine lv_aload_n hx hb dX12_readOne_30 rfl (lv_at hl 0 rfl) ?_
      refine va_get (D := (dC, dI)) (ci := 11) (v := .int (st6 0 13)) (C := RX12) (T := TX12) (N := 47) hx hb hts ii_X12_readOne hown hK hP 0 rfl rfl 13 (by decide) (hts _ mm_X12_readOne_3) (fun _ hh => hh) rfl dX12_readOne_31 ?_
      refine zz_top (v := (-1)) (by show st6 0 13 = _; rw [est6, up2_same]) ?_
      refine lv_iconst (v := (-1)) hx hb dX12_readOne_34 (by decide) ?_
      refine lv_icmp_ne (tgt := 44) hx hb dX12_readOne_35 (by decide) (fun cc => absurd (by decide) cc) (fun _ => ?_)
      refine lv_aload_n hx hb dX12_readOne_38 rfl (lv_at hl 0 rfl) ?_
      refine lv_iconst (v := 3) hx hb dX12_readOne_39 (by decide) ?_
      refine va_calli (va_runV (As := [.int 3]) (rest := []) ⟨hx, hb, hml, hown, hts⟩ (m_bad l dC dI ar cy _ hN st6 sl 3  hG.1) (cwV 1 hts gX12_readOne_X12_bad rfl rfl rfl (by decide +kernel) ⟨Nat.le_of_ble_eq_true rfl, Nat.le_of_ble_eq_true rfl⟩) ⟨fun a U g mk q => ⟨q.1, mPre.blind q.2⟩, va_recv hK hP (ci := 11) (q0 := 0) rfl rfl, fun U hU hW => ⟨rfl, mPre.of hP hK hU hW⟩⟩ rfl rfl hl.1 rfl (lv_room (Nat.le_of_ble_eq_true rfl)) dX12_readOne_40 ⟨Nat.le_of_ble_eq_true rfl, Nat.le_of_ble_eq_true rfl⟩) hS (fun q _ h => MA.le hS.1 q h) (MA.le hS.1) (fun r7 x t H locs ht hvm hw hB _ _ hS => ?_)
      have hP := mB.at ht hB
      clear hB ht hvm
      obtain ⟨st8, sl9⟩ := x
      obtain ⟨hG2, hL2, hw⟩ := hw
      have hL : LQ [7, 9] sl sl9 := hL.tr hL2 (by decide)
      clear hL2
      have hP : va_P (dC, dI) vwCl (mw ar cy st8 sl9) _ := hP
      have hG : MG [1, 2, 3, 6, 7, 8, 9, 10, 11, 12, 13, 14, 15, 19, 20, 21, 22] st st8 := hG.tr hG2 (by decide)
      have hGst8 : MG [1, 2, 3, 4, 5, 6, 7, 8, 9, 10, 11, 12, 13, 14, 15, 16, 17, 19, 20, 21, 22] st6 st8 := hG2
      clear hG2
      obtain rfl := hw
      exact W.zret (v := 0) hx hb hr rfl (fun t ht hW => ⟨⟨0, (st8, sl9), rfl, ⟨hG, hL, Or.inr (rfl)⟩, mB.of ht hP⟩, hS.F ht⟩) hS.2.2 dX12_readOne_43
    · refine va_put (D := (dC, dI)) (ci := 11) (v := .int (nI n4)) (ty := .int) (C := RX12) (T := TX12) (N := 47) hx hb hts ii_X12_readOne tyX12 tyX12_ok nmX12 hown hK hP (mD hN _ _ _ _) hS 0 rfl rfl 13 (by decide) (hts _ mm_X12_readOne_3) (fun _ hh => hh) rfl (by decide +kernel) rfl rfl (Nat.le_of_ble_eq_true rfl) dX12_readOne_27 (fun H locs hP _ hS => ?_)
      have hP : va_P (dC, dI) vwCl (mw ar cy (up2 st 0 13 (nI n4)) sl) H := hP
      obtain ⟨st10, est10⟩ : ∃ y, y = up2 st 0 13 (nI n4) := ⟨_, rfl⟩
      have hG : MG [1, 2, 3, 6, 7, 8, 9, 10, 11, 12, 13, 14, 15, 19, 20, 21, 22] st st10 := by rw [est10]; exact hG.up (rz (by decide : mr 0 13 = 0)) (pn (by decide : pcl 0 13 = 16) (by decide))
      rw [← est10] at hP
      refine lv_aload_n hx hb dX12_readOne_30 rfl (lv_at hl 0 rfl) ?_
      refine va_get (D := (dC, dI)) (ci := 11) (v := .int (st10 0 13)) (C := RX12) (T := TX12) (N := 47) hx hb hts ii_X12_readOne hown hK hP 0 rfl rfl 13 (by decide) (hts _ mm_X12_readOne_3) (fun _ hh => hh) rfl dX12_readOne_31 ?_
      refine zz_top (v := (nI n4)) (by show st10 0 13 = _; rw [est10, up2_same]) ?_
      refine lv_iconst (v := (-1)) hx hb dX12_readOne_34 (by decide) ?_
      refine lv_icmp_ne (tgt := 44) hx hb dX12_readOne_35 (by decide) (fun _ => ?_) (fun cc => absurd cc (nI_nem (by omega)))
      refine lv_aload_n hx hb dX12_readOne_44 rfl (lv_at hl 0 rfl) ?_
      refine va_callv (va_runV (As := []) (rest := []) ⟨hx, hb, hml, hown, hts⟩ (m_go l dC dI ar cy _ hN st10 sl ga gb  hG.1 ((⟨by rw [est10, up2_ne (r := 0) (k := 13) (a := 0) (j := 5) _ _ (by omega), hT.1], by rw [est10, up2_ne (r := 0) (k := 13) (a := 0) (j := 3) _ _ (by omega), hT.2.1], by omega, by omega⟩ : TS st10 ga gb))) (cwV 0 hts gX12_readOne_X12_go rfl rfl rfl (by decide +kernel) ⟨Nat.le_of_ble_eq_true rfl, Nat.le_of_ble_eq_true rfl⟩) ⟨fun a U g mk q => ⟨q.1, mPre.blind q.2⟩, va_recv hK hP (ci := 11) (q0 := 0) rfl rfl, fun U hU hW => ⟨rfl, mPre.of hP hK hU hW⟩⟩ rfl rfl hl.1 rfl (lv_room (Nat.le_of_ble_eq_true rfl)) dX12_readOne_45 ⟨Nat.le_of_ble_eq_true rfl, Nat.le_of_ble_eq_true rfl⟩) hS (fun q _ h => MA.le hS.1 q h) (MA.le hS.1) (fun x t H locs ht hvm hw hB _ _ hS => ?_)
      have hP := mB.at ht hB
      clear hB ht hvm
      obtain ⟨st12, sl13⟩ := x
      obtain ⟨hG2, hL2, hw⟩ := hw
      have hL : LQ [7, 9] sl sl13 := hL.tr hL2 (by decide)
      clear hL2
      dsimp only at hw
      have hP : va_P (dC, dI) vwCl (mw ar cy st12 sl13) _ := hP
      have hG : MG [1, 2, 3, 6, 7, 8, 9, 10, 11, 12, 13, 14, 15, 19, 20, 21, 22] st st12 := hG.tr hG2 (by decide)
      have hGst12 : MG [1, 2, 3, 6, 7, 8, 9, 10, 11, 12, 13, 14, 15, 16, 19, 20, 21, 22, 23] st10 st12 := hG2
      clear hG2
      obtain ⟨n14, hf15, hf16, hf17⟩ := hw
      have hf15c := hf15.2.2.1
      have hf15d := hf15.2.2.2
      refine lv_iconst (v := 1) hx hb dX12_readOne_48 (by decide) ?_
      exact W.zret (v := 1) hx hb hr rfl (fun t ht hW => ⟨⟨1, (st12, sl13), rfl, ⟨hG, hL, Or.inl (⟨n14, n4, rfl, (show TS st12 n14 gb from ⟨by rw [hf15.1], by rw [hf15.2.1], by omega, by omega⟩), by omega, fun (hh : st12 0 7 = 4) => by have hk := hf17 (by exact hh); omega, by show st12 0 13 = (nI n4); rw [hGst12.2 0 13 (by decide), est10, up2_same], by omega⟩)⟩, mB.of ht hP⟩, hS.F ht⟩) hS.2.2 dX12_readOne_49
  · refine lv_if_ne (tgt := 13) hx hb dX12_readOne_4 (by decide) (fun cc => absurd (by decide) cc) (fun _ => ?_)
    refine lv_aload_n hx hb dX12_readOne_7 rfl (lv_at hl 0 rfl) ?_
    refine lv_iconst (v := 1) hx hb dX12_readOne_8 (by decide) ?_
    refine va_calli (va_runV (As := [.int 1]) (rest := []) ⟨hx, hb, hml, hown, hts⟩ (m_bad l dC dI ar cy _ hN st sl 1  hG.1) (cwV 1 hts gX12_readOne_X12_bad rfl rfl rfl (by decide +kernel) ⟨Nat.le_of_ble_eq_true rfl, Nat.le_of_ble_eq_true rfl⟩) ⟨fun a U g mk q => ⟨q.1, mPre.blind q.2⟩, va_recv hK hP (ci := 11) (q0 := 0) rfl rfl, fun U hU hW => ⟨rfl, mPre.of hP hK hU hW⟩⟩ rfl rfl hl.1 rfl (lv_room (Nat.le_of_ble_eq_true rfl)) dX12_readOne_9 ⟨Nat.le_of_ble_eq_true rfl, Nat.le_of_ble_eq_true rfl⟩) hS (fun q _ h => MA.le hS.1 q h) (MA.le hS.1) (fun r18 x t H locs ht hvm hw hB _ _ hS => ?_)
    have hP := mB.at ht hB
    clear hB ht hvm
    obtain ⟨st19, sl20⟩ := x
    obtain ⟨hG2, hL2, hw⟩ := hw
    have hL : LQ [7, 9] sl sl20 := hL.tr hL2 (by decide)
    clear hL2
    have hP : va_P (dC, dI) vwCl (mw ar cy st19 sl20) _ := hP
    have hG : MG [1, 2, 3, 6, 7, 8, 9, 10, 11, 12, 13, 14, 15, 19, 20, 21, 22] st st19 := hG.tr hG2 (by decide)
    have hGst19 : MG [1, 2, 3, 4, 5, 6, 7, 8, 9, 10, 11, 12, 13, 14, 15, 16, 17, 19, 20, 21, 22] st st19 := hG2
    clear hG2
    obtain rfl := hw
    exact W.zret (v := 0) hx hb hr rfl (fun t ht hW => ⟨⟨0, (st19, sl20), rfl, ⟨hG, hL, Or.inr (rfl)⟩, mB.of ht hP⟩, hS.F ht⟩) hS.2.2 dX12_readOne_12
set_option maxHeartbeats 4000000 in
set_option maxRecDepth 100000 in
theorem m_readFirst0 (l : Launch) (dC : Nat → ClassId) (dI : Nat → Nat → Nat) (ar : Nat → Nat) (cy : Nat → ClassId) (sz : Nat) (hN : MN ar) (st : Nat → Nat → Int32) (sl : Nat → Nat → Int64) (ga gb : Nat) (hI : MI st) (hT : TS st ga gb) : Met l yX12_readFirst wsX12_readFirst ({ frames := 2, cells := 0, slots := 0, locals := 45 }) (va_Pc [.ref (ar 0), .int 0, .int 5] (mPre dC dI ar cy sz st sl)) (va_Qi (fun (r : Int32) (x : MT) => MG [1, 2, 3, 6, 7, 8, 9, 10, 11, 12, 13, 14, 15, 19, 20, 21, 22] st x.1 ∧ LQ [7, 9] sl x.2 ∧ ((∃ g : Nat, ∃ n : Nat, r = 1 ∧ TS x.1 g gb ∧ ga ≤ g ∧ (x.1 0 7 = 4 → ga < g) ∧ x.1 3 0 = nI n ∧ n < 5) ∨ (r = 0))) (mB dC dI ar cy) (MA ar sz)) 0 0 (MA ar sz) := by
  refine Met.ofW (cc := cX12_readFirst) (maxL := 3) (ret := (some .boolean)) (by decide) rfl ?_
  intro p e s m args below meth c s₁ B hml hv
  obtain ⟨rfl, hsz, hP, hK⟩ := hv
  have hx := B.exec
  have hb := B.bytes
  have hr := B.returns
  have hts := atoms_spec (ws := wsX12_readFirst) B.pre
  have hown : s.vm.findClass RX12 = some m.cls := findClass_of_methodNamed B.named
  subst hsz
  have hS : va_S (MA ar s.heap.size) s.heap s.heap [] := va_S.rf
  have hG : MG [1, 2, 3, 6, 7, 8, 9, 10, 11, 12, 13, 14, 15, 19, 20, 21, 22] st st := MG.rf hI
  have hl := lv_entry ([.ref (ar 0), .int 0, .int 5]) (n := 3) (Nat.le_of_ble_eq_true rfl)
  rw [lg_entry_eq]
  generalize (lg_sl ([.ref (ar 0), .int 0, .int 5]) ++ List.replicate (3 - (lg_sl ([.ref (ar 0), .int 0, .int 5])).length) Slot.unset).toArray = ls at hl ⊢
  have hl : lv_has ls 3 [(0, .ref (ar 0)), (1, .int 0), (2, .int 5)] := hl
  clear hI
  have hL : LQ [7, 9] sl sl := LQ.rf
  have hTc := hT.2.2.1
  have hTd := hT.2.2.2
  have hga : ga ≤ ga := Nat.le_refl ga
  refine lv_aload_n hx hb dX12_readFirst_0 rfl (lv_at hl 0 rfl) ?_
  refine va_get (D := (dC, dI)) (ci := 11) (v := .ref (ar 3)) (C := RX12) (T := TX12) (N := 47) hx hb hts ii_X12_readFirst hown hK hP 0 rfl rfl 15 (by decide) (hts _ mm_X12_readFirst_1) (fun _ hh => hh) rfl dX12_readFirst_1 ?_
  refine lv_iload_n hx hb dX12_readFirst_4 rfl (lv_at hl 1 rfl) ?_
  refine va_iald hx hb hK hP 3 2 rfl rfl (i := 0) (zz_in (by decide)) dX12_readFirst_5 ?_
  obtain ⟨n1, hn1, en1⟩ := hG.1.at (r := 3) (k := 0) (by decide : mr 3 0 = 6) (by decide)
  refine zz_top (v := nI n1) (by exact en1) ?_
  refine lv_iload_n hx hb dX12_readFirst_6 rfl (lv_at hl 2 rfl) ?_
  refine lv_icmp_ne (tgt := 16) hx hb dX12_readFirst_7 (by decide) (fun c1 => ?_) (fun c1 => ?_)
  · have c1 : ¬ n1 = 5 := fun hh => c1 ((nI_eq (a := n1) (b := 5) (by omega) (by omega)).mpr hh)
    refine lv_aload_n hx hb dX12_readFirst_16 rfl (lv_at hl 0 rfl) ?_
    refine va_callv (va_runV (As := []) (rest := []) ⟨hx, hb, hml, hown, hts⟩ (m_go l dC dI ar cy _ hN st sl ga gb  hG.1 ((⟨by rw [hT.1], by rw [hT.2.1], by omega, by omega⟩ : TS st ga gb))) (cwV 0 hts gX12_readFirst_X12_go rfl rfl rfl (by decide +kernel) ⟨Nat.le_of_ble_eq_true rfl, Nat.le_of_ble_eq_true rfl⟩) ⟨fun a U g mk q => ⟨q.1, mPre.blind q.2⟩, va_recv hK hP (ci := 11) (q0 := 0) rfl rfl, fun U hU hW => ⟨rfl, mPre.of hP hK hU hW⟩⟩ rfl rfl hl.1 rfl (lv_room (Nat.le_of_ble_eq_true rfl)) dX12_readFirst_17 ⟨Nat.le_of_ble_eq_true rfl, Nat.le_of_ble_eq_true rfl⟩) hS (fun q _ h => MA.le hS.1 q h) (MA.le hS.1) (fun x t H locs ht hvm hw hB _ _ hS => ?_)
    have hP := mB.at ht hB
    clear hB ht hvm
    obtain ⟨st3, sl4⟩ := x
    obtain ⟨hG2, hL2, hw⟩ := hw
    have hL : LQ [7, 9] sl sl4 := hL.tr hL2 (by decide)
    clear hL2
    dsimp only at hw
    have hP : va_P (dC, dI) vwCl (mw ar cy st3 sl4) _ := hP
    have hG : MG [1, 2, 3, 6, 7, 8, 9, 10, 11, 12, 13, 14, 15, 19, 20, 21, 22] st st3 := hG.tr hG2 (by decide)
    have hGst3 : MG [1, 2, 3, 6, 7, 8, 9, 10, 11, 12, 13, 14, 15, 16, 19, 20, 21, 22, 23] st st3 := hG2
    clear hG2
    obtain ⟨n5, hf6, hf7, hf8⟩ := hw
    have hf6c := hf6.2.2.1
    have hf6d := hf6.2.2.2
    refine lv_iconst (v := 1) hx hb dX12_readFirst_20 (by decide) ?_
    exact W.zret (v := 1) hx hb hr rfl (fun t ht hW => ⟨⟨1, (st3, sl4), rfl, ⟨hG, hL, Or.inl (⟨n5, n1, rfl, (show TS st3 n5 gb from ⟨by rw [hf6.1], by rw [hf6.2.1], by omega, by omega⟩), by omega, fun (hh : st3 0 7 = 4) => by have hk := hf8 (by exact hh); omega, by show st3 3 0 = (nI n1); rw [hGst3.2 3 0 (by decide), en1], by omega⟩)⟩, mB.of ht hP⟩, hS.F ht⟩) hS.2.2 dX12_readFirst_21
  · have c1 : n1 = 5 := (nI_eq (a := n1) (b := 5) (by omega) (by omega)).mp c1
    refine lv_aload_n hx hb dX12_readFirst_10 rfl (lv_at hl 0 rfl) ?_
    refine lv_iconst (v := 4) hx hb dX12_readFirst_11 (by decide) ?_
    refine va_calli (va_runV (As := [.int 4]) (rest := []) ⟨hx, hb, hml, hown, hts⟩ (m_bad l dC dI ar cy _ hN st sl 4  hG.1) (cwV 1 hts gX12_readFirst_X12_bad rfl rfl rfl (by decide +kernel) ⟨Nat.le_of_ble_eq_true rfl, Nat.le_of_ble_eq_true rfl⟩) ⟨fun a U g mk q => ⟨q.1, mPre.blind q.2⟩, va_recv hK hP (ci := 11) (q0 := 0) rfl rfl, fun U hU hW => ⟨rfl, mPre.of hP hK hU hW⟩⟩ rfl rfl hl.1 rfl (lv_room (Nat.le_of_ble_eq_true rfl)) dX12_readFirst_12 ⟨Nat.le_of_ble_eq_true rfl, Nat.le_of_ble_eq_true rfl⟩) hS (fun q _ h => MA.le hS.1 q h) (MA.le hS.1) (fun r9 x t H locs ht hvm hw hB _ _ hS => ?_)
    have hP := mB.at ht hB
    clear hB ht hvm
    obtain ⟨st10, sl11⟩ := x
    obtain ⟨hG2, hL2, hw⟩ := hw
    have hL : LQ [7, 9] sl sl11 := hL.tr hL2 (by decide)
    clear hL2
    have hP : va_P (dC, dI) vwCl (mw ar cy st10 sl11) _ := hP
    have hG : MG [1, 2, 3, 6, 7, 8, 9, 10, 11, 12, 13, 14, 15, 19, 20, 21, 22] st st10 := hG.tr hG2 (by decide)
    have hGst10 : MG [1, 2, 3, 4, 5, 6, 7, 8, 9, 10, 11, 12, 13, 14, 15, 16, 17, 19, 20, 21, 22] st st10 := hG2
    clear hG2
    obtain rfl := hw
    exact W.zret (v := 0) hx hb hr rfl (fun t ht hW => ⟨⟨0, (st10, sl11), rfl, ⟨hG, hL, Or.inr (rfl)⟩, mB.of ht hP⟩, hS.F ht⟩) hS.2.2 dX12_readFirst_15
set_option maxHeartbeats 4000000 in
set_option maxRecDepth 100000 in
theorem m_readFirst1 (l : Launch) (dC : Nat → ClassId) (dI : Nat → Nat → Nat) (ar : Nat → Nat) (cy : Nat → ClassId) (sz : Nat) (hN : MN ar) (st : Nat → Nat → Int32) (sl : Nat → Nat → Int64) (ga gb : Nat) (hI : MI st) (hT : TS st ga gb) : Met l yX12_readFirst wsX12_readFirst ({ frames := 2, cells := 0, slots := 0, locals := 45 }) (va_Pc [.ref (ar 0), .int 1, .int 8] (mPre dC dI ar cy sz st sl)) (va_Qi (fun (r : Int32) (x : MT) => MG [1, 2, 3, 6, 7, 8, 9, 10, 11, 12, 13, 14, 15, 19, 20, 21, 22] st x.1 ∧ LQ [7, 9] sl x.2 ∧ ((∃ g : Nat, ∃ n : Nat, r = 1 ∧ TS x.1 g gb ∧ ga ≤ g ∧ (x.1 0 7 = 4 → ga < g) ∧ x.1 3 1 = nI n ∧ n < 8) ∨ (r = 0))) (mB dC dI ar cy) (MA ar sz)) 0 0 (MA ar sz) := by
  refine Met.ofW (cc := cX12_readFirst) (maxL := 3) (ret := (some .boolean)) (by decide) rfl ?_
  intro p e s m args below meth c s₁ B hml hv
  obtain ⟨rfl, hsz, hP, hK⟩ := hv
  have hx := B.exec
  have hb := B.bytes
  have hr := B.returns
  have hts := atoms_spec (ws := wsX12_readFirst) B.pre
  have hown : s.vm.findClass RX12 = some m.cls := findClass_of_methodNamed B.named
  subst hsz
  have hS : va_S (MA ar s.heap.size) s.heap s.heap [] := va_S.rf
  have hG : MG [1, 2, 3, 6, 7, 8, 9, 10, 11, 12, 13, 14, 15, 19, 20, 21, 22] st st := MG.rf hI
  have hl := lv_entry ([.ref (ar 0), .int 1, .int 8]) (n := 3) (Nat.le_of_ble_eq_true rfl)
  rw [lg_entry_eq]
  generalize (lg_sl ([.ref (ar 0), .int 1, .int 8]) ++ List.replicate (3 - (lg_sl ([.ref (ar 0), .int 1, .int 8])).length) Slot.unset).toArray = ls at hl ⊢
  have hl : lv_has ls 3 [(0, .ref (ar 0)), (1, .int 1), (2, .int 8)] := hl
  clear hI
  have hL : LQ [7, 9] sl sl := LQ.rf
  have hTc := hT.2.2.1
  have hTd := hT.2.2.2
  have hga : ga ≤ ga := Nat.le_refl ga
  refine lv_aload_n hx hb dX12_readFirst_0 rfl (lv_at hl 0 rfl) ?_
  refine va_get (D := (dC, dI)) (ci := 11) (v := .ref (ar 3)) (C := RX12) (T := TX12) (N := 47) hx hb hts ii_X12_readFirst hown hK hP 0 rfl rfl 15 (by decide) (hts _ mm_X12_readFirst_1) (fun _ hh => hh) rfl dX12_readFirst_1 ?_
  refine lv_iload_n hx hb dX12_readFirst_4 rfl (lv_at hl 1 rfl) ?_
  refine va_iald hx hb hK hP 3 2 rfl rfl (i := 1) (zz_in (by decide)) dX12_readFirst_5 ?_
  obtain ⟨n1, hn1, en1⟩ := hG.1.at (r := 3) (k := 1) (by decide : mr 3 1 = 9) (by decide)
  refine zz_top (v := nI n1) (by exact en1) ?_
  refine lv_iload_n hx hb dX12_readFirst_6 rfl (lv_at hl 2 rfl) ?_
  refine lv_icmp_ne (tgt := 16) hx hb dX12_readFirst_7 (by decide) (fun c1 => ?_) (fun c1 => ?_)
  · have c1 : ¬ n1 = 8 := fun hh => c1 ((nI_eq (a := n1) (b := 8) (by omega) (by omega)).mpr hh)
    refine lv_aload_n hx hb dX12_readFirst_16 rfl (lv_at hl 0 rfl) ?_
    refine va_callv (va_runV (As := []) (rest := []) ⟨hx, hb, hml, hown, hts⟩ (m_go l dC dI ar cy _ hN st sl ga gb  hG.1 ((⟨by rw [hT.1], by rw [hT.2.1], by omega, by omega⟩ : TS st ga gb))) (cwV 0 hts gX12_readFirst_X12_go rfl rfl rfl (by decide +kernel) ⟨Nat.le_of_ble_eq_true rfl, Nat.le_of_ble_eq_true rfl⟩) ⟨fun a U g mk q => ⟨q.1, mPre.blind q.2⟩, va_recv hK hP (ci := 11) (q0 := 0) rfl rfl, fun U hU hW => ⟨rfl, mPre.of hP hK hU hW⟩⟩ rfl rfl hl.1 rfl (lv_room (Nat.le_of_ble_eq_true rfl)) dX12_readFirst_17 ⟨Nat.le_of_ble_eq_true rfl, Nat.le_of_ble_eq_true rfl⟩) hS (fun q _ h => MA.le hS.1 q h) (MA.le hS.1) (fun x t H locs ht hvm hw hB _ _ hS => ?_)
    have hP := mB.at ht hB
    clear hB ht hvm
    obtain ⟨st3, sl4⟩ := x
    obtain ⟨hG2, hL2, hw⟩ := hw
    have hL : LQ [7, 9] sl sl4 := hL.tr hL2 (by decide)
    clear hL2
    dsimp only at hw
    have hP : va_P (dC, dI) vwCl (mw ar cy st3 sl4) _ := hP
    have hG : MG [1, 2, 3, 6, 7, 8, 9, 10, 11, 12, 13, 14, 15, 19, 20, 21, 22] st st3 := hG.tr hG2 (by decide)
    have hGst3 : MG [1, 2, 3, 6, 7, 8, 9, 10, 11, 12, 13, 14, 15, 16, 19, 20, 21, 22, 23] st st3 := hG2
    clear hG2
    obtain ⟨n5, hf6, hf7, hf8⟩ := hw
    have hf6c := hf6.2.2.1
    have hf6d := hf6.2.2.2
    refine lv_iconst (v := 1) hx hb dX12_readFirst_20 (by decide) ?_
    exact W.zret (v := 1) hx hb hr rfl (fun t ht hW => ⟨⟨1, (st3, sl4), rfl, ⟨hG, hL, Or.inl (⟨n5, n1, rfl, (show TS st3 n5 gb from ⟨by rw [hf6.1], by rw [hf6.2.1], by omega, by omega⟩), by omega, fun (hh : st3 0 7 = 4) => by have hk := hf8 (by exact hh); omega, by show st3 3 1 = (nI n1); rw [hGst3.2 3 1 (by decide), en1], by omega⟩)⟩, mB.of ht hP⟩, hS.F ht⟩) hS.2.2 dX12_readFirst_21
  · have c1 : n1 = 8 := (nI_eq (a := n1) (b := 8) (by omega) (by omega)).mp c1
    refine lv_aload_n hx hb dX12_readFirst_10 rfl (lv_at hl 0 rfl) ?_
    refine lv_iconst (v := 4) hx hb dX12_readFirst_11 (by decide) ?_
    refine va_calli (va_runV (As := [.int 4]) (rest := []) ⟨hx, hb, hml, hown, hts⟩ (m_bad l dC dI ar cy _ hN st sl 4  hG.1) (cwV 1 hts gX12_readFirst_X12_bad rfl rfl rfl (by decide +kernel) ⟨Nat.le_of_ble_eq_true rfl, Nat.le_of_ble_eq_true rfl⟩) ⟨fun a U g mk q => ⟨q.1, mPre.blind q.2⟩, va_recv hK hP (ci := 11) (q0 := 0) rfl rfl, fun U hU hW => ⟨rfl, mPre.of hP hK hU hW⟩⟩ rfl rfl hl.1 rfl (lv_room (Nat.le_of_ble_eq_true rfl)) dX12_readFirst_12 ⟨Nat.le_of_ble_eq_true rfl, Nat.le_of_ble_eq_true rfl⟩) hS (fun q _ h => MA.le hS.1 q h) (MA.le hS.1) (fun r9 x t H locs ht hvm hw hB _ _ hS => ?_)
    have hP := mB.at ht hB
    clear hB ht hvm
    obtain ⟨st10, sl11⟩ := x
    obtain ⟨hG2, hL2, hw⟩ := hw
    have hL : LQ [7, 9] sl sl11 := hL.tr hL2 (by decide)
    clear hL2
    have hP : va_P (dC, dI) vwCl (mw ar cy st10 sl11) _ := hP
    have hG : MG [1, 2, 3, 6, 7, 8, 9, 10, 11, 12, 13, 14, 15, 19, 20, 21, 22] st st10 := hG.tr hG2 (by decide)
    have hGst10 : MG [1, 2, 3, 4, 5, 6, 7, 8, 9, 10, 11, 12, 13, 14, 15, 16, 17, 19, 20, 21, 22] st st10 := hG2
    clear hG2
    obtain rfl := hw
    exact W.zret (v := 0) hx hb hr rfl (fun t ht hW => ⟨⟨0, (st10, sl11), rfl, ⟨hG, hL, Or.inr (rfl)⟩, mB.of ht hP⟩, hS.F ht⟩) hS.2.2 dX12_readFirst_15
set_option maxHeartbeats 4000000 in
set_option maxRecDepth 100000 in
theorem m_readFirst2 (l : Launch) (dC : Nat → ClassId) (dI : Nat → Nat → Nat) (ar : Nat → Nat) (cy : Nat → ClassId) (sz : Nat) (hN : MN ar) (st : Nat → Nat → Int32) (sl : Nat → Nat → Int64) (ga gb : Nat) (hI : MI st) (hT : TS st ga gb) : Met l yX12_readFirst wsX12_readFirst ({ frames := 2, cells := 0, slots := 0, locals := 45 }) (va_Pc [.ref (ar 0), .int 2, .int 6] (mPre dC dI ar cy sz st sl)) (va_Qi (fun (r : Int32) (x : MT) => MG [1, 2, 3, 6, 7, 8, 9, 10, 11, 12, 13, 14, 15, 19, 20, 21, 22] st x.1 ∧ LQ [7, 9] sl x.2 ∧ ((∃ g : Nat, ∃ n : Nat, r = 1 ∧ TS x.1 g gb ∧ ga ≤ g ∧ (x.1 0 7 = 4 → ga < g) ∧ x.1 3 2 = nI n ∧ n < 6) ∨ (r = 0))) (mB dC dI ar cy) (MA ar sz)) 0 0 (MA ar sz) := by
  refine Met.ofW (cc := cX12_readFirst) (maxL := 3) (ret := (some .boolean)) (by decide) rfl ?_
  intro p e s m args below meth c s₁ B hml hv
  obtain ⟨rfl, hsz, hP, hK⟩ := hv
  have hx := B.exec
  have hb := B.bytes
  have hr := B.returns
  have hts := atoms_spec (ws := wsX12_readFirst) B.pre
  have hown : s.vm.findClass RX12 = some m.cls := findClass_of_methodNamed B.named
  subst hsz
  have hS : va_S (MA ar s.heap.size) s.heap s.heap [] := va_S.rf
  have hG : MG [1, 2, 3, 6, 7, 8, 9, 10, 11, 12, 13, 14, 15, 19, 20, 21, 22] st st := MG.rf hI
  have hl := lv_entry ([.ref (ar 0), .int 2, .int 6]) (n := 3) (Nat.le_of_ble_eq_true rfl)
  rw [lg_entry_eq]
  generalize (lg_sl ([.ref (ar 0), .int 2, .int 6]) ++ List.replicate (3 - (lg_sl ([.ref (ar 0), .int 2, .int 6])).length) Slot.unset).toArray = ls at hl ⊢
  have hl : lv_has ls 3 [(0, .ref (ar 0)), (1, .int 2), (2, .int 6)] := hl
  clear hI
  have hL : LQ [7, 9] sl sl := LQ.rf
  have hTc := hT.2.2.1
  have hTd := hT.2.2.2
  have hga : ga ≤ ga := Nat.le_refl ga
  refine lv_aload_n hx hb dX12_readFirst_0 rfl (lv_at hl 0 rfl) ?_
  refine va_get (D := (dC, dI)) (ci := 11) (v := .ref (ar 3)) (C := RX12) (T := TX12) (N := 47) hx hb hts ii_X12_readFirst hown hK hP 0 rfl rfl 15 (by decide) (hts _ mm_X12_readFirst_1) (fun _ hh => hh) rfl dX12_readFirst_1 ?_
  refine lv_iload_n hx hb dX12_readFirst_4 rfl (lv_at hl 1 rfl) ?_
  refine va_iald hx hb hK hP 3 2 rfl rfl (i := 2) (zz_in (by decide)) dX12_readFirst_5 ?_
  obtain ⟨n1, hn1, en1⟩ := hG.1.at (r := 3) (k := 2) (by decide : mr 3 2 = 7) (by decide)
  refine zz_top (v := nI n1) (by exact en1) ?_
  refine lv_iload_n hx hb dX12_readFirst_6 rfl (lv_at hl 2 rfl) ?_
  refine lv_icmp_ne (tgt := 16) hx hb dX12_readFirst_7 (by decide) (fun c1 => ?_) (fun c1 => ?_)
  · have c1 : ¬ n1 = 6 := fun hh => c1 ((nI_eq (a := n1) (b := 6) (by omega) (by omega)).mpr hh)
    refine lv_aload_n hx hb dX12_readFirst_16 rfl (lv_at hl 0 rfl) ?_
    refine va_callv (va_runV (As := []) (rest := []) ⟨hx, hb, hml, hown, hts⟩ (m_go l dC dI ar cy _ hN st sl ga gb  hG.1 ((⟨by rw [hT.1], by rw [hT.2.1], by omega, by omega⟩ : TS st ga gb))) (cwV 0 hts gX12_readFirst_X12_go rfl rfl rfl (by decide +kernel) ⟨Nat.le_of_ble_eq_true rfl, Nat.le_of_ble_eq_true rfl⟩) ⟨fun a U g mk q => ⟨q.1, mPre.blind q.2⟩, va_recv hK hP (ci := 11) (q0 := 0) rfl rfl, fun U hU hW => ⟨rfl, mPre.of hP hK hU hW⟩⟩ rfl rfl hl.1 rfl (lv_room (Nat.le_of_ble_eq_true rfl)) dX12_readFirst_17 ⟨Nat.le_of_ble_eq_true rfl, Nat.le_of_ble_eq_true rfl⟩) hS (fun q _ h => MA.le hS.1 q h) (MA.le hS.1) (fun x t H locs ht hvm hw hB _ _ hS => ?_)
    have hP := mB.at ht hB
    clear hB ht hvm
    obtain ⟨st3, sl4⟩ := x
    obtain ⟨hG2, hL2, hw⟩ := hw
    have hL : LQ [7, 9] sl sl4 := hL.tr hL2 (by decide)
    clear hL2
    dsimp only at hw
    have hP : va_P (dC, dI) vwCl (mw ar cy st3 sl4) _ := hP
    have hG : MG [1, 2, 3, 6, 7, 8, 9, 10, 11, 12, 13, 14, 15, 19, 20, 21, 22] st st3 := hG.tr hG2 (by decide)
    have hGst3 : MG [1, 2, 3, 6, 7, 8, 9, 10, 11, 12, 13, 14, 15, 16, 19, 20, 21, 22, 23] st st3 := hG2
    clear hG2
    obtain ⟨n5, hf6, hf7, hf8⟩ := hw
    have hf6c := hf6.2.2.1
    have hf6d := hf6.2.2.2
    refine lv_iconst (v := 1) hx hb dX12_readFirst_20 (by decide) ?_
    exact W.zret (v := 1) hx hb hr rfl (fun t ht hW => ⟨⟨1, (st3, sl4), rfl, ⟨hG, hL, Or.inl (⟨n5, n1, rfl, (show TS st3 n5 gb from ⟨by rw [hf6.1], by rw [hf6.2.1], by omega, by omega⟩), by omega, fun (hh : st3 0 7 = 4) => by have hk := hf8 (by exact hh); omega, by show st3 3 2 = (nI n1); rw [hGst3.2 3 2 (by decide), en1], by omega⟩)⟩, mB.of ht hP⟩, hS.F ht⟩) hS.2.2 dX12_readFirst_21
  · have c1 : n1 = 6 := (nI_eq (a := n1) (b := 6) (by omega) (by omega)).mp c1
    refine lv_aload_n hx hb dX12_readFirst_10 rfl (lv_at hl 0 rfl) ?_
    refine lv_iconst (v := 4) hx hb dX12_readFirst_11 (by decide) ?_
    refine va_calli (va_runV (As := [.int 4]) (rest := []) ⟨hx, hb, hml, hown, hts⟩ (m_bad l dC dI ar cy _ hN st sl 4  hG.1) (cwV 1 hts gX12_readFirst_X12_bad rfl rfl rfl (by decide +kernel) ⟨Nat.le_of_ble_eq_true rfl, Nat.le_of_ble_eq_true rfl⟩) ⟨fun a U g mk q => ⟨q.1, mPre.blind q.2⟩, va_recv hK hP (ci := 11) (q0 := 0) rfl rfl, fun U hU hW => ⟨rfl, mPre.of hP hK hU hW⟩⟩ rfl rfl hl.1 rfl (lv_room (Nat.le_of_ble_eq_true rfl)) dX12_readFirst_12 ⟨Nat.le_of_ble_eq_true rfl, Nat.le_of_ble_eq_true rfl⟩) hS (fun q _ h => MA.le hS.1 q h) (MA.le hS.1) (fun r9 x t H locs ht hvm hw hB _ _ hS => ?_)
    have hP := mB.at ht hB
    clear hB ht hvm
    obtain ⟨st10, sl11⟩ := x
    obtain ⟨hG2, hL2, hw⟩ := hw
    have hL : LQ [7, 9] sl sl11 := hL.tr hL2 (by decide)
    clear hL2
    have hP : va_P (dC, dI) vwCl (mw ar cy st10 sl11) _ := hP
    have hG : MG [1, 2, 3, 6, 7, 8, 9, 10, 11, 12, 13, 14, 15, 19, 20, 21, 22] st st10 := hG.tr hG2 (by decide)
    have hGst10 : MG [1, 2, 3, 4, 5, 6, 7, 8, 9, 10, 11, 12, 13, 14, 15, 16, 17, 19, 20, 21, 22] st st10 := hG2
    clear hG2
    obtain rfl := hw
    exact W.zret (v := 0) hx hb hr rfl (fun t ht hW => ⟨⟨0, (st10, sl11), rfl, ⟨hG, hL, Or.inr (rfl)⟩, mB.of ht hP⟩, hS.F ht⟩) hS.2.2 dX12_readFirst_15
set_option maxHeartbeats 4000000 in
set_option maxRecDepth 100000 in
theorem m_readFirst3 (l : Launch) (dC : Nat → ClassId) (dI : Nat → Nat → Nat) (ar : Nat → Nat) (cy : Nat → ClassId) (sz : Nat) (hN : MN ar) (st : Nat → Nat → Int32) (sl : Nat → Nat → Int64) (ga gb : Nat) (hI : MI st) (hT : TS st ga gb) : Met l yX12_readFirst wsX12_readFirst ({ frames := 2, cells := 0, slots := 0, locals := 45 }) (va_Pc [.ref (ar 0), .int 3, .int 12] (mPre dC dI ar cy sz st sl)) (va_Qi (fun (r : Int32) (x : MT) => MG [1, 2, 3, 6, 7, 8, 9, 10, 11, 12, 13, 14, 15, 19, 20, 21, 22] st x.1 ∧ LQ [7, 9] sl x.2 ∧ ((∃ g : Nat, r = 1 ∧ TS x.1 g gb ∧ ga ≤ g ∧ (x.1 0 7 = 4 → ga < g)) ∨ (r = 0))) (mB dC dI ar cy) (MA ar sz)) 0 0 (MA ar sz) := by
  refine Met.ofW (cc := cX12_readFirst) (maxL := 3) (ret := (some .boolean)) (by decide) rfl ?_
  intro p e s m args below meth c s₁ B hml hv
  obtain ⟨rfl, hsz, hP, hK⟩ := hv
  have hx := B.exec
  have hb := B.bytes
  have hr := B.returns
  have hts := atoms_spec (ws := wsX12_readFirst) B.pre
  have hown : s.vm.findClass RX12 = some m.cls := findClass_of_methodNamed B.named
  subst hsz
  have hS : va_S (MA ar s.heap.size) s.heap s.heap [] := va_S.rf
  have hG : MG [1, 2, 3, 6, 7, 8, 9, 10, 11, 12, 13, 14, 15, 19, 20, 21, 22] st st := MG.rf hI
  have hl := lv_entry ([.ref (ar 0), .int 3, .int 12]) (n := 3) (Nat.le_of_ble_eq_true rfl)
  rw [lg_entry_eq]
  generalize (lg_sl ([.ref (ar 0), .int 3, .int 12]) ++ List.replicate (3 - (lg_sl ([.ref (ar 0), .int 3, .int 12])).length) Slot.unset).toArray = ls at hl ⊢
  have hl : lv_has ls 3 [(0, .ref (ar 0)), (1, .int 3), (2, .int 12)] := hl
  clear hI
  have hL : LQ [7, 9] sl sl := LQ.rf
  have hTc := hT.2.2.1
  have hTd := hT.2.2.2
  have hga : ga ≤ ga := Nat.le_refl ga
  refine lv_aload_n hx hb dX12_readFirst_0 rfl (lv_at hl 0 rfl) ?_
  refine va_get (D := (dC, dI)) (ci := 11) (v := .ref (ar 3)) (C := RX12) (T := TX12) (N := 47) hx hb hts ii_X12_readFirst hown hK hP 0 rfl rfl 15 (by decide) (hts _ mm_X12_readFirst_1) (fun _ hh => hh) rfl dX12_readFirst_1 ?_
  refine lv_iload_n hx hb dX12_readFirst_4 rfl (lv_at hl 1 rfl) ?_
  refine va_iald hx hb hK hP 3 2 rfl rfl (i := 3) (zz_in (by decide)) dX12_readFirst_5 ?_
  refine lv_topi (fun z1 ez1 => ?_)
  refine lv_iload_n hx hb dX12_readFirst_6 rfl (lv_at hl 2 rfl) ?_
  refine lv_icmp_ne (tgt := 16) hx hb dX12_readFirst_7 (by decide) (fun c1 => ?_) (fun c1 => ?_)
  · refine lv_aload_n hx hb dX12_readFirst_16 rfl (lv_at hl 0 rfl) ?_
    refine va_callv (va_runV (As := []) (rest := []) ⟨hx, hb, hml, hown, hts⟩ (m_go l dC dI ar cy _ hN st sl ga gb  hG.1 ((⟨by rw [hT.1], by rw [hT.2.1], by omega, by omega⟩ : TS st ga gb))) (cwV 0 hts gX12_readFirst_X12_go rfl rfl rfl (by decide +kernel) ⟨Nat.le_of_ble_eq_true rfl, Nat.le_of_ble_eq_true rfl⟩) ⟨fun a U g mk q => ⟨q.1, mPre.blind q.2⟩, va_recv hK hP (ci := 11) (q0 := 0) rfl rfl, fun U hU hW => ⟨rfl, mPre.of hP hK hU hW⟩⟩ rfl rfl hl.1 rfl (lv_room (Nat.le_of_ble_eq_true rfl)) dX12_readFirst_17 ⟨Nat.le_of_ble_eq_true rfl, Nat.le_of_ble_eq_true rfl⟩) hS (fun q _ h => MA.le hS.1 q h) (MA.le hS.1) (fun x t H locs ht hvm hw hB _ _ hS => ?_)
    have hP := mB.at ht hB
    clear hB ht hvm
    obtain ⟨st3, sl4⟩ := x
    obtain ⟨hG2, hL2, hw⟩ := hw
    have hL : LQ [7, 9] sl sl4 := hL.tr hL2 (by decide)
    clear hL2
    dsimp only at hw
    have hP : va_P (dC, dI) vwCl (mw ar cy st3 sl4) _ := hP
    have hG : MG [1, 2, 3, 6, 7, 8, 9, 10, 11, 12, 13, 14, 15, 19, 20, 21, 22] st st3 := hG.tr hG2 (by decide)
    have hGst3 : MG [1, 2, 3, 6, 7, 8, 9, 10, 11, 12, 13, 14, 15, 16, 19, 20, 21, 22, 23] st st3 := hG2
    clear hG2
    obtain ⟨n5, hf6, hf7, hf8⟩ := hw
    have hf6c := hf6.2.2.1
    have hf6d := hf6.2.2.2
    refine lv_iconst (v := 1) hx hb dX12_readFirst_20 (by decide) ?_
    exact W.zret (v := 1) hx hb hr rfl (fun t ht hW => ⟨⟨1, (st3, sl4), rfl, ⟨hG, hL, Or.inl (⟨n5, rfl, (show TS st3 n5 gb from ⟨by rw [hf6.1], by rw [hf6.2.1], by omega, by omega⟩), by omega, fun (hh : st3 0 7 = 4) => by have hk := hf8 (by exact hh); omega⟩)⟩, mB.of ht hP⟩, hS.F ht⟩) hS.2.2 dX12_readFirst_21
  · refine lv_aload_n hx hb dX12_readFirst_10 rfl (lv_at hl 0 rfl) ?_
    refine lv_iconst (v := 4) hx hb dX12_readFirst_11 (by decide) ?_
    refine va_calli (va_runV (As := [.int 4]) (rest := []) ⟨hx, hb, hml, hown, hts⟩ (m_bad l dC dI ar cy _ hN st sl 4  hG.1) (cwV 1 hts gX12_readFirst_X12_bad rfl rfl rfl (by decide +kernel) ⟨Nat.le_of_ble_eq_true rfl, Nat.le_of_ble_eq_true rfl⟩) ⟨fun a U g mk q => ⟨q.1, mPre.blind q.2⟩, va_recv hK hP (ci := 11) (q0 := 0) rfl rfl, fun U hU hW => ⟨rfl, mPre.of hP hK hU hW⟩⟩ rfl rfl hl.1 rfl (lv_room (Nat.le_of_ble_eq_true rfl)) dX12_readFirst_12 ⟨Nat.le_of_ble_eq_true rfl, Nat.le_of_ble_eq_true rfl⟩) hS (fun q _ h => MA.le hS.1 q h) (MA.le hS.1) (fun r9 x t H locs ht hvm hw hB _ _ hS => ?_)
    have hP := mB.at ht hB
    clear hB ht hvm
    obtain ⟨st10, sl11⟩ := x
    obtain ⟨hG2, hL2, hw⟩ := hw
    have hL : LQ [7, 9] sl sl11 := hL.tr hL2 (by decide)
    clear hL2
    have hP : va_P (dC, dI) vwCl (mw ar cy st10 sl11) _ := hP
    have hG : MG [1, 2, 3, 6, 7, 8, 9, 10, 11, 12, 13, 14, 15, 19, 20, 21, 22] st st10 := hG.tr hG2 (by decide)
    have hGst10 : MG [1, 2, 3, 4, 5, 6, 7, 8, 9, 10, 11, 12, 13, 14, 15, 16, 17, 19, 20, 21, 22] st st10 := hG2
    clear hG2
    obtain rfl := hw
    exact W.zret (v := 0) hx hb hr rfl (fun t ht hW => ⟨⟨0, (st10, sl11), rfl, ⟨hG, hL, Or.inr (rfl)⟩, mB.of ht hP⟩, hS.F ht⟩) hS.2.2 dX12_readFirst_15
set_option maxHeartbeats 4000000 in
set_option maxRecDepth 100000 in
theorem m_put0 (l : Launch) (dC : Nat → ClassId) (dI : Nat → Nat → Nat) (ar : Nat → Nat) (cy : Nat → ClassId) (sz : Nat) (hN : MN ar) (st : Nat → Nat → Int32) (sl : Nat → Nat → Int64) (va : Int32) (hI : MI st) : Met l yX12_put wsX12_put ({ frames := 0, cells := 0, slots := 0, locals := 0 }) (va_Pc [.ref (ar 0), .int va, .int 0] (mPre dC dI ar cy sz st sl)) (va_Qi (fun (r : Int32) (x : MT) => x = (st, sl) ∧ (r = 0)) (mB dC dI ar cy) (MA ar sz)) 0 0 (MA ar sz) := by
  refine Met.ofW (cc := cX12_put) (maxL := 3) (ret := (some .boolean)) (by decide) rfl ?_
  intro p e s m args below meth c s₁ B hml hv
  obtain ⟨rfl, hsz, hP, hK⟩ := hv
  have hx := B.exec
  have hb := B.bytes
  have hr := B.returns
  have hts := atoms_spec (ws := wsX12_put) B.pre
  have hown : s.vm.findClass RX12 = some m.cls := findClass_of_methodNamed B.named
  subst hsz
  have hS : va_S (MA ar s.heap.size) s.heap s.heap [] := va_S.rf
  have hG : MG [1, 2, 3, 4, 5, 6, 7, 8, 9, 10, 11, 12, 13, 14, 15, 16, 17, 19, 20, 21, 22, 23] st st := MG.rf hI
  have hl := lv_entry ([.ref (ar 0), .int va, .int 0]) (n := 3) (Nat.le_of_ble_eq_true rfl)
  rw [lg_entry_eq]
  generalize (lg_sl ([.ref (ar 0), .int va, .int 0]) ++ List.replicate (3 - (lg_sl ([.ref (ar 0), .int va, .int 0])).length) Slot.unset).toArray = ls at hl ⊢
  have hl : lv_has ls 3 [(0, .ref (ar 0)), (1, .int va), (2, .int 0)] := hl
  clear hI
  refine lv_iload_n hx hb dX12_put_0 rfl (lv_at hl 2 rfl) ?_
  refine lv_if_eq (tgt := 14) hx hb dX12_put_1 (by decide) (fun _ => ?_) (fun cc => absurd (by decide) cc)
  refine lv_iload_n hx hb dX12_put_14 rfl (lv_at hl 2 rfl) ?_
  exact W.zret (v := 0) hx hb hr rfl (fun t ht hW => ⟨⟨0, (st, sl), rfl, ⟨rfl, rfl⟩, mB.of ht hP⟩, hS.F ht⟩) hS.2.2 dX12_put_15
set_option maxHeartbeats 4000000 in
set_option maxRecDepth 100000 in
theorem m_put10 (l : Launch) (dC : Nat → ClassId) (dI : Nat → Nat → Nat) (ar : Nat → Nat) (cy : Nat → ClassId) (sz : Nat) (hN : MN ar) (st : Nat → Nat → Int32) (sl : Nat → Nat → Int64) (va : Nat) (hlva : 10 ≤ va) (hva : va < 18) (hI : MI st) (ht : ∃ n, n < 5 ∧ st 0 13 = nI n) : Met l yX12_put wsX12_put ({ frames := 0, cells := 0, slots := 0, locals := 0 }) (va_Pc [.ref (ar 0), .int (nI va), .int 1] (mPre dC dI ar cy sz st sl)) (va_Qi (fun (r : Int32) (x : MT) => MG [1, 2, 3, 4, 5, 6, 7, 8, 9, 10, 11, 12, 13, 14, 15, 16, 17, 19, 20, 21, 22, 23] st x.1 ∧ LQ [7, 9] sl x.2 ∧ (r = 1)) (mB dC dI ar cy) (MA ar sz)) 0 0 (MA ar sz) := by
  refine Met.ofW (cc := cX12_put) (maxL := 3) (ret := (some .boolean)) (by decide) rfl ?_
  intro p e s m args below meth c s₁ B hml hv
  obtain ⟨rfl, hsz, hP, hK⟩ := hv
  have hx := B.exec
  have hb := B.bytes
  have hr := B.returns
  have hts := atoms_spec (ws := wsX12_put) B.pre
  have hown : s.vm.findClass RX12 = some m.cls := findClass_of_methodNamed B.named
  subst hsz
  have hS : va_S (MA ar s.heap.size) s.heap s.heap [] := va_S.rf
  have hG : MG [1, 2, 3, 4, 5, 6, 7, 8, 9, 10, 11, 12, 13, 14, 15, 16, 17, 19, 20, 21, 22, 23] st st := MG.rf hI
  have hl := lv_entry ([.ref (ar 0), .int (nI va), .int 1]) (n := 3) (Nat.le_of_ble_eq_true rfl)
  rw [lg_entry_eq]
  generalize (lg_sl ([.ref (ar 0), .int (nI va), .int 1]) ++ List.replicate (3 - (lg_sl ([.ref (ar 0), .int (nI va), .int 1])).length) Slot.unset).toArray = ls at hl ⊢
  have hl : lv_has ls 3 [(0, .ref (ar 0)), (1, .int (nI va)), (2, .int 1)] := hl
  clear hI
  have hL : LQ [7, 9] sl sl := LQ.rf
  obtain ⟨n0, hn0, en0⟩ := ht
  refine lv_iload_n hx hb dX12_put_0 rfl (lv_at hl 2 rfl) ?_
  refine lv_if_eq (tgt := 14) hx hb dX12_put_1 (by decide) (fun cc => absurd cc (by decide)) (fun _ => ?_)
  refine lv_aload_n hx hb dX12_put_4 rfl (lv_at hl 0 rfl) ?_
  refine va_get (D := (dC, dI)) (ci := 11) (v := .ref (ar 3)) (C := RX12) (T := TX12) (N := 47) hx hb hts ii_X12_put hown hK hP 0 rfl rfl 15 (by decide) (hts _ mm_X12_put_1) (fun _ hh => hh) rfl dX12_put_5 ?_
  refine lv_iload_n hx hb dX12_put_8 rfl (lv_at hl 1 rfl) ?_
  refine lv_aload_n hx hb dX12_put_9 rfl (lv_at hl 0 rfl) ?_
  refine va_get (D := (dC, dI)) (ci := 11) (v := .int (st 0 13)) (C := RX12) (T := TX12) (N := 47) hx hb hts ii_X12_put hown hK hP 0 rfl rfl 13 (by decide) (hts _ mm_X12_put_2) (fun _ hh => hh) rfl dX12_put_10 ?_
  refine zz_top (v := (nI n0)) (by show st 0 13 = _; rw [en0]) ?_
  refine va_iast hx hb hK hP (mD hN _ _ _ _) hS 3 2 rfl rfl (i := (nI va)) (vp_in_nI (by omega) (by decide)) dX12_put_13 (fun H locs hP _ hS => ?_)
  rw [nI_clamp (by omega)] at hP
  have hP : va_P (dC, dI) vwCl (mw ar cy (up2 st 3 va (nI n0)) sl) H := hP
  obtain ⟨st1, est1⟩ : ∃ y, y = up2 st 3 va (nI n0) := ⟨_, rfl⟩
  have hG : MG [1, 2, 3, 4, 5, 6, 7, 8, 9, 10, 11, 12, 13, 14, 15, 16, 17, 19, 20, 21, 22, 23] st st1 := by rw [est1]; exact hG.up (rn (n := n0) (mr_3_10_18 va (by omega) (by omega)) (by omega)) (pn (pcl_3_10_18 va (by omega) (by omega)) (by decide))
  rw [← est1] at hP
  refine lv_iload_n hx hb dX12_put_14 rfl (lv_at hl 2 rfl) ?_
  exact W.zret (v := 1) hx hb hr rfl (fun t ht hW => ⟨⟨1, (st1, sl), rfl, ⟨hG, hL, rfl⟩, mB.of ht hP⟩, hS.F ht⟩) hS.2.2 dX12_put_15
set_option maxHeartbeats 4000000 in
set_option maxRecDepth 100000 in
theorem m_put18 (l : Launch) (dC : Nat → ClassId) (dI : Nat → Nat → Nat) (ar : Nat → Nat) (cy : Nat → ClassId) (sz : Nat) (hN : MN ar) (st : Nat → Nat → Int32) (sl : Nat → Nat → Int64) (va : Nat) (hlva : 18 ≤ va) (hva : va < 26) (hI : MI st) : Met l yX12_put wsX12_put ({ frames := 0, cells := 0, slots := 0, locals := 0 }) (va_Pc [.ref (ar 0), .int (nI va), .int 1] (mPre dC dI ar cy sz st sl)) (va_Qi (fun (r : Int32) (x : MT) => MG [1, 2, 3, 4, 5, 6, 7, 8, 9, 10, 11, 12, 13, 14, 15, 16, 17, 19, 20, 21, 22, 23] st x.1 ∧ LQ [7, 9] sl x.2 ∧ (r = 1)) (mB dC dI ar cy) (MA ar sz)) 0 0 (MA ar sz) := by
  refine Met.ofW (cc := cX12_put) (maxL := 3) (ret := (some .boolean)) (by decide) rfl ?_
  intro p e s m args below meth c s₁ B hml hv
  obtain ⟨rfl, hsz, hP, hK⟩ := hv
  have hx := B.exec
  have hb := B.bytes
  have hr := B.returns
  have hts := atoms_spec (ws := wsX12_put) B.pre
  have hown : s.vm.findClass RX12 = some m.cls := findClass_of_methodNamed B.named
  subst hsz
  have hS : va_S (MA ar s.heap.size) s.heap s.heap [] := va_S.rf
  have hG : MG [1, 2, 3, 4, 5, 6, 7, 8, 9, 10, 11, 12, 13, 14, 15, 16, 17, 19, 20, 21, 22, 23] st st := MG.rf hI
  have hl := lv_entry ([.ref (ar 0), .int (nI va), .int 1]) (n := 3) (Nat.le_of_ble_eq_true rfl)
  rw [lg_entry_eq]
  generalize (lg_sl ([.ref (ar 0), .int (nI va), .int 1]) ++ List.replicate (3 - (lg_sl ([.ref (ar 0), .int (nI va), .int 1])).length) Slot.unset).toArray = ls at hl ⊢
  have hl : lv_has ls 3 [(0, .ref (ar 0)), (1, .int (nI va)), (2, .int 1)] := hl
  clear hI
  have hL : LQ [7, 9] sl sl := LQ.rf
  refine lv_iload_n hx hb dX12_put_0 rfl (lv_at hl 2 rfl) ?_
  refine lv_if_eq (tgt := 14) hx hb dX12_put_1 (by decide) (fun cc => absurd cc (by decide)) (fun _ => ?_)
  refine lv_aload_n hx hb dX12_put_4 rfl (lv_at hl 0 rfl) ?_
  refine va_get (D := (dC, dI)) (ci := 11) (v := .ref (ar 3)) (C := RX12) (T := TX12) (N := 47) hx hb hts ii_X12_put hown hK hP 0 rfl rfl 15 (by decide) (hts _ mm_X12_put_1) (fun _ hh => hh) rfl dX12_put_5 ?_
  refine lv_iload_n hx hb dX12_put_8 rfl (lv_at hl 1 rfl) ?_
  refine lv_aload_n hx hb dX12_put_9 rfl (lv_at hl 0 rfl) ?_
  refine va_get (D := (dC, dI)) (ci := 11) (v := .int (st 0 13)) (C := RX12) (T := TX12) (N := 47) hx hb hts ii_X12_put hown hK hP 0 rfl rfl 13 (by decide) (hts _ mm_X12_put_2) (fun _ hh => hh) rfl dX12_put_10 ?_
  refine lv_topi (fun z1 ez1 => ?_)
  refine va_iast hx hb hK hP (mD hN _ _ _ _) hS 3 2 rfl rfl (i := (nI va)) (vp_in_nI (by omega) (by decide)) dX12_put_13 (fun H locs hP _ hS => ?_)
  rw [nI_clamp (by omega)] at hP
  have hP : va_P (dC, dI) vwCl (mw ar cy (up2 st 3 va z1) sl) H := hP
  obtain ⟨st2, est2⟩ : ∃ y, y = up2 st 3 va z1 := ⟨_, rfl⟩
  have hG : MG [1, 2, 3, 4, 5, 6, 7, 8, 9, 10, 11, 12, 13, 14, 15, 16, 17, 19, 20, 21, 22, 23] st st2 := by rw [est2]; exact hG.up (rz (mr_3_18_26 va (by omega) (by omega))) (pn (pcl_3_18_26 va (by omega) (by omega)) (by decide))
  rw [← est2] at hP
  refine lv_iload_n hx hb dX12_put_14 rfl (lv_at hl 2 rfl) ?_
  exact W.zret (v := 1) hx hb hr rfl (fun t ht hW => ⟨⟨1, (st2, sl), rfl, ⟨hG, hL, rfl⟩, mB.of ht hP⟩, hS.F ht⟩) hS.2.2 dX12_put_15
set_option maxHeartbeats 4000000 in
set_option maxRecDepth 100000 in
theorem m_put26 (l : Launch) (dC : Nat → ClassId) (dI : Nat → Nat → Nat) (ar : Nat → Nat) (cy : Nat → ClassId) (sz : Nat) (hN : MN ar) (st : Nat → Nat → Int32) (sl : Nat → Nat → Int64) (va : Nat) (hlva : 26 ≤ va) (hva : va < 34) (hI : MI st) : Met l yX12_put wsX12_put ({ frames := 0, cells := 0, slots := 0, locals := 0 }) (va_Pc [.ref (ar 0), .int (nI va), .int 1] (mPre dC dI ar cy sz st sl)) (va_Qi (fun (r : Int32) (x : MT) => MG [1, 2, 3, 4, 5, 6, 7, 8, 9, 10, 11, 12, 13, 14, 15, 16, 17, 19, 20, 21, 22, 23] st x.1 ∧ LQ [7, 9] sl x.2 ∧ (r = 1)) (mB dC dI ar cy) (MA ar sz)) 0 0 (MA ar sz) := by
  refine Met.ofW (cc := cX12_put) (maxL := 3) (ret := (some .boolean)) (by decide) rfl ?_
  intro p e s m args below meth c s₁ B hml hv
  obtain ⟨rfl, hsz, hP, hK⟩ := hv
  have hx := B.exec
  have hb := B.bytes
  have hr := B.returns
  have hts := atoms_spec (ws := wsX12_put) B.pre
  have hown : s.vm.findClass RX12 = some m.cls := findClass_of_methodNamed B.named
  subst hsz
  have hS : va_S (MA ar s.heap.size) s.heap s.heap [] := va_S.rf
  have hG : MG [1, 2, 3, 4, 5, 6, 7, 8, 9, 10, 11, 12, 13, 14, 15, 16, 17, 19, 20, 21, 22, 23] st st := MG.rf hI
  have hl := lv_entry ([.ref (ar 0), .int (nI va), .int 1]) (n := 3) (Nat.le_of_ble_eq_true rfl)
  rw [lg_entry_eq]
  generalize (lg_sl ([.ref (ar 0), .int (nI va), .int 1]) ++ List.replicate (3 - (lg_sl ([.ref (ar 0), .int (nI va), .int 1])).length) Slot.unset).toArray = ls at hl ⊢
  have hl : lv_has ls 3 [(0, .ref (ar 0)), (1, .int (nI va)), (2, .int 1)] := hl
  clear hI
  have hL : LQ [7, 9] sl sl := LQ.rf
  refine lv_iload_n hx hb dX12_put_0 rfl (lv_at hl 2 rfl) ?_
  refine lv_if_eq (tgt := 14) hx hb dX12_put_1 (by decide) (fun cc => absurd cc (by decide)) (fun _ => ?_)
  refine lv_aload_n hx hb dX12_put_4 rfl (lv_at hl 0 rfl) ?_
  refine va_get (D := (dC, dI)) (ci := 11) (v := .ref (ar 3)) (C := RX12) (T := TX12) (N := 47) hx hb hts ii_X12_put hown hK hP 0 rfl rfl 15 (by decide) (hts _ mm_X12_put_1) (fun _ hh => hh) rfl dX12_put_5 ?_
  refine lv_iload_n hx hb dX12_put_8 rfl (lv_at hl 1 rfl) ?_
  refine lv_aload_n hx hb dX12_put_9 rfl (lv_at hl 0 rfl) ?_
  refine va_get (D := (dC, dI)) (ci := 11) (v := .int (st 0 13)) (C := RX12) (T := TX12) (N := 47) hx hb hts ii_X12_put hown hK hP 0 rfl rfl 13 (by decide) (hts _ mm_X12_put_2) (fun _ hh => hh) rfl dX12_put_10 ?_
  refine lv_topi (fun z1 ez1 => ?_)
  refine va_iast hx hb hK hP (mD hN _ _ _ _) hS 3 2 rfl rfl (i := (nI va)) (vp_in_nI (by omega) (by decide)) dX12_put_13 (fun H locs hP _ hS => ?_)
  rw [nI_clamp (by omega)] at hP
  have hP : va_P (dC, dI) vwCl (mw ar cy (up2 st 3 va z1) sl) H := hP
  obtain ⟨st2, est2⟩ : ∃ y, y = up2 st 3 va z1 := ⟨_, rfl⟩
  have hG : MG [1, 2, 3, 4, 5, 6, 7, 8, 9, 10, 11, 12, 13, 14, 15, 16, 17, 19, 20, 21, 22, 23] st st2 := by rw [est2]; exact hG.up (rz (mr_3_26_34 va (by omega) (by omega))) (pn (pcl_3_26_34 va (by omega) (by omega)) (by decide))
  rw [← est2] at hP
  refine lv_iload_n hx hb dX12_put_14 rfl (lv_at hl 2 rfl) ?_
  exact W.zret (v := 1) hx hb hr rfl (fun t ht hW => ⟨⟨1, (st2, sl), rfl, ⟨hG, hL, rfl⟩, mB.of ht hP⟩, hS.F ht⟩) hS.2.2 dX12_put_15
set_option maxHeartbeats 4000000 in
set_option maxRecDepth 100000 in
theorem m_put34 (l : Launch) (dC : Nat → ClassId) (dI : Nat → Nat → Nat) (ar : Nat → Nat) (cy : Nat → ClassId) (sz : Nat) (hN : MN ar) (st : Nat → Nat → Int32) (sl : Nat → Nat → Int64) (va : Nat) (hlva : 34 ≤ va) (hva : va < 42) (hI : MI st) : Met l yX12_put wsX12_put ({ frames := 0, cells := 0, slots := 0, locals := 0 }) (va_Pc [.ref (ar 0), .int (nI va), .int 1] (mPre dC dI ar cy sz st sl)) (va_Qi (fun (r : Int32) (x : MT) => MG [1, 2, 3, 4, 5, 6, 7, 8, 9, 10, 11, 12, 13, 14, 15, 16, 17, 19, 20, 21, 22, 23] st x.1 ∧ LQ [7, 9] sl x.2 ∧ (r = 1)) (mB dC dI ar cy) (MA ar sz)) 0 0 (MA ar sz) := by
  refine Met.ofW (cc := cX12_put) (maxL := 3) (ret := (some .boolean)) (by decide) rfl ?_
  intro p e s m args below meth c s₁ B hml hv
  obtain ⟨rfl, hsz, hP, hK⟩ := hv
  have hx := B.exec
  have hb := B.bytes
  have hr := B.returns
  have hts := atoms_spec (ws := wsX12_put) B.pre
  have hown : s.vm.findClass RX12 = some m.cls := findClass_of_methodNamed B.named
  subst hsz
  have hS : va_S (MA ar s.heap.size) s.heap s.heap [] := va_S.rf
  have hG : MG [1, 2, 3, 4, 5, 6, 7, 8, 9, 10, 11, 12, 13, 14, 15, 16, 17, 19, 20, 21, 22, 23] st st := MG.rf hI
  have hl := lv_entry ([.ref (ar 0), .int (nI va), .int 1]) (n := 3) (Nat.le_of_ble_eq_true rfl)
  rw [lg_entry_eq]
  generalize (lg_sl ([.ref (ar 0), .int (nI va), .int 1]) ++ List.replicate (3 - (lg_sl ([.ref (ar 0), .int (nI va), .int 1])).length) Slot.unset).toArray = ls at hl ⊢
  have hl : lv_has ls 3 [(0, .ref (ar 0)), (1, .int (nI va)), (2, .int 1)] := hl
  clear hI
  have hL : LQ [7, 9] sl sl := LQ.rf
  refine lv_iload_n hx hb dX12_put_0 rfl (lv_at hl 2 rfl) ?_
  refine lv_if_eq (tgt := 14) hx hb dX12_put_1 (by decide) (fun cc => absurd cc (by decide)) (fun _ => ?_)
  refine lv_aload_n hx hb dX12_put_4 rfl (lv_at hl 0 rfl) ?_
  refine va_get (D := (dC, dI)) (ci := 11) (v := .ref (ar 3)) (C := RX12) (T := TX12) (N := 47) hx hb hts ii_X12_put hown hK hP 0 rfl rfl 15 (by decide) (hts _ mm_X12_put_1) (fun _ hh => hh) rfl dX12_put_5 ?_
  refine lv_iload_n hx hb dX12_put_8 rfl (lv_at hl 1 rfl) ?_
  refine lv_aload_n hx hb dX12_put_9 rfl (lv_at hl 0 rfl) ?_
  refine va_get (D := (dC, dI)) (ci := 11) (v := .int (st 0 13)) (C := RX12) (T := TX12) (N := 47) hx hb hts ii_X12_put hown hK hP 0 rfl rfl 13 (by decide) (hts _ mm_X12_put_2) (fun _ hh => hh) rfl dX12_put_10 ?_
  refine lv_topi (fun z1 ez1 => ?_)
  refine va_iast hx hb hK hP (mD hN _ _ _ _) hS 3 2 rfl rfl (i := (nI va)) (vp_in_nI (by omega) (by decide)) dX12_put_13 (fun H locs hP _ hS => ?_)
  rw [nI_clamp (by omega)] at hP
  have hP : va_P (dC, dI) vwCl (mw ar cy (up2 st 3 va z1) sl) H := hP
  obtain ⟨st2, est2⟩ : ∃ y, y = up2 st 3 va z1 := ⟨_, rfl⟩
  have hG : MG [1, 2, 3, 4, 5, 6, 7, 8, 9, 10, 11, 12, 13, 14, 15, 16, 17, 19, 20, 21, 22, 23] st st2 := by rw [est2]; exact hG.up (rz (mr_3_34_42 va (by omega) (by omega))) (pn (pcl_3_34_42 va (by omega) (by omega)) (by decide))
  rw [← est2] at hP
  refine lv_iload_n hx hb dX12_put_14 rfl (lv_at hl 2 rfl) ?_
  exact W.zret (v := 1) hx hb hr rfl (fun t ht hW => ⟨⟨1, (st2, sl), rfl, ⟨hG, hL, rfl⟩, mB.of ht hP⟩, hS.F ht⟩) hS.2.2 dX12_put_15
set_option maxHeartbeats 4000000 in
set_option maxRecDepth 100000 in
theorem m_put42 (l : Launch) (dC : Nat → ClassId) (dI : Nat → Nat → Nat) (ar : Nat → Nat) (cy : Nat → ClassId) (sz : Nat) (hN : MN ar) (st : Nat → Nat → Int32) (sl : Nat → Nat → Int64) (va : Nat) (hlva : 42 ≤ va) (hva : va < 48) (hI : MI st) (ht : ∃ n, n < 8 ∧ st 0 13 = nI n) : Met l yX12_put wsX12_put ({ frames := 0, cells := 0, slots := 0, locals := 0 }) (va_Pc [.ref (ar 0), .int (nI va), .int 1] (mPre dC dI ar cy sz st sl)) (va_Qi (fun (r : Int32) (x : MT) => MG [1, 2, 3, 4, 5, 6, 7, 8, 9, 10, 11, 12, 13, 14, 15, 16, 17, 19, 20, 21, 22, 23] st x.1 ∧ LQ [7, 9] sl x.2 ∧ (r = 1)) (mB dC dI ar cy) (MA ar sz)) 0 0 (MA ar sz) := by
  refine Met.ofW (cc := cX12_put) (maxL := 3) (ret := (some .boolean)) (by decide) rfl ?_
  intro p e s m args below meth c s₁ B hml hv
  obtain ⟨rfl, hsz, hP, hK⟩ := hv
  have hx := B.exec
  have hb := B.bytes
  have hr := B.returns
  have hts := atoms_spec (ws := wsX12_put) B.pre
  have hown : s.vm.findClass RX12 = some m.cls := findClass_of_methodNamed B.named
  subst hsz
  have hS : va_S (MA ar s.heap.size) s.heap s.heap [] := va_S.rf
  have hG : MG [1, 2, 3, 4, 5, 6, 7, 8, 9, 10, 11, 12, 13, 14, 15, 16, 17, 19, 20, 21, 22, 23] st st := MG.rf hI
  have hl := lv_entry ([.ref (ar 0), .int (nI va), .int 1]) (n := 3) (Nat.le_of_ble_eq_true rfl)
  rw [lg_entry_eq]
  generalize (lg_sl ([.ref (ar 0), .int (nI va), .int 1]) ++ List.replicate (3 - (lg_sl ([.ref (ar 0), .int (nI va), .int 1])).length) Slot.unset).toArray = ls at hl ⊢
  have hl : lv_has ls 3 [(0, .ref (ar 0)), (1, .int (nI va)), (2, .int 1)] := hl
  clear hI
  have hL : LQ [7, 9] sl sl := LQ.rf
  obtain ⟨n0, hn0, en0⟩ := ht
  refine lv_iload_n hx hb dX12_put_0 rfl (lv_at hl 2 rfl) ?_
  refine lv_if_eq (tgt := 14) hx hb dX12_put_1 (by decide) (fun cc => absurd cc (by decide)) (fun _ => ?_)
  refine lv_aload_n hx hb dX12_put_4 rfl (lv_at hl 0 rfl) ?_
  refine va_get (D := (dC, dI)) (ci := 11) (v := .ref (ar 3)) (C := RX12) (T := TX12) (N := 47) hx hb hts ii_X12_put hown hK hP 0 rfl rfl 15 (by decide) (hts _ mm_X12_put_1) (fun _ hh => hh) rfl dX12_put_5 ?_
  refine lv_iload_n hx hb dX12_put_8 rfl (lv_at hl 1 rfl) ?_
  refine lv_aload_n hx hb dX12_put_9 rfl (lv_at hl 0 rfl) ?_
  refine va_get (D := (dC, dI)) (ci := 11) (v := .int (st 0 13)) (C := RX12) (T := TX12) (N := 47) hx hb hts ii_X12_put hown hK hP 0 rfl rfl 13 (by decide) (hts _ mm_X12_put_2) (fun _ hh => hh) rfl dX12_put_10 ?_
  refine zz_top (v := (nI n0)) (by show st 0 13 = _; rw [en0]) ?_
  refine va_iast hx hb hK hP (mD hN _ _ _ _) hS 3 2 rfl rfl (i := (nI va)) (vp_in_nI (by omega) (by decide)) dX12_put_13 (fun H locs hP _ hS => ?_)
  rw [nI_clamp (by omega)] at hP
  have hP : va_P (dC, dI) vwCl (mw ar cy (up2 st 3 va (nI n0)) sl) H := hP
  obtain ⟨st1, est1⟩ : ∃ y, y = up2 st 3 va (nI n0) := ⟨_, rfl⟩
  have hG : MG [1, 2, 3, 4, 5, 6, 7, 8, 9, 10, 11, 12, 13, 14, 15, 16, 17, 19, 20, 21, 22, 23] st st1 := by rw [est1]; exact hG.up (rn (n := n0) (mr_3_42_48 va (by omega) (by omega)) (by omega)) (pn (pcl_3_42_48 va (by omega) (by omega)) (by decide))
  rw [← est1] at hP
  refine lv_iload_n hx hb dX12_put_14 rfl (lv_at hl 2 rfl) ?_
  exact W.zret (v := 1) hx hb hr rfl (fun t ht hW => ⟨⟨1, (st1, sl), rfl, ⟨hG, hL, rfl⟩, mB.of ht hP⟩, hS.F ht⟩) hS.2.2 dX12_put_15
set_option maxHeartbeats 4000000 in
set_option maxRecDepth 100000 in
theorem m_put48 (l : Launch) (dC : Nat → ClassId) (dI : Nat → Nat → Nat) (ar : Nat → Nat) (cy : Nat → ClassId) (sz : Nat) (hN : MN ar) (st : Nat → Nat → Int32) (sl : Nat → Nat → Int64) (va : Nat) (hlva : 48 ≤ va) (hva : va < 54) (hI : MI st) (ht : ∃ n, n < 13 ∧ st 0 13 = nI n) : Met l yX12_put wsX12_put ({ frames := 0, cells := 0, slots := 0, locals := 0 }) (va_Pc [.ref (ar 0), .int (nI va), .int 1] (mPre dC dI ar cy sz st sl)) (va_Qi (fun (r : Int32) (x : MT) => MG [1, 2, 3, 4, 5, 6, 7, 8, 9, 10, 11, 12, 13, 14, 15, 16, 17, 19, 20, 21, 22, 23] st x.1 ∧ LQ [7, 9] sl x.2 ∧ (r = 1)) (mB dC dI ar cy) (MA ar sz)) 0 0 (MA ar sz) := by
  refine Met.ofW (cc := cX12_put) (maxL := 3) (ret := (some .boolean)) (by decide) rfl ?_
  intro p e s m args below meth c s₁ B hml hv
  obtain ⟨rfl, hsz, hP, hK⟩ := hv
  have hx := B.exec
  have hb := B.bytes
  have hr := B.returns
  have hts := atoms_spec (ws := wsX12_put) B.pre
  have hown : s.vm.findClass RX12 = some m.cls := findClass_of_methodNamed B.named
  subst hsz
  have hS : va_S (MA ar s.heap.size) s.heap s.heap [] := va_S.rf
  have hG : MG [1, 2, 3, 4, 5, 6, 7, 8, 9, 10, 11, 12, 13, 14, 15, 16, 17, 19, 20, 21, 22, 23] st st := MG.rf hI
  have hl := lv_entry ([.ref (ar 0), .int (nI va), .int 1]) (n := 3) (Nat.le_of_ble_eq_true rfl)
  rw [lg_entry_eq]
  generalize (lg_sl ([.ref (ar 0), .int (nI va), .int 1]) ++ List.replicate (3 - (lg_sl ([.ref (ar 0), .int (nI va), .int 1])).length) Slot.unset).toArray = ls at hl ⊢
  have hl : lv_has ls 3 [(0, .ref (ar 0)), (1, .int (nI va)), (2, .int 1)] := hl
  clear hI
  have hL : LQ [7, 9] sl sl := LQ.rf
  obtain ⟨n0, hn0, en0⟩ := ht
  refine lv_iload_n hx hb dX12_put_0 rfl (lv_at hl 2 rfl) ?_
  refine lv_if_eq (tgt := 14) hx hb dX12_put_1 (by decide) (fun cc => absurd cc (by decide)) (fun _ => ?_)
  refine lv_aload_n hx hb dX12_put_4 rfl (lv_at hl 0 rfl) ?_
  refine va_get (D := (dC, dI)) (ci := 11) (v := .ref (ar 3)) (C := RX12) (T := TX12) (N := 47) hx hb hts ii_X12_put hown hK hP 0 rfl rfl 15 (by decide) (hts _ mm_X12_put_1) (fun _ hh => hh) rfl dX12_put_5 ?_
  refine lv_iload_n hx hb dX12_put_8 rfl (lv_at hl 1 rfl) ?_
  refine lv_aload_n hx hb dX12_put_9 rfl (lv_at hl 0 rfl) ?_
  refine va_get (D := (dC, dI)) (ci := 11) (v := .int (st 0 13)) (C := RX12) (T := TX12) (N := 47) hx hb hts ii_X12_put hown hK hP 0 rfl rfl 13 (by decide) (hts _ mm_X12_put_2) (fun _ hh => hh) rfl dX12_put_10 ?_
  refine zz_top (v := (nI n0)) (by show st 0 13 = _; rw [en0]) ?_
  refine va_iast hx hb hK hP (mD hN _ _ _ _) hS 3 2 rfl rfl (i := (nI va)) (vp_in_nI (by omega) (by decide)) dX12_put_13 (fun H locs hP _ hS => ?_)
  rw [nI_clamp (by omega)] at hP
  have hP : va_P (dC, dI) vwCl (mw ar cy (up2 st 3 va (nI n0)) sl) H := hP
  obtain ⟨st1, est1⟩ : ∃ y, y = up2 st 3 va (nI n0) := ⟨_, rfl⟩
  have hG : MG [1, 2, 3, 4, 5, 6, 7, 8, 9, 10, 11, 12, 13, 14, 15, 16, 17, 19, 20, 21, 22, 23] st st1 := by rw [est1]; exact hG.up (rn (n := n0) (mr_3_48_54 va (by omega) (by omega)) (by omega)) (pn (pcl_3_48_54 va (by omega) (by omega)) (by decide))
  rw [← est1] at hP
  refine lv_iload_n hx hb dX12_put_14 rfl (lv_at hl 2 rfl) ?_
  exact W.zret (v := 1) hx hb hr rfl (fun t ht hW => ⟨⟨1, (st1, sl), rfl, ⟨hG, hL, rfl⟩, mB.of ht hP⟩, hS.F ht⟩) hS.2.2 dX12_put_15
set_option maxHeartbeats 4000000 in
set_option maxRecDepth 100000 in
theorem m_put54 (l : Launch) (dC : Nat → ClassId) (dI : Nat → Nat → Nat) (ar : Nat → Nat) (cy : Nat → ClassId) (sz : Nat) (hN : MN ar) (st : Nat → Nat → Int32) (sl : Nat → Nat → Int64) (va : Nat) (hlva : 54 ≤ va) (hva : va < 60) (hI : MI st) : Met l yX12_put wsX12_put ({ frames := 0, cells := 0, slots := 0, locals := 0 }) (va_Pc [.ref (ar 0), .int (nI va), .int 1] (mPre dC dI ar cy sz st sl)) (va_Qi (fun (r : Int32) (x : MT) => MG [1, 2, 3, 4, 5, 6, 7, 8, 9, 10, 11, 12, 13, 14, 15, 16, 17, 19, 20, 21, 22, 23] st x.1 ∧ LQ [7, 9] sl x.2 ∧ (r = 1)) (mB dC dI ar cy) (MA ar sz)) 0 0 (MA ar sz) := by
  refine Met.ofW (cc := cX12_put) (maxL := 3) (ret := (some .boolean)) (by decide) rfl ?_
  intro p e s m args below meth c s₁ B hml hv
  obtain ⟨rfl, hsz, hP, hK⟩ := hv
  have hx := B.exec
  have hb := B.bytes
  have hr := B.returns
  have hts := atoms_spec (ws := wsX12_put) B.pre
  have hown : s.vm.findClass RX12 = some m.cls := findClass_of_methodNamed B.named
  subst hsz
  have hS : va_S (MA ar s.heap.size) s.heap s.heap [] := va_S.rf
  have hG : MG [1, 2, 3, 4, 5, 6, 7, 8, 9, 10, 11, 12, 13, 14, 15, 16, 17, 19, 20, 21, 22, 23] st st := MG.rf hI
  have hl := lv_entry ([.ref (ar 0), .int (nI va), .int 1]) (n := 3) (Nat.le_of_ble_eq_true rfl)
  rw [lg_entry_eq]
  generalize (lg_sl ([.ref (ar 0), .int (nI va), .int 1]) ++ List.replicate (3 - (lg_sl ([.ref (ar 0), .int (nI va), .int 1])).length) Slot.unset).toArray = ls at hl ⊢
  have hl : lv_has ls 3 [(0, .ref (ar 0)), (1, .int (nI va)), (2, .int 1)] := hl
  clear hI
  have hL : LQ [7, 9] sl sl := LQ.rf
  refine lv_iload_n hx hb dX12_put_0 rfl (lv_at hl 2 rfl) ?_
  refine lv_if_eq (tgt := 14) hx hb dX12_put_1 (by decide) (fun cc => absurd cc (by decide)) (fun _ => ?_)
  refine lv_aload_n hx hb dX12_put_4 rfl (lv_at hl 0 rfl) ?_
  refine va_get (D := (dC, dI)) (ci := 11) (v := .ref (ar 3)) (C := RX12) (T := TX12) (N := 47) hx hb hts ii_X12_put hown hK hP 0 rfl rfl 15 (by decide) (hts _ mm_X12_put_1) (fun _ hh => hh) rfl dX12_put_5 ?_
  refine lv_iload_n hx hb dX12_put_8 rfl (lv_at hl 1 rfl) ?_
  refine lv_aload_n hx hb dX12_put_9 rfl (lv_at hl 0 rfl) ?_
  refine va_get (D := (dC, dI)) (ci := 11) (v := .int (st 0 13)) (C := RX12) (T := TX12) (N := 47) hx hb hts ii_X12_put hown hK hP 0 rfl rfl 13 (by decide) (hts _ mm_X12_put_2) (fun _ hh => hh) rfl dX12_put_10 ?_
  refine lv_topi (fun z1 ez1 => ?_)
  refine va_iast hx hb hK hP (mD hN _ _ _ _) hS 3 2 rfl rfl (i := (nI va)) (vp_in_nI (by omega) (by decide)) dX12_put_13 (fun H locs hP _ hS => ?_)
  rw [nI_clamp (by omega)] at hP
  have hP : va_P (dC, dI) vwCl (mw ar cy (up2 st 3 va z1) sl) H := hP
  obtain ⟨st2, est2⟩ : ∃ y, y = up2 st 3 va z1 := ⟨_, rfl⟩
  have hG : MG [1, 2, 3, 4, 5, 6, 7, 8, 9, 10, 11, 12, 13, 14, 15, 16, 17, 19, 20, 21, 22, 23] st st2 := by rw [est2]; exact hG.up (rz (mr_3_54_60 va (by omega) (by omega))) (pn (pcl_3_54_60 va (by omega) (by omega)) (by decide))
  rw [← est2] at hP
  refine lv_iload_n hx hb dX12_put_14 rfl (lv_at hl 2 rfl) ?_
  exact W.zret (v := 1) hx hb hr rfl (fun t ht hW => ⟨⟨1, (st2, sl), rfl, ⟨hG, hL, rfl⟩, mB.of ht hP⟩, hS.F ht⟩) hS.2.2 dX12_put_15
set_option maxHeartbeats 4000000 in
set_option maxRecDepth 100000 in
theorem m_put60 (l : Launch) (dC : Nat → ClassId) (dI : Nat → Nat → Nat) (ar : Nat → Nat) (cy : Nat → ClassId) (sz : Nat) (hN : MN ar) (st : Nat → Nat → Int32) (sl : Nat → Nat → Int64) (hI : MI st) (ht : ∃ n, n < 13 ∧ st 0 13 = nI n) : Met l yX12_put wsX12_put ({ frames := 0, cells := 0, slots := 0, locals := 0 }) (va_Pc [.ref (ar 0), .int 60, .int 1] (mPre dC dI ar cy sz st sl)) (va_Qi (fun (r : Int32) (x : MT) => MG [1, 2, 3, 4, 5, 6, 7, 8, 9, 10, 11, 12, 13, 14, 15, 16, 17, 19, 20, 21, 22, 23] st x.1 ∧ LQ [7, 9] sl x.2 ∧ (r = 1)) (mB dC dI ar cy) (MA ar sz)) 0 0 (MA ar sz) := by
  refine Met.ofW (cc := cX12_put) (maxL := 3) (ret := (some .boolean)) (by decide) rfl ?_
  intro p e s m args below meth c s₁ B hml hv
  obtain ⟨rfl, hsz, hP, hK⟩ := hv
  have hx := B.exec
  have hb := B.bytes
  have hr := B.returns
  have hts := atoms_spec (ws := wsX12_put) B.pre
  have hown : s.vm.findClass RX12 = some m.cls := findClass_of_methodNamed B.named
  subst hsz
  have hS : va_S (MA ar s.heap.size) s.heap s.heap [] := va_S.rf
  have hG : MG [1, 2, 3, 4, 5, 6, 7, 8, 9, 10, 11, 12, 13, 14, 15, 16, 17, 19, 20, 21, 22, 23] st st := MG.rf hI
  have hl := lv_entry ([.ref (ar 0), .int 60, .int 1]) (n := 3) (Nat.le_of_ble_eq_true rfl)
  rw [lg_entry_eq]
  generalize (lg_sl ([.ref (ar 0), .int 60, .int 1]) ++ List.replicate (3 - (lg_sl ([.ref (ar 0), .int 60, .int 1])).length) Slot.unset).toArray = ls at hl ⊢
  have hl : lv_has ls 3 [(0, .ref (ar 0)), (1, .int 60), (2, .int 1)] := hl
  clear hI
  have hL : LQ [7, 9] sl sl := LQ.rf
  obtain ⟨n0, hn0, en0⟩ := ht
  refine lv_iload_n hx hb dX12_put_0 rfl (lv_at hl 2 rfl) ?_
  refine lv_if_eq (tgt := 14) hx hb dX12_put_1 (by decide) (fun cc => absurd cc (by decide)) (fun _ => ?_)
  refine lv_aload_n hx hb dX12_put_4 rfl (lv_at hl 0 rfl) ?_
  refine va_get (D := (dC, dI)) (ci := 11) (v := .ref (ar 3)) (C := RX12) (T := TX12) (N := 47) hx hb hts ii_X12_put hown hK hP 0 rfl rfl 15 (by decide) (hts _ mm_X12_put_1) (fun _ hh => hh) rfl dX12_put_5 ?_
  refine lv_iload_n hx hb dX12_put_8 rfl (lv_at hl 1 rfl) ?_
  refine lv_aload_n hx hb dX12_put_9 rfl (lv_at hl 0 rfl) ?_
  refine va_get (D := (dC, dI)) (ci := 11) (v := .int (st 0 13)) (C := RX12) (T := TX12) (N := 47) hx hb hts ii_X12_put hown hK hP 0 rfl rfl 13 (by decide) (hts _ mm_X12_put_2) (fun _ hh => hh) rfl dX12_put_10 ?_
  refine zz_top (v := (nI n0)) (by show st 0 13 = _; rw [en0]) ?_
  refine va_iast hx hb hK hP (mD hN _ _ _ _) hS 3 2 rfl rfl (i := 60) (zz_in (by decide)) dX12_put_13 (fun H locs hP _ hS => ?_)
  have hP : va_P (dC, dI) vwCl (mw ar cy (up2 st 3 60 (nI n0)) sl) H := hP
  obtain ⟨st1, est1⟩ : ∃ y, y = up2 st 3 60 (nI n0) := ⟨_, rfl⟩
  have hG : MG [1, 2, 3, 4, 5, 6, 7, 8, 9, 10, 11, 12, 13, 14, 15, 16, 17, 19, 20, 21, 22, 23] st st1 := by rw [est1]; exact hG.up (rn (n := n0) (by decide : mr 3 60 = 13) (by omega)) (pn (by decide : pcl 3 60 = 0) (by decide))
  rw [← est1] at hP
  refine lv_iload_n hx hb dX12_put_14 rfl (lv_at hl 2 rfl) ?_
  exact W.zret (v := 1) hx hb hr rfl (fun t ht hW => ⟨⟨1, (st1, sl), rfl, ⟨hG, hL, rfl⟩, mB.of ht hP⟩, hS.F ht⟩) hS.2.2 dX12_put_15
set_option maxHeartbeats 4000000 in
set_option maxRecDepth 100000 in
theorem m_readPlace (l : Launch) (dC : Nat → ClassId) (dI : Nat → Nat → Nat) (ar : Nat → Nat) (cy : Nat → ClassId) (sz : Nat) (hN : MN ar) (st : Nat → Nat → Int32) (sl : Nat → Nat → Int64) (ga gb : Nat) (hI : MI st) (hT : TS st ga gb) : Met l yX12_readPlace wsX12_readPlace ({ frames := 4, cells := 0, slots := 0, locals := 90 }) (va_Pc [.ref (ar 0)] (mPre dC dI ar cy sz st sl)) (va_Qi (fun (r : Int32) (x : MT) => MG [1, 2, 3, 6, 7, 8, 9, 10, 11, 12, 13, 14, 15, 20, 21, 22] st x.1 ∧ LQ [7, 9] sl x.2 ∧ ((∃ g : Nat, r = 1 ∧ TS x.1 g gb ∧ ga ≤ g ∧ (x.1 0 7 = 4 → ga < g)) ∨ (r = 0))) (mB dC dI ar cy) (MA ar sz)) 0 0 (MA ar sz) := by
  refine Met.ofW (cc := cX12_readPlace) (maxL := 1) (ret := (some .boolean)) (by decide) rfl ?_
  intro p e s m args below meth c s₁ B hml hv
  obtain ⟨rfl, hsz, hP, hK⟩ := hv
  have hx := B.exec
  have hb := B.bytes
  have hr := B.returns
  have hts := atoms_spec (ws := wsX12_readPlace) B.pre
  have hown : s.vm.findClass RX12 = some m.cls := findClass_of_methodNamed B.named
  subst hsz
  have hS : va_S (MA ar s.heap.size) s.heap s.heap [] := va_S.rf
  have hG : MG [1, 2, 3, 6, 7, 8, 9, 10, 11, 12, 13, 14, 15, 20, 21, 22] st st := MG.rf hI
  have hl := lv_entry ([.ref (ar 0)]) (n := 1) (Nat.le_of_ble_eq_true rfl)
  rw [lg_entry_eq]
  generalize (lg_sl ([.ref (ar 0)]) ++ List.replicate (1 - (lg_sl ([.ref (ar 0)])).length) Slot.unset).toArray = ls at hl ⊢
  have hl : lv_has ls 1 [(0, .ref (ar 0))] := hl
  clear hI
  have hL : LQ [7, 9] sl sl := LQ.rf
  have hTc := hT.2.2.1
  have hTd := hT.2.2.2
  have hga : ga ≤ ga := Nat.le_refl ga
  refine lv_aload_n hx hb dX12_readPlace_0 rfl (lv_at hl 0 rfl) ?_
  refine lv_iconst (v := 0) hx hb dX12_readPlace_1 (by decide) ?_
  refine lv_iconst (v := 5) hx hb dX12_readPlace_2 (by decide) ?_
  refine va_calli (va_runV (As := [.int 0, .int 5]) (rest := []) ⟨hx, hb, hml, hown, hts⟩ (m_readFirst0 l dC dI ar cy _ hN st sl ga gb  hG.1 ((⟨by rw [hT.1], by rw [hT.2.1], by omega, by omega⟩ : TS st ga gb))) (cwV 2 hts gX12_readPlace_X12_readFirst rfl rfl rfl (by decide +kernel) ⟨Nat.le_of_ble_eq_true rfl, Nat.le_of_ble_eq_true rfl⟩) ⟨fun a U g mk q => ⟨q.1, mPre.blind q.2⟩, va_recv hK hP (ci := 11) (q0 := 0) rfl rfl, fun U hU hW => ⟨rfl, mPre.of hP hK hU hW⟩⟩ rfl rfl hl.1 rfl (lv_room (Nat.le_of_ble_eq_true rfl)) dX12_readPlace_3 ⟨Nat.le_of_ble_eq_true rfl, Nat.le_of_ble_eq_true rfl⟩) hS (fun q _ h => MA.le hS.1 q h) (MA.le hS.1) (fun r1 x t H locs ht hvm hw hB _ _ hS => ?_)
  have hP := mB.at ht hB
  clear hB ht hvm
  obtain ⟨st2, sl3⟩ := x
  obtain ⟨hG2, hL2, hw⟩ := hw
  have hL : LQ [7, 9] sl sl3 := hL.tr hL2 (by decide)
  clear hL2
  dsimp only at hw
  have hP : va_P (dC, dI) vwCl (mw ar cy st2 sl3) _ := hP
  have hG : MG [1, 2, 3, 6, 7, 8, 9, 10, 11, 12, 13, 14, 15, 20, 21, 22] st st2 := hG.tr hG2 (by decide)
  have hGst2 : MG [1, 2, 3, 6, 7, 8, 9, 10, 11, 12, 13, 14, 15, 19, 20, 21, 22] st st2 := hG2
  clear hG2
  rcases hw with ⟨n4, n5, rfl, hf6, hf7, hf8, hf9, hf10⟩ | rfl
  · have hf6c := hf6.2.2.1
    have hf6d := hf6.2.2.2
    refine lv_if_eq (tgt := 22) hx hb dX12_readPlace_6 (by decide) (fun cc => absurd cc (by decide)) (fun _ => ?_)
    refine lv_aload_n hx hb dX12_readPlace_9 rfl (lv_at hl 0 rfl) ?_
    refine lv_aload_n hx hb dX12_readPlace_10 rfl (lv_at hl 0 rfl) ?_
    refine va_get (D := (dC, dI)) (ci := 11) (v := .ref (ar 3)) (C := RX12) (T := TX12) (N := 47) hx hb hts ii_X12_readPlace hown hK hP 0 rfl rfl 15 (by decide) (hts _ mm_X12_readPlace_1) (fun _ hh => hh) rfl dX12_readPlace_11 ?_
    refine lv_iconst (v := 0) hx hb dX12_readPlace_14 (by decide) ?_
    refine va_iald hx hb hK hP 3 2 rfl rfl (i := 0) (zz_in (by decide)) dX12_readPlace_15 ?_
    refine zz_top (v := (nI n5)) (by show st2 3 0 = _; rw [hf9]) ?_
    refine va_calli (va_runV (As := [.int (nI n5)]) (rest := []) ⟨hx, hb, hml, hown, hts⟩ (m_readNew l dC dI ar cy _ hN st2 sl3 n5 n4 gb (by omega) hG.1 ((⟨by rw [hf6.1], by rw [hf6.2.1], by omega, by omega⟩ : TS st2 n4 gb))) (cwV 1 hts gX12_readPlace_X12_readNew rfl rfl rfl (by decide +kernel) ⟨Nat.le_of_ble_eq_true rfl, Nat.le_of_ble_eq_true rfl⟩) ⟨fun a U g mk q => ⟨q.1, mPre.blind q.2⟩, va_recv hK hP (ci := 11) (q0 := 0) rfl rfl, fun U hU hW => ⟨rfl, mPre.of hP hK hU hW⟩⟩ rfl rfl hl.1 rfl (lv_room (Nat.le_of_ble_eq_true rfl)) dX12_readPlace_16 ⟨Nat.le_of_ble_eq_true rfl, Nat.le_of_ble_eq_true rfl⟩) hS (fun q _ h => MA.le hS.1 q h) (MA.le hS.1) (fun r11 x t H locs ht hvm hw hB _ _ hS => ?_)
    have hP := mB.at ht hB
    clear hB ht hvm
    obtain ⟨st12, sl13⟩ := x
    obtain ⟨hG2, hL2, hw⟩ := hw
    have hL : LQ [7, 9] sl sl13 := hL.tr hL2 (by decide)
    clear hL2
    dsimp only at hw
    have hP : va_P (dC, dI) vwCl (mw ar cy st12 sl13) _ := hP
    have hG : MG [1, 2, 3, 6, 7, 8, 9, 10, 11, 12, 13, 14, 15, 20, 21, 22] st st12 := hG.tr hG2 (by decide)
    have hGst12 : MG [1, 2, 3, 6, 7, 8, 9, 10, 11, 12, 13, 14, 15, 19, 20, 21, 22] st2 st12 := hG2
    clear hG2
    rcases hw with ⟨n14, rfl, hf15, hf16, hf17⟩ | rfl
    · have hf15c := hf15.2.2.1
      have hf15d := hf15.2.2.2
      refine lv_if_ne (tgt := 24) hx hb dX12_readPlace_19 (by decide) (fun _ => ?_) (fun cc => absurd cc (by decide))
      refine lv_aload_n hx hb dX12_readPlace_24 rfl (lv_at hl 0 rfl) ?_
      refine lv_iconst (v := 1) hx hb dX12_readPlace_25 (by decide) ?_
      refine va_calli (va_runV (As := [.int 1]) (rest := []) ⟨hx, hb, hml, hown, hts⟩ (m_isWord l dC dI ar cy _ hN st12 sl13 1  hG.1) (cwV 1 hts gX12_readPlace_X12_isWord rfl rfl rfl (by decide +kernel) ⟨Nat.le_of_ble_eq_true rfl, Nat.le_of_ble_eq_true rfl⟩) ⟨fun a U g mk q => ⟨q.1, mPre.blind q.2⟩, va_recv hK hP (ci := 11) (q0 := 0) rfl rfl, fun U hU hW => ⟨rfl, mPre.of hP hK hU hW⟩⟩ rfl rfl hl.1 rfl (lv_room (Nat.le_of_ble_eq_true rfl)) dX12_readPlace_26 ⟨Nat.le_of_ble_eq_true rfl, Nat.le_of_ble_eq_true rfl⟩) hS (fun q _ h => MA.le hS.1 q h) (MA.le hS.1) (fun r18 x t H locs ht hvm hw hB _ _ hS => ?_)
      have hP := mB.at ht hB
      clear hB ht hvm
      obtain ⟨rfl, hw⟩ := hw
      have hP : va_P (dC, dI) vwCl (mw ar cy st12 sl13) _ := hP
      rcases hw with rfl | rfl
      · refine lv_if_eq (tgt := 54) hx hb dX12_readPlace_29 (by decide) (fun cc => absurd cc (by decide)) (fun _ => ?_)
        refine lv_aload_n hx hb dX12_readPlace_32 rfl (lv_at hl 0 rfl) ?_
        refine va_get (D := (dC, dI)) (ci := 11) (v := .ref (ar 3)) (C := RX12) (T := TX12) (N := 47) hx hb hts ii_X12_readPlace hown hK hP 0 rfl rfl 15 (by decide) (hts _ mm_X12_readPlace_1) (fun _ hh => hh) rfl dX12_readPlace_33 ?_
        refine lv_bipush (v := 9) hx hb dX12_readPlace_36 (by decide) ?_
        refine lv_dup2_11 hx hb dX12_readPlace_38 rfl rfl ?_
        refine va_iald hx hb hK hP 3 2 rfl rfl (i := 9) (zz_in (by decide)) dX12_readPlace_39 ?_
        refine lv_topi (fun z19 ez19 => ?_)
        refine lv_iconst (v := 1) hx hb dX12_readPlace_40 (by decide) ?_
        refine lv_aload_n hx hb dX12_readPlace_41 rfl (lv_at hl 0 rfl) ?_
        refine va_get (D := (dC, dI)) (ci := 11) (v := .ref (ar 3)) (C := RX12) (T := TX12) (N := 47) hx hb hts ii_X12_readPlace hown hK hP 0 rfl rfl 15 (by decide) (hts _ mm_X12_readPlace_1) (fun _ hh => hh) rfl dX12_readPlace_42 ?_
        refine lv_iconst (v := 0) hx hb dX12_readPlace_45 (by decide) ?_
        refine va_iald hx hb hK hP 3 2 rfl rfl (i := 0) (zz_in (by decide)) dX12_readPlace_46 ?_
        refine zz_top (v := (nI n5)) (by show st12 3 0 = _; rw [hGst12.2 3 0 (by decide), hf9]) ?_
        refine lv_ishl hx hb dX12_readPlace_47 ?_
        refine lv_topi (fun z20 ez20 => ?_)
        refine lv_ior hx hb dX12_readPlace_48 ?_
        refine lv_topi (fun z21 ez21 => ?_)
        refine va_iast hx hb hK hP (mD hN _ _ _ _) hS 3 2 rfl rfl (i := 9) (zz_in (by decide)) dX12_readPlace_49 (fun H locs hP _ hS => ?_)
        have hP : va_P (dC, dI) vwCl (mw ar cy (up2 st12 3 9 z21) sl13) H := hP
        obtain ⟨st22, est22⟩ : ∃ y, y = up2 st12 3 9 z21 := ⟨_, rfl⟩
        have hG : MG [1, 2, 3, 6, 7, 8, 9, 10, 11, 12, 13, 14, 15, 20, 21, 22] st st22 := by rw [est22]; exact hG.up (rz (by decide : mr 3 9 = 0)) (pn (by decide : pcl 3 9 = 0) (by decide))
        rw [← est22] at hP
        refine lv_aload_n hx hb dX12_readPlace_50 rfl (lv_at hl 0 rfl) ?_
        refine va_callv (va_runV (As := []) (rest := []) ⟨hx, hb, hml, hown, hts⟩ (m_go l dC dI ar cy _ hN st22 sl13 n14 gb  hG.1 ((⟨by rw [est22, up2_ne (r := 3) (k := 9) (a := 0) (j := 5) _ _ (by omega), hf15.1], by rw [est22, up2_ne (r := 3) (k := 9) (a := 0) (j := 3) _ _ (by omega), hf15.2.1], by omega, by omega⟩ : TS st22 n14 gb))) (cwV 0 hts gX12_readPlace_X12_go rfl rfl rfl (by decide +kernel) ⟨Nat.le_of_ble_eq_true rfl, Nat.le_of_ble_eq_true rfl⟩) ⟨fun a U g mk q => ⟨q.1, mPre.blind q.2⟩, va_recv hK hP (ci := 11) (q0 := 0) rfl rfl, fun U hU hW => ⟨rfl, mPre.of hP hK hU hW⟩⟩ rfl rfl hl.1 rfl (lv_room (Nat.le_of_ble_eq_true rfl)) dX12_readPlace_51 ⟨Nat.le_of_ble_eq_true rfl, Nat.le_of_ble_eq_true rfl⟩) hS (fun q _ h => MA.le hS.1 q h) (MA.le hS.1) (fun x t H locs ht hvm hw hB _ _ hS => ?_)
        have hP := mB.at ht hB
        clear hB ht hvm
        obtain ⟨st24, sl25⟩ := x
        obtain ⟨hG2, hL2, hw⟩ := hw
        have hL : LQ [7, 9] sl sl25 := hL.tr hL2 (by decide)
        clear hL2
        dsimp only at hw
        have hP : va_P (dC, dI) vwCl (mw ar cy st24 sl25) _ := hP
        have hG : MG [1, 2, 3, 6, 7, 8, 9, 10, 11, 12, 13, 14, 15, 20, 21, 22] st st24 := hG.tr hG2 (by decide)
        have hGst24 : MG [1, 2, 3, 6, 7, 8, 9, 10, 11, 12, 13, 14, 15, 16, 19, 20, 21, 22, 23] st22 st24 := hG2
        clear hG2
        obtain ⟨n26, hf27, hf28, hf29⟩ := hw
        have hf27c := hf27.2.2.1
        have hf27d := hf27.2.2.2
        refine lv_aload_n hx hb dX12_readPlace_54 rfl (lv_at hl 0 rfl) ?_
        refine va_get (D := (dC, dI)) (ci := 11) (v := .ref (ar 3)) (C := RX12) (T := TX12) (N := 47) hx hb hts ii_X12_readPlace hown hK hP 0 rfl rfl 15 (by decide) (hts _ mm_X12_readPlace_1) (fun _ hh => hh) rfl dX12_readPlace_55 ?_
        refine lv_iconst (v := 0) hx hb dX12_readPlace_58 (by decide) ?_
        refine lv_dup2_11 hx hb dX12_readPlace_59 rfl rfl ?_
        refine va_iald hx hb hK hP 3 2 rfl rfl (i := 0) (zz_in (by decide)) dX12_readPlace_60 ?_
        refine zz_top (v := (nI n5)) (by show st24 3 0 = _; rw [hGst24.2 3 0 (by decide), est22, up2_ne (r := 3) (k := 9) (a := 3) (j := 0) _ _ (by omega), hGst12.2 3 0 (by decide), hf9]) ?_
        refine lv_iconst (v := 1) hx hb dX12_readPlace_61 (by decide) ?_
        refine lv_iadd hx hb dX12_readPlace_62 ?_
        refine zz_top (v := nI (n5 + 1)) (nI_add n5 1) ?_
        refine va_iast hx hb hK hP (mD hN _ _ _ _) hS 3 2 rfl rfl (i := 0) (zz_in (by decide)) dX12_readPlace_63 (fun H locs hP _ hS => ?_)
        have hP : va_P (dC, dI) vwCl (mw ar cy (up2 st24 3 0 (nI (n5 + 1))) sl25) H := hP
        obtain ⟨st30, est30⟩ : ∃ y, y = up2 st24 3 0 (nI (n5 + 1)) := ⟨_, rfl⟩
        have hG : MG [1, 2, 3, 6, 7, 8, 9, 10, 11, 12, 13, 14, 15, 20, 21, 22] st st30 := by rw [est30]; exact hG.up (rn (n := (n5 + 1)) (by decide : mr 3 0 = 6) (by omega)) (pn (by decide : pcl 3 0 = 19) (by decide))
        rw [← est30] at hP
        refine lv_iconst (v := 1) hx hb dX12_readPlace_64 (by decide) ?_
        exact W.zret (v := 1) hx hb hr rfl (fun t ht hW => ⟨⟨1, (st30, sl25), rfl, ⟨hG, hL, Or.inl (⟨n26, rfl, (show TS st30 n26 gb from ⟨by rw [est30, up2_ne (r := 3) (k := 0) (a := 0) (j := 5) _ _ (by omega), hf27.1], by rw [est30, up2_ne (r := 3) (k := 0) (a := 0) (j := 3) _ _ (by omega), hf27.2.1], by omega, by omega⟩), by omega, fun (hh : st30 0 7 = 4) => by have hk := hf29 (by rw [est30, up2_ne (r := 3) (k := 0) (a := 0) (j := 7) _ _ (by omega)] at hh; exact hh); omega⟩)⟩, mB.of ht hP⟩, hS.F ht⟩) hS.2.2 dX12_readPlace_65
      · refine lv_if_eq (tgt := 54) hx hb dX12_readPlace_29 (by decide) (fun _ => ?_) (fun cc => absurd (by decide) cc)
        refine lv_aload_n hx hb dX12_readPlace_54 rfl (lv_at hl 0 rfl) ?_
        refine va_get (D := (dC, dI)) (ci := 11) (v := .ref (ar 3)) (C := RX12) (T := TX12) (N := 47) hx hb hts ii_X12_readPlace hown hK hP 0 rfl rfl 15 (by decide) (hts _ mm_X12_readPlace_1) (fun _ hh => hh) rfl dX12_readPlace_55 ?_
        refine lv_iconst (v := 0) hx hb dX12_readPlace_58 (by decide) ?_
        refine lv_dup2_11 hx hb dX12_readPlace_59 rfl rfl ?_
        refine va_iald hx hb hK hP 3 2 rfl rfl (i := 0) (zz_in (by decide)) dX12_readPlace_60 ?_
        refine zz_top (v := (nI n5)) (by show st12 3 0 = _; rw [hGst12.2 3 0 (by decide), hf9]) ?_
        refine lv_iconst (v := 1) hx hb dX12_readPlace_61 (by decide) ?_
        refine lv_iadd hx hb dX12_readPlace_62 ?_
        refine zz_top (v := nI (n5 + 1)) (nI_add n5 1) ?_
        refine va_iast hx hb hK hP (mD hN _ _ _ _) hS 3 2 rfl rfl (i := 0) (zz_in (by decide)) dX12_readPlace_63 (fun H locs hP _ hS => ?_)
        have hP : va_P (dC, dI) vwCl (mw ar cy (up2 st12 3 0 (nI (n5 + 1))) sl13) H := hP
        obtain ⟨st31, est31⟩ : ∃ y, y = up2 st12 3 0 (nI (n5 + 1)) := ⟨_, rfl⟩
        have hG : MG [1, 2, 3, 6, 7, 8, 9, 10, 11, 12, 13, 14, 15, 20, 21, 22] st st31 := by rw [est31]; exact hG.up (rn (n := (n5 + 1)) (by decide : mr 3 0 = 6) (by omega)) (pn (by decide : pcl 3 0 = 19) (by decide))
        rw [← est31] at hP
        refine lv_iconst (v := 1) hx hb dX12_readPlace_64 (by decide) ?_
        exact W.zret (v := 1) hx hb hr rfl (fun t ht hW => ⟨⟨1, (st31, sl13), rfl, ⟨hG, hL, Or.inl (⟨n14, rfl, (show TS st31 n14 gb from ⟨by rw [est31, up2_ne (r := 3) (k := 0) (a := 0) (j := 5) _ _ (by omega), hf15.1], by rw [est31, up2_ne (r := 3) (k := 0) (a := 0) (j := 3) _ _ (by omega), hf15.2.1], by omega, by omega⟩), by omega, fun (hh : st31 0 7 = 4) => by have hk := hf17 (by rw [est31, up2_ne (r := 3) (k := 0) (a := 0) (j := 7) _ _ (by omega)] at hh; exact hh); omega⟩)⟩, mB.of ht hP⟩, hS.F ht⟩) hS.2.2 dX12_readPlace_65
    · refine lv_if_ne (tgt := 24) hx hb dX12_readPlace_19 (by decide) (fun cc => absurd (by decide) cc) (fun _ => ?_)
      refine lv_iconst (v := 0) hx hb dX12_readPlace_22 (by decide) ?_
      exact W.zret (v := 0) hx hb hr rfl (fun t ht hW => ⟨⟨0, (st12, sl13), rfl, ⟨hG, hL, Or.inr (rfl)⟩, mB.of ht hP⟩, hS.F ht⟩) hS.2.2 dX12_readPlace_23
  · refine lv_if_eq (tgt := 22) hx hb dX12_readPlace_6 (by decide) (fun _ => ?_) (fun cc => absurd (by decide) cc)
    refine lv_iconst (v := 0) hx hb dX12_readPlace_22 (by decide) ?_
    exact W.zret (v := 0) hx hb hr rfl (fun t ht hW => ⟨⟨0, (st2, sl3), rfl, ⟨hG, hL, Or.inr (rfl)⟩, mB.of ht hP⟩, hS.F ht⟩) hS.2.2 dX12_readPlace_23
set_option maxHeartbeats 4000000 in
set_option maxRecDepth 100000 in
theorem m_readPerson (l : Launch) (dC : Nat → ClassId) (dI : Nat → Nat → Nat) (ar : Nat → Nat) (cy : Nat → ClassId) (sz : Nat) (hN : MN ar) (st : Nat → Nat → Int32) (sl : Nat → Nat → Int64) (ga gb : Nat) (hI : MI st) (hT : TS st ga gb) : Met l yX12_readPerson wsX12_readPerson ({ frames := 4, cells := 0, slots := 0, locals := 91 }) (va_Pc [.ref (ar 0)] (mPre dC dI ar cy sz st sl)) (va_Qi (fun (r : Int32) (x : MT) => MG [1, 2, 3, 6, 7, 8, 9, 10, 11, 12, 13, 14, 15, 20, 21, 22] st x.1 ∧ LQ [7, 9] sl x.2 ∧ ((∃ g : Nat, r = 1 ∧ TS x.1 g gb ∧ ga ≤ g ∧ (x.1 0 7 = 4 → ga < g)) ∨ (r = 0))) (mB dC dI ar cy) (MA ar sz)) 0 0 (MA ar sz) := by
  refine Met.ofW (cc := cX12_readPerson) (maxL := 2) (ret := (some .boolean)) (by decide) rfl ?_
  intro p e s m args below meth c s₁ B hml hv
  obtain ⟨rfl, hsz, hP, hK⟩ := hv
  have hx := B.exec
  have hb := B.bytes
  have hr := B.returns
  have hts := atoms_spec (ws := wsX12_readPerson) B.pre
  have hown : s.vm.findClass RX12 = some m.cls := findClass_of_methodNamed B.named
  subst hsz
  have hS : va_S (MA ar s.heap.size) s.heap s.heap [] := va_S.rf
  have hG : MG [1, 2, 3, 6, 7, 8, 9, 10, 11, 12, 13, 14, 15, 20, 21, 22] st st := MG.rf hI
  have hl := lv_entry ([.ref (ar 0)]) (n := 2) (Nat.le_of_ble_eq_true rfl)
  rw [lg_entry_eq]
  generalize (lg_sl ([.ref (ar 0)]) ++ List.replicate (2 - (lg_sl ([.ref (ar 0)])).length) Slot.unset).toArray = ls at hl ⊢
  have hl : lv_has ls 2 [(0, .ref (ar 0))] := hl
  clear hI
  have hL : LQ [7, 9] sl sl := LQ.rf
  have hTc := hT.2.2.1
  have hTd := hT.2.2.2
  have hga : ga ≤ ga := Nat.le_refl ga
  refine lv_aload_n hx hb dX12_readPerson_0 rfl (lv_at hl 0 rfl) ?_
  refine lv_iconst (v := 1) hx hb dX12_readPerson_1 (by decide) ?_
  refine lv_bipush (v := 8) hx hb dX12_readPerson_2 (by decide) ?_
  refine va_calli (va_runV (As := [.int 1, .int 8]) (rest := []) ⟨hx, hb, hml, hown, hts⟩ (m_readFirst1 l dC dI ar cy _ hN st sl ga gb  hG.1 ((⟨by rw [hT.1], by rw [hT.2.1], by omega, by omega⟩ : TS st ga gb))) (cwV 2 hts gX12_readPerson_X12_readFirst rfl rfl rfl (by decide +kernel) ⟨Nat.le_of_ble_eq_true rfl, Nat.le_of_ble_eq_true rfl⟩) ⟨fun a U g mk q => ⟨q.1, mPre.blind q.2⟩, va_recv hK hP (ci := 11) (q0 := 0) rfl rfl, fun U hU hW => ⟨rfl, mPre.of hP hK hU hW⟩⟩ rfl rfl hl.1 rfl (lv_room (Nat.le_of_ble_eq_true rfl)) dX12_readPerson_4 ⟨Nat.le_of_ble_eq_true rfl, Nat.le_of_ble_eq_true rfl⟩) hS (fun q _ h => MA.le hS.1 q h) (MA.le hS.1) (fun r1 x t H locs ht hvm hw hB _ _ hS => ?_)
  have hP := mB.at ht hB
  clear hB ht hvm
  obtain ⟨st2, sl3⟩ := x
  obtain ⟨hG2, hL2, hw⟩ := hw
  have hL : LQ [7, 9] sl sl3 := hL.tr hL2 (by decide)
  clear hL2
  dsimp only at hw
  have hP : va_P (dC, dI) vwCl (mw ar cy st2 sl3) _ := hP
  have hG : MG [1, 2, 3, 6, 7, 8, 9, 10, 11, 12, 13, 14, 15, 20, 21, 22] st st2 := hG.tr hG2 (by decide)
  have hGst2 : MG [1, 2, 3, 6, 7, 8, 9, 10, 11, 12, 13, 14, 15, 19, 20, 21, 22] st st2 := hG2
  clear hG2
  rcases hw with ⟨n4, n5, rfl, hf6, hf7, hf8, hf9, hf10⟩ | rfl
  · have hf6c := hf6.2.2.1
    have hf6d := hf6.2.2.2
    refine lv_if_ne (tgt := 12) hx hb dX12_readPerson_7 (by decide) (fun _ => ?_) (fun cc => absurd cc (by decide))
    refine lv_aload_n hx hb dX12_readPerson_12 rfl (lv_at hl 0 rfl) ?_
    refine va_get (D := (dC, dI)) (ci := 11) (v := .ref (ar 3)) (C := RX12) (T := TX12) (N := 47) hx hb hts ii_X12_readPerson hown hK hP 0 rfl rfl 15 (by decide) (hts _ mm_X12_readPerson_1) (fun _ hh => hh) rfl dX12_readPerson_13 ?_
    refine lv_iconst (v := 1) hx hb dX12_readPerson_16 (by decide) ?_
    refine va_iald hx hb hK hP 3 2 rfl rfl (i := 1) (zz_in (by decide)) dX12_readPerson_17 ?_
    refine zz_top (v := (nI n5)) (by show st2 3 1 = _; rw [hf9]) ?_
    refine lv_istore_n (lv' := [(1, .int (nI n5)), (0, .ref (ar 0))]) hx hb dX12_readPerson_18 rfl hl (by decide) rfl (fun ls hl => ?_)
    refine lv_aload_n hx hb dX12_readPerson_19 rfl (lv_at hl 1 rfl) ?_
    refine lv_iconst (v := 5) hx hb dX12_readPerson_20 (by decide) ?_
    refine lv_iload_n hx hb dX12_readPerson_21 rfl (lv_at hl 0 rfl) ?_
    refine lv_iadd hx hb dX12_readPerson_22 ?_
    refine zz_top (v := nI (5 + n5)) (nI_add 5 n5) ?_
    refine va_calli (va_runV (As := [.int (nI (5 + n5))]) (rest := []) ⟨hx, hb, hml, hown, hts⟩ (m_readNew l dC dI ar cy _ hN st2 sl3 (5 + n5) n4 gb (by omega) hG.1 ((⟨by rw [hf6.1], by rw [hf6.2.1], by omega, by omega⟩ : TS st2 n4 gb))) (cwV 1 hts gX12_readPerson_X12_readNew rfl rfl rfl (by decide +kernel) ⟨Nat.le_of_ble_eq_true rfl, Nat.le_of_ble_eq_true rfl⟩) ⟨fun a U g mk q => ⟨q.1, mPre.blind q.2⟩, va_recv hK hP (ci := 11) (q0 := 0) rfl rfl, fun U hU hW => ⟨rfl, mPre.of hP hK hU hW⟩⟩ rfl rfl hl.1 rfl (lv_room (Nat.le_of_ble_eq_true rfl)) dX12_readPerson_23 ⟨Nat.le_of_ble_eq_true rfl, Nat.le_of_ble_eq_true rfl⟩) hS (fun q _ h => MA.le hS.1 q h) (MA.le hS.1) (fun r11 x t H locs ht hvm hw hB _ _ hS => ?_)
    have hP := mB.at ht hB
    clear hB ht hvm
    obtain ⟨st12, sl13⟩ := x
    obtain ⟨hG2, hL2, hw⟩ := hw
    have hL : LQ [7, 9] sl sl13 := hL.tr hL2 (by decide)
    clear hL2
    dsimp only at hw
    have hP : va_P (dC, dI) vwCl (mw ar cy st12 sl13) _ := hP
    have hG : MG [1, 2, 3, 6, 7, 8, 9, 10, 11, 12, 13, 14, 15, 20, 21, 22] st st12 := hG.tr hG2 (by decide)
    have hGst12 : MG [1, 2, 3, 6, 7, 8, 9, 10, 11, 12, 13, 14, 15, 19, 20, 21, 22] st2 st12 := hG2
    clear hG2
    rcases hw with ⟨n14, rfl, hf15, hf16, hf17⟩ | rfl
    · have hf15c := hf15.2.2.1
      have hf15d := hf15.2.2.2
      refine lv_if_eq (tgt := 51) hx hb dX12_readPerson_26 (by decide) (fun cc => absurd cc (by decide)) (fun _ => ?_)
      refine lv_aload_n hx hb dX12_readPerson_29 rfl (lv_at hl 1 rfl) ?_
      refine lv_bipush (v := 10) hx hb dX12_readPerson_30 (by decide) ?_
      refine lv_iload_n hx hb dX12_readPerson_32 rfl (lv_at hl 0 rfl) ?_
      refine lv_iadd hx hb dX12_readPerson_33 ?_
      refine zz_top (v := nI (10 + n5)) (nI_add 10 n5) ?_
      refine lv_aload_n hx hb dX12_readPerson_34 rfl (lv_at hl 1 rfl) ?_
      refine lv_iconst (v := 0) hx hb dX12_readPerson_35 (by decide) ?_
      refine lv_aload_n hx hb dX12_readPerson_36 rfl (lv_at hl 1 rfl) ?_
      refine va_get (D := (dC, dI)) (ci := 11) (v := .ref (ar 3)) (C := RX12) (T := TX12) (N := 47) hx hb hts ii_X12_readPerson hown hK hP 0 rfl rfl 15 (by decide) (hts _ mm_X12_readPerson_1) (fun _ hh => hh) rfl dX12_readPerson_37 ?_
      refine lv_iconst (v := 0) hx hb dX12_readPerson_40 (by decide) ?_
      refine va_iald hx hb hK hP 3 2 rfl rfl (i := 0) (zz_in (by decide)) dX12_readPerson_41 ?_
      obtain ⟨n18, hn18, en18⟩ := hG.1.at (r := 3) (k := 0) (by decide : mr 3 0 = 6) (by decide)
      refine zz_top (v := nI n18) (by exact en18) ?_
      refine va_calli (va_runV (As := [.int 0, .int (nI n18)]) (rest := [.int (nI (10 + n5)), .ref (ar 0)]) ⟨hx, hb, hml, hown, hts⟩ (m_readOne0 l dC dI ar cy _ hN st12 sl13 n18 n14 gb (by omega) hG.1 ((⟨by rw [hf15.1], by rw [hf15.2.1], by omega, by omega⟩ : TS st12 n14 gb))) (cwV 2 hts gX12_readPerson_X12_readOne rfl rfl rfl (by decide +kernel) ⟨Nat.le_of_ble_eq_true rfl, Nat.le_of_ble_eq_true rfl⟩) ⟨fun a U g mk q => ⟨q.1, mPre.blind q.2⟩, va_recv hK hP (ci := 11) (q0 := 0) rfl rfl, fun U hU hW => ⟨rfl, mPre.of hP hK hU hW⟩⟩ rfl rfl hl.1 rfl (lv_room (Nat.le_of_ble_eq_true rfl)) dX12_readPerson_42 ⟨Nat.le_of_ble_eq_true rfl, Nat.le_of_ble_eq_true rfl⟩) hS (fun q _ h => MA.le hS.1 q h) (MA.le hS.1) (fun r19 x t H locs ht hvm hw hB _ _ hS => ?_)
      have hP := mB.at ht hB
      clear hB ht hvm
      obtain ⟨st20, sl21⟩ := x
      obtain ⟨hG2, hL2, hw⟩ := hw
      have hL : LQ [7, 9] sl sl21 := hL.tr hL2 (by decide)
      clear hL2
      dsimp only at hw
      have hP : va_P (dC, dI) vwCl (mw ar cy st20 sl21) _ := hP
      have hG : MG [1, 2, 3, 6, 7, 8, 9, 10, 11, 12, 13, 14, 15, 20, 21, 22] st st20 := hG.tr hG2 (by decide)
      have hGst20 : MG [1, 2, 3, 6, 7, 8, 9, 10, 11, 12, 13, 14, 15, 19, 20, 21, 22] st12 st20 := hG2
      clear hG2
      rcases hw with ⟨n22, n23, rfl, hf24, hf25, hf26, hf27, hf28⟩ | rfl
      · have hf24c := hf24.2.2.1
        have hf24d := hf24.2.2.2
        refine va_calli (va_runV (As := [.int (nI (10 + n5)), .int 1]) (rest := []) ⟨hx, hb, hml, hown, hts⟩ (m_put10 l dC dI ar cy _ hN st20 sl21 (10 + n5) (by omega) (by omega) hG.1 (⟨n23, by omega, by rw [hf27]⟩)) (cwV 2 hts gX12_readPerson_X12_put rfl rfl rfl (by decide +kernel) ⟨Nat.le_of_ble_eq_true rfl, Nat.le_of_ble_eq_true rfl⟩) ⟨fun a U g mk q => ⟨q.1, mPre.blind q.2⟩, va_recv hK hP (ci := 11) (q0 := 0) rfl rfl, fun U hU hW => ⟨rfl, mPre.of hP hK hU hW⟩⟩ rfl rfl hl.1 rfl (lv_room (Nat.le_of_ble_eq_true rfl)) dX12_readPerson_45 ⟨Nat.le_of_ble_eq_true rfl, Nat.le_of_ble_eq_true rfl⟩) hS (fun q _ h => MA.le hS.1 q h) (MA.le hS.1) (fun r29 x t H locs ht hvm hw hB _ _ hS => ?_)
        have hP := mB.at ht hB
        clear hB ht hvm
        obtain ⟨st30, sl31⟩ := x
        obtain ⟨hG2, hL2, hw⟩ := hw
        have hL : LQ [7, 9] sl sl31 := hL.tr hL2 (by decide)
        clear hL2
        have hP : va_P (dC, dI) vwCl (mw ar cy st30 sl31) _ := hP
        have hG : MG [1, 2, 3, 6, 7, 8, 9, 10, 11, 12, 13, 14, 15, 20, 21, 22] st st30 := hG.tr hG2 (by decide)
        have hGst30 : MG [1, 2, 3, 4, 5, 6, 7, 8, 9, 10, 11, 12, 13, 14, 15, 16, 17, 19, 20, 21, 22, 23] st20 st30 := hG2
        clear hG2
        obtain rfl := hw
        refine lv_if_ne (tgt := 53) hx hb dX12_readPerson_48 (by decide) (fun _ => ?_) (fun cc => absurd cc (by decide))
        refine lv_aload_n hx hb dX12_readPerson_53 rfl (lv_at hl 1 rfl) ?_
        refine lv_bipush (v := 18) hx hb dX12_readPerson_54 (by decide) ?_
        refine lv_iload_n hx hb dX12_readPerson_56 rfl (lv_at hl 0 rfl) ?_
        refine lv_iadd hx hb dX12_readPerson_57 ?_
        refine zz_top (v := nI (18 + n5)) (nI_add 18 n5) ?_
        refine lv_aload_n hx hb dX12_readPerson_58 rfl (lv_at hl 1 rfl) ?_
        refine lv_iconst (v := 0) hx hb dX12_readPerson_59 (by decide) ?_
        refine lv_bipush (v := 23) hx hb dX12_readPerson_60 (by decide) ?_
        refine va_calli (va_runV (As := [.int 0, .int 23]) (rest := [.int (nI (18 + n5)), .ref (ar 0)]) ⟨hx, hb, hml, hown, hts⟩ (m_readNumber l dC dI ar cy _ hN st30 sl31 0 23 n22 gb  hG.1 ((⟨by rw [hGst30.2 0 5 (by decide), hf24.1], by rw [hGst30.2 0 3 (by decide), hf24.2.1], by omega, by omega⟩ : TS st30 n22 gb))) (cwV 2 hts gX12_readPerson_X12_readNumber rfl rfl rfl (by decide +kernel) ⟨Nat.le_of_ble_eq_true rfl, Nat.le_of_ble_eq_true rfl⟩) ⟨fun a U g mk q => ⟨q.1, mPre.blind q.2⟩, va_recv hK hP (ci := 11) (q0 := 0) rfl rfl, fun U hU hW => ⟨rfl, mPre.of hP hK hU hW⟩⟩ rfl rfl hl.1 rfl (lv_room (Nat.le_of_ble_eq_true rfl)) dX12_readPerson_62 ⟨Nat.le_of_ble_eq_true rfl, Nat.le_of_ble_eq_true rfl⟩) hS (fun q _ h => MA.le hS.1 q h) (MA.le hS.1) (fun r32 x t H locs ht hvm hw hB _ _ hS => ?_)
        have hP := mB.at ht hB
        clear hB ht hvm
        obtain ⟨st33, sl34⟩ := x
        obtain ⟨hG2, hL2, hw⟩ := hw
        have hL : LQ [7, 9] sl sl34 := hL.tr hL2 (by decide)
        clear hL2
        dsimp only at hw
        have hP : va_P (dC, dI) vwCl (mw ar cy st33 sl34) _ := hP
        have hG : MG [1, 2, 3, 6, 7, 8, 9, 10, 11, 12, 13, 14, 15, 20, 21, 22] st st33 := hG.tr hG2 (by decide)
        have hGst33 : MG [1, 2, 3, 6, 7, 8, 9, 10, 11, 12, 13, 14, 15, 19, 20, 21, 22] st30 st33 := hG2
        clear hG2
        rcases hw with ⟨n35, z36, rfl, hf37, hf38, hf39, hf40, hf41, hf42⟩ | rfl
        · have hf37c := hf37.2.2.1
          have hf37d := hf37.2.2.2
          obtain ⟨n43, hn43a, hn43b, rfl⟩ := zz_rng (a := 0) (b := 23) (by omega) hf41 (by omega) hf42
          refine va_calli (va_runV (As := [.int (nI (18 + n5)), .int 1]) (rest := []) ⟨hx, hb, hml, hown, hts⟩ (m_put18 l dC dI ar cy _ hN st33 sl34 (18 + n5) (by omega) (by omega) hG.1) (cwV 2 hts gX12_readPerson_X12_put rfl rfl rfl (by decide +kernel) ⟨Nat.le_of_ble_eq_true rfl, Nat.le_of_ble_eq_true rfl⟩) ⟨fun a U g mk q => ⟨q.1, mPre.blind q.2⟩, va_recv hK hP (ci := 11) (q0 := 0) rfl rfl, fun U hU hW => ⟨rfl, mPre.of hP hK hU hW⟩⟩ rfl rfl hl.1 rfl (lv_room (Nat.le_of_ble_eq_true rfl)) dX12_readPerson_65 ⟨Nat.le_of_ble_eq_true rfl, Nat.le_of_ble_eq_true rfl⟩) hS (fun q _ h => MA.le hS.1 q h) (MA.le hS.1) (fun r44 x t H locs ht hvm hw hB _ _ hS => ?_)
          have hP := mB.at ht hB
          clear hB ht hvm
          obtain ⟨st45, sl46⟩ := x
          obtain ⟨hG2, hL2, hw⟩ := hw
          have hL : LQ [7, 9] sl sl46 := hL.tr hL2 (by decide)
          clear hL2
          have hP : va_P (dC, dI) vwCl (mw ar cy st45 sl46) _ := hP
          have hG : MG [1, 2, 3, 6, 7, 8, 9, 10, 11, 12, 13, 14, 15, 20, 21, 22] st st45 := hG.tr hG2 (by decide)
          have hGst45 : MG [1, 2, 3, 4, 5, 6, 7, 8, 9, 10, 11, 12, 13, 14, 15, 16, 17, 19, 20, 21, 22, 23] st33 st45 := hG2
          clear hG2
          obtain rfl := hw
          refine lv_if_eq (tgt := 115) hx hb dX12_readPerson_68 (by decide) (fun cc => absurd cc (by decide)) (fun _ => ?_)
          refine lv_aload_n hx hb dX12_readPerson_71 rfl (lv_at hl 1 rfl) ?_
          refine lv_bipush (v := 26) hx hb dX12_readPerson_72 (by decide) ?_
          refine lv_iload_n hx hb dX12_readPerson_74 rfl (lv_at hl 0 rfl) ?_
          refine lv_iadd hx hb dX12_readPerson_75 ?_
          refine zz_top (v := nI (26 + n5)) (nI_add 26 n5) ?_
          refine lv_aload_n hx hb dX12_readPerson_76 rfl (lv_at hl 1 rfl) ?_
          refine lv_aload_n hx hb dX12_readPerson_77 rfl (lv_at hl 1 rfl) ?_
          refine va_get (D := (dC, dI)) (ci := 11) (v := .ref (ar 3)) (C := RX12) (T := TX12) (N := 47) hx hb hts ii_X12_readPerson hown hK hP 0 rfl rfl 15 (by decide) (hts _ mm_X12_readPerson_1) (fun _ hh => hh) rfl dX12_readPerson_78 ?_
          refine lv_bipush (v := 18) hx hb dX12_readPerson_81 (by decide) ?_
          refine lv_iload_n hx hb dX12_readPerson_83 rfl (lv_at hl 0 rfl) ?_
          refine lv_iadd hx hb dX12_readPerson_84 ?_
          refine zz_top (v := nI (18 + n5)) (nI_add 18 n5) ?_
          refine va_iald hx hb hK hP 3 2 rfl rfl (i := (nI (18 + n5))) (vp_in_nI (by omega) (by decide)) dX12_readPerson_85 ?_
          refine lv_topi (fun z47 ez47 => ?_)
          refine lv_bipush (v := 23) hx hb dX12_readPerson_86 (by decide) ?_
          refine va_calli (va_runV (As := [.int z47, .int 23]) (rest := [.int (nI (26 + n5)), .ref (ar 0)]) ⟨hx, hb, hml, hown, hts⟩ (m_readNumber l dC dI ar cy _ hN st45 sl46 z47 23 n35 gb  hG.1 ((⟨by rw [hGst45.2 0 5 (by decide), hf37.1], by rw [hGst45.2 0 3 (by decide), hf37.2.1], by omega, by omega⟩ : TS st45 n35 gb))) (cwV 2 hts gX12_readPerson_X12_readNumber rfl rfl rfl (by decide +kernel) ⟨Nat.le_of_ble_eq_true rfl, Nat.le_of_ble_eq_true rfl⟩) ⟨fun a U g mk q => ⟨q.1, mPre.blind q.2⟩, va_recv hK hP (ci := 11) (q0 := 0) rfl rfl, fun U hU hW => ⟨rfl, mPre.of hP hK hU hW⟩⟩ rfl rfl hl.1 rfl (lv_room (Nat.le_of_ble_eq_true rfl)) dX12_readPerson_88 ⟨Nat.le_of_ble_eq_true rfl, Nat.le_of_ble_eq_true rfl⟩) hS (fun q _ h => MA.le hS.1 q h) (MA.le hS.1) (fun r48 x t H locs ht hvm hw hB _ _ hS => ?_)
          have hP := mB.at ht hB
          clear hB ht hvm
          obtain ⟨st49, sl50⟩ := x
          obtain ⟨hG2, hL2, hw⟩ := hw
          have hL : LQ [7, 9] sl sl50 := hL.tr hL2 (by decide)
          clear hL2
          dsimp only at hw
          have hP : va_P (dC, dI) vwCl (mw ar cy st49 sl50) _ := hP
          have hG : MG [1, 2, 3, 6, 7, 8, 9, 10, 11, 12, 13, 14, 15, 20, 21, 22] st st49 := hG.tr hG2 (by decide)
          have hGst49 : MG [1, 2, 3, 6, 7, 8, 9, 10, 11, 12, 13, 14, 15, 19, 20, 21, 22] st45 st49 := hG2
          clear hG2
          rcases hw with ⟨n51, z52, rfl, hf53, hf54, hf55, hf56, hf57, hf58⟩ | rfl
          · have hf53c := hf53.2.2.1
            have hf53d := hf53.2.2.2
            refine va_calli (va_runV (As := [.int (nI (26 + n5)), .int 1]) (rest := []) ⟨hx, hb, hml, hown, hts⟩ (m_put26 l dC dI ar cy _ hN st49 sl50 (26 + n5) (by omega) (by omega) hG.1) (cwV 2 hts gX12_readPerson_X12_put rfl rfl rfl (by decide +kernel) ⟨Nat.le_of_ble_eq_true rfl, Nat.le_of_ble_eq_true rfl⟩) ⟨fun a U g mk q => ⟨q.1, mPre.blind q.2⟩, va_recv hK hP (ci := 11) (q0 := 0) rfl rfl, fun U hU hW => ⟨rfl, mPre.of hP hK hU hW⟩⟩ rfl rfl hl.1 rfl (lv_room (Nat.le_of_ble_eq_true rfl)) dX12_readPerson_91 ⟨Nat.le_of_ble_eq_true rfl, Nat.le_of_ble_eq_true rfl⟩) hS (fun q _ h => MA.le hS.1 q h) (MA.le hS.1) (fun r59 x t H locs ht hvm hw hB _ _ hS => ?_)
            have hP := mB.at ht hB
            clear hB ht hvm
            obtain ⟨st60, sl61⟩ := x
            obtain ⟨hG2, hL2, hw⟩ := hw
            have hL : LQ [7, 9] sl sl61 := hL.tr hL2 (by decide)
            clear hL2
            have hP : va_P (dC, dI) vwCl (mw ar cy st60 sl61) _ := hP
            have hG : MG [1, 2, 3, 6, 7, 8, 9, 10, 11, 12, 13, 14, 15, 20, 21, 22] st st60 := hG.tr hG2 (by decide)
            have hGst60 : MG [1, 2, 3, 4, 5, 6, 7, 8, 9, 10, 11, 12, 13, 14, 15, 16, 17, 19, 20, 21, 22, 23] st49 st60 := hG2
            clear hG2
            obtain rfl := hw
            refine lv_if_eq (tgt := 115) hx hb dX12_readPerson_94 (by decide) (fun cc => absurd cc (by decide)) (fun _ => ?_)
            refine lv_aload_n hx hb dX12_readPerson_97 rfl (lv_at hl 1 rfl) ?_
            refine lv_bipush (v := 34) hx hb dX12_readPerson_98 (by decide) ?_
            refine lv_iload_n hx hb dX12_readPerson_100 rfl (lv_at hl 0 rfl) ?_
            refine lv_iadd hx hb dX12_readPerson_101 ?_
            refine zz_top (v := nI (34 + n5)) (nI_add 34 n5) ?_
            refine lv_aload_n hx hb dX12_readPerson_102 rfl (lv_at hl 1 rfl) ?_
            refine lv_iconst (v := 0) hx hb dX12_readPerson_103 (by decide) ?_
            refine lv_bipush (v := 30) hx hb dX12_readPerson_104 (by decide) ?_
            refine va_calli (va_runV (As := [.int 0, .int 30]) (rest := [.int (nI (34 + n5)), .ref (ar 0)]) ⟨hx, hb, hml, hown, hts⟩ (m_readNumber l dC dI ar cy _ hN st60 sl61 0 30 n51 gb  hG.1 ((⟨by rw [hGst60.2 0 5 (by decide), hf53.1], by rw [hGst60.2 0 3 (by decide), hf53.2.1], by omega, by omega⟩ : TS st60 n51 gb))) (cwV 2 hts gX12_readPerson_X12_readNumber rfl rfl rfl (by decide +kernel) ⟨Nat.le_of_ble_eq_true rfl, Nat.le_of_ble_eq_true rfl⟩) ⟨fun a U g mk q => ⟨q.1, mPre.blind q.2⟩, va_recv hK hP (ci := 11) (q0 := 0) rfl rfl, fun U hU hW => ⟨rfl, mPre.of hP hK hU hW⟩⟩ rfl rfl hl.1 rfl (lv_room (Nat.le_of_ble_eq_true rfl)) dX12_readPerson_106 ⟨Nat.le_of_ble_eq_true rfl, Nat.le_of_ble_eq_true rfl⟩) hS (fun q _ h => MA.le hS.1 q h) (MA.le hS.1) (fun r62 x t H locs ht hvm hw hB _ _ hS => ?_)
            have hP := mB.at ht hB
            clear hB ht hvm
            obtain ⟨st63, sl64⟩ := x
            obtain ⟨hG2, hL2, hw⟩ := hw
            have hL : LQ [7, 9] sl sl64 := hL.tr hL2 (by decide)
            clear hL2
            dsimp only at hw
            have hP : va_P (dC, dI) vwCl (mw ar cy st63 sl64) _ := hP
            have hG : MG [1, 2, 3, 6, 7, 8, 9, 10, 11, 12, 13, 14, 15, 20, 21, 22] st st63 := hG.tr hG2 (by decide)
            have hGst63 : MG [1, 2, 3, 6, 7, 8, 9, 10, 11, 12, 13, 14, 15, 19, 20, 21, 22] st60 st63 := hG2
            clear hG2
            rcases hw with ⟨n65, z66, rfl, hf67, hf68, hf69, hf70, hf71, hf72⟩ | rfl
            · have hf67c := hf67.2.2.1
              have hf67d := hf67.2.2.2
              obtain ⟨n73, hn73a, hn73b, rfl⟩ := zz_rng (a := 0) (b := 30) (by omega) hf71 (by omega) hf72
              refine va_calli (va_runV (As := [.int (nI (34 + n5)), .int 1]) (rest := []) ⟨hx, hb, hml, hown, hts⟩ (m_put34 l dC dI ar cy _ hN st63 sl64 (34 + n5) (by omega) (by omega) hG.1) (cwV 2 hts gX12_readPerson_X12_put rfl rfl rfl (by decide +kernel) ⟨Nat.le_of_ble_eq_true rfl, Nat.le_of_ble_eq_true rfl⟩) ⟨fun a U g mk q => ⟨q.1, mPre.blind q.2⟩, va_recv hK hP (ci := 11) (q0 := 0) rfl rfl, fun U hU hW => ⟨rfl, mPre.of hP hK hU hW⟩⟩ rfl rfl hl.1 rfl (lv_room (Nat.le_of_ble_eq_true rfl)) dX12_readPerson_109 ⟨Nat.le_of_ble_eq_true rfl, Nat.le_of_ble_eq_true rfl⟩) hS (fun q _ h => MA.le hS.1 q h) (MA.le hS.1) (fun r74 x t H locs ht hvm hw hB _ _ hS => ?_)
              have hP := mB.at ht hB
              clear hB ht hvm
              obtain ⟨st75, sl76⟩ := x
              obtain ⟨hG2, hL2, hw⟩ := hw
              have hL : LQ [7, 9] sl sl76 := hL.tr hL2 (by decide)
              clear hL2
              have hP : va_P (dC, dI) vwCl (mw ar cy st75 sl76) _ := hP
              have hG : MG [1, 2, 3, 6, 7, 8, 9, 10, 11, 12, 13, 14, 15, 20, 21, 22] st st75 := hG.tr hG2 (by decide)
              have hGst75 : MG [1, 2, 3, 4, 5, 6, 7, 8, 9, 10, 11, 12, 13, 14, 15, 16, 17, 19, 20, 21, 22, 23] st63 st75 := hG2
              clear hG2
              obtain rfl := hw
              refine lv_if_ne (tgt := 117) hx hb dX12_readPerson_112 (by decide) (fun _ => ?_) (fun cc => absurd cc (by decide))
              refine lv_aload_n hx hb dX12_readPerson_117 rfl (lv_at hl 1 rfl) ?_
              refine va_get (D := (dC, dI)) (ci := 11) (v := .ref (ar 3)) (C := RX12) (T := TX12) (N := 47) hx hb hts ii_X12_readPerson hown hK hP 0 rfl rfl 15 (by decide) (hts _ mm_X12_readPerson_1) (fun _ hh => hh) rfl dX12_readPerson_118 ?_
              refine lv_iconst (v := 1) hx hb dX12_readPerson_121 (by decide) ?_
              refine lv_dup2_11 hx hb dX12_readPerson_122 rfl rfl ?_
              refine va_iald hx hb hK hP 3 2 rfl rfl (i := 1) (zz_in (by decide)) dX12_readPerson_123 ?_
              refine zz_top (v := (nI n5)) (by show st75 3 1 = _; rw [hGst75.2 3 1 (by decide), hGst63.2 3 1 (by decide), hGst60.2 3 1 (by decide), hGst49.2 3 1 (by decide), hGst45.2 3 1 (by decide), hGst33.2 3 1 (by decide), hGst30.2 3 1 (by decide), hGst20.2 3 1 (by decide), hGst12.2 3 1 (by decide), hf9]) ?_
              refine lv_iconst (v := 1) hx hb dX12_readPerson_124 (by decide) ?_
              refine lv_iadd hx hb dX12_readPerson_125 ?_
              refine zz_top (v := nI (n5 + 1)) (nI_add n5 1) ?_
              refine va_iast hx hb hK hP (mD hN _ _ _ _) hS 3 2 rfl rfl (i := 1) (zz_in (by decide)) dX12_readPerson_126 (fun H locs hP _ hS => ?_)
              have hP : va_P (dC, dI) vwCl (mw ar cy (up2 st75 3 1 (nI (n5 + 1))) sl76) H := hP
              obtain ⟨st77, est77⟩ : ∃ y, y = up2 st75 3 1 (nI (n5 + 1)) := ⟨_, rfl⟩
              have hG : MG [1, 2, 3, 6, 7, 8, 9, 10, 11, 12, 13, 14, 15, 20, 21, 22] st st77 := by rw [est77]; exact hG.up (rn (n := (n5 + 1)) (by decide : mr 3 1 = 9) (by omega)) (pn (by decide : pcl 3 1 = 19) (by decide))
              rw [← est77] at hP
              refine lv_iconst (v := 1) hx hb dX12_readPerson_127 (by decide) ?_
              exact W.zret (v := 1) hx hb hr rfl (fun t ht hW => ⟨⟨1, (st77, sl76), rfl, ⟨hG, hL, Or.inl (⟨n65, rfl, (show TS st77 n65 gb from ⟨by rw [est77, up2_ne (r := 3) (k := 1) (a := 0) (j := 5) _ _ (by omega), hGst75.2 0 5 (by decide), hf67.1], by rw [est77, up2_ne (r := 3) (k := 1) (a := 0) (j := 3) _ _ (by omega), hGst75.2 0 3 (by decide), hf67.2.1], by omega, by omega⟩), by omega, fun (hh : st77 0 7 = 4) => by have hk := hf69 (by rw [est77, up2_ne (r := 3) (k := 1) (a := 0) (j := 7) _ _ (by omega), hGst75.2 0 7 (by decide)] at hh; exact hh); omega⟩)⟩, mB.of ht hP⟩, hS.F ht⟩) hS.2.2 dX12_readPerson_128
            · refine va_calli (va_runV (As := [.int (nI (34 + n5)), .int 0]) (rest := []) ⟨hx, hb, hml, hown, hts⟩ (m_put0 l dC dI ar cy _ hN st63 sl64 (nI (34 + n5))  hG.1) (cwV 2 hts gX12_readPerson_X12_put rfl rfl rfl (by decide +kernel) ⟨Nat.le_of_ble_eq_true rfl, Nat.le_of_ble_eq_true rfl⟩) ⟨fun a U g mk q => ⟨q.1, mPre.blind q.2⟩, va_recv hK hP (ci := 11) (q0 := 0) rfl rfl, fun U hU hW => ⟨rfl, mPre.of hP hK hU hW⟩⟩ rfl rfl hl.1 rfl (lv_room (Nat.le_of_ble_eq_true rfl)) dX12_readPerson_109 ⟨Nat.le_of_ble_eq_true rfl, Nat.le_of_ble_eq_true rfl⟩) hS (fun q _ h => MA.le hS.1 q h) (MA.le hS.1) (fun r78 x t H locs ht hvm hw hB _ _ hS => ?_)
              have hP := mB.at ht hB
              clear hB ht hvm
              obtain ⟨rfl, hw⟩ := hw
              have hP : va_P (dC, dI) vwCl (mw ar cy st63 sl64) _ := hP
              obtain rfl := hw
              refine lv_if_ne (tgt := 117) hx hb dX12_readPerson_112 (by decide) (fun cc => absurd (by decide) cc) (fun _ => ?_)
              refine lv_iconst (v := 0) hx hb dX12_readPerson_115 (by decide) ?_
              exact W.zret (v := 0) hx hb hr rfl (fun t ht hW => ⟨⟨0, (st63, sl64), rfl, ⟨hG, hL, Or.inr (rfl)⟩, mB.of ht hP⟩, hS.F ht⟩) hS.2.2 dX12_readPerson_116
          · refine va_calli (va_runV (As := [.int (nI (26 + n5)), .int 0]) (rest := []) ⟨hx, hb, hml, hown, hts⟩ (m_put0 l dC dI ar cy _ hN st49 sl50 (nI (26 + n5))  hG.1) (cwV 2 hts gX12_readPerson_X12_put rfl rfl rfl (by decide +kernel) ⟨Nat.le_of_ble_eq_true rfl, Nat.le_of_ble_eq_true rfl⟩) ⟨fun a U g mk q => ⟨q.1, mPre.blind q.2⟩, va_recv hK hP (ci := 11) (q0 := 0) rfl rfl, fun U hU hW => ⟨rfl, mPre.of hP hK hU hW⟩⟩ rfl rfl hl.1 rfl (lv_room (Nat.le_of_ble_eq_true rfl)) dX12_readPerson_91 ⟨Nat.le_of_ble_eq_true rfl, Nat.le_of_ble_eq_true rfl⟩) hS (fun q _ h => MA.le hS.1 q h) (MA.le hS.1) (fun r79 x t H locs ht hvm hw hB _ _ hS => ?_)
            have hP := mB.at ht hB
            clear hB ht hvm
            obtain ⟨rfl, hw⟩ := hw
            have hP : va_P (dC, dI) vwCl (mw ar cy st49 sl50) _ := hP
            obtain rfl := hw
            refine lv_if_eq (tgt := 115) hx hb dX12_readPerson_94 (by decide) (fun _ => ?_) (fun cc => absurd (by decide) cc)
            refine lv_iconst (v := 0) hx hb dX12_readPerson_115 (by decide) ?_
            exact W.zret (v := 0) hx hb hr rfl (fun t ht hW => ⟨⟨0, (st49, sl50), rfl, ⟨hG, hL, Or.inr (rfl)⟩, mB.of ht hP⟩, hS.F ht⟩) hS.2.2 dX12_readPerson_116
        · refine va_calli (va_runV (As := [.int (nI (18 + n5)), .int 0]) (rest := []) ⟨hx, hb, hml, hown, hts⟩ (m_put0 l dC dI ar cy _ hN st33 sl34 (nI (18 + n5))  hG.1) (cwV 2 hts gX12_readPerson_X12_put rfl rfl rfl (by decide +kernel) ⟨Nat.le_of_ble_eq_true rfl, Nat.le_of_ble_eq_true rfl⟩) ⟨fun a U g mk q => ⟨q.1, mPre.blind q.2⟩, va_recv hK hP (ci := 11) (q0 := 0) rfl rfl, fun U hU hW => ⟨rfl, mPre.of hP hK hU hW⟩⟩ rfl rfl hl.1 rfl (lv_room (Nat.le_of_ble_eq_true rfl)) dX12_readPerson_65 ⟨Nat.le_of_ble_eq_true rfl, Nat.le_of_ble_eq_true rfl⟩) hS (fun q _ h => MA.le hS.1 q h) (MA.le hS.1) (fun r80 x t H locs ht hvm hw hB _ _ hS => ?_)
          have hP := mB.at ht hB
          clear hB ht hvm
          obtain ⟨rfl, hw⟩ := hw
          have hP : va_P (dC, dI) vwCl (mw ar cy st33 sl34) _ := hP
          obtain rfl := hw
          refine lv_if_eq (tgt := 115) hx hb dX12_readPerson_68 (by decide) (fun _ => ?_) (fun cc => absurd (by decide) cc)
          refine lv_iconst (v := 0) hx hb dX12_readPerson_115 (by decide) ?_
          exact W.zret (v := 0) hx hb hr rfl (fun t ht hW => ⟨⟨0, (st33, sl34), rfl, ⟨hG, hL, Or.inr (rfl)⟩, mB.of ht hP⟩, hS.F ht⟩) hS.2.2 dX12_readPerson_116
      · refine va_calli (va_runV (As := [.int (nI (10 + n5)), .int 0]) (rest := []) ⟨hx, hb, hml, hown, hts⟩ (m_put0 l dC dI ar cy _ hN st20 sl21 (nI (10 + n5))  hG.1) (cwV 2 hts gX12_readPerson_X12_put rfl rfl rfl (by decide +kernel) ⟨Nat.le_of_ble_eq_true rfl, Nat.le_of_ble_eq_true rfl⟩) ⟨fun a U g mk q => ⟨q.1, mPre.blind q.2⟩, va_recv hK hP (ci := 11) (q0 := 0) rfl rfl, fun U hU hW => ⟨rfl, mPre.of hP hK hU hW⟩⟩ rfl rfl hl.1 rfl (lv_room (Nat.le_of_ble_eq_true rfl)) dX12_readPerson_45 ⟨Nat.le_of_ble_eq_true rfl, Nat.le_of_ble_eq_true rfl⟩) hS (fun q _ h => MA.le hS.1 q h) (MA.le hS.1) (fun r81 x t H locs ht hvm hw hB _ _ hS => ?_)
        have hP := mB.at ht hB
        clear hB ht hvm
        obtain ⟨rfl, hw⟩ := hw
        have hP : va_P (dC, dI) vwCl (mw ar cy st20 sl21) _ := hP
        obtain rfl := hw
        refine lv_if_ne (tgt := 53) hx hb dX12_readPerson_48 (by decide) (fun cc => absurd (by decide) cc) (fun _ => ?_)
        refine lv_iconst (v := 0) hx hb dX12_readPerson_51 (by decide) ?_
        exact W.zret (v := 0) hx hb hr rfl (fun t ht hW => ⟨⟨0, (st20, sl21), rfl, ⟨hG, hL, Or.inr (rfl)⟩, mB.of ht hP⟩, hS.F ht⟩) hS.2.2 dX12_readPerson_52
    · refine lv_if_eq (tgt := 51) hx hb dX12_readPerson_26 (by decide) (fun _ => ?_) (fun cc => absurd (by decide) cc)
      refine lv_iconst (v := 0) hx hb dX12_readPerson_51 (by decide) ?_
      exact W.zret (v := 0) hx hb hr rfl (fun t ht hW => ⟨⟨0, (st12, sl13), rfl, ⟨hG, hL, Or.inr (rfl)⟩, mB.of ht hP⟩, hS.F ht⟩) hS.2.2 dX12_readPerson_52
  · refine lv_if_ne (tgt := 12) hx hb dX12_readPerson_7 (by decide) (fun cc => absurd (by decide) cc) (fun _ => ?_)
    refine lv_iconst (v := 0) hx hb dX12_readPerson_10 (by decide) ?_
    exact W.zret (v := 0) hx hb hr rfl (fun t ht hW => ⟨⟨0, (st2, sl3), rfl, ⟨hG, hL, Or.inr (rfl)⟩, mB.of ht hP⟩, hS.F ht⟩) hS.2.2 dX12_readPerson_11
