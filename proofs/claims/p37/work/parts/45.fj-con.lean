set_option maxHeartbeats 4000000 in
set_option maxRecDepth 100000 in
theorem f_park (l : Launch) (dC : Nat → ClassId) (dI : Nat → Nat → Nat) (ar : Nat → Nat) (cy : Nat → ClassId) (sz : Nat) (hN : MN ar) (st : Nat → Nat → Int32) (sl : Nat → Nat → Int64) (B : Nat → Nat) (g : Nat) (hI : MI st) (ht : st 0 2 = nI g) (hg : g < 941) (hbt : ∀ j, j < g → st 1 j = nI (B j) ∧ B j < 256) : Met l yX12_park wsX12_park ({ frames := 6, cells := 0, slots := 0, locals := 133 }) (va_Pc [.ref (ar 0)] (mPre dC dI ar cy sz st sl)) (va_Qi (fun (r : Int32) (x : MT) => MG [2, 7, 8, 9, 10, 11, 12, 13, 14, 15, 20, 22] st x.1 ∧ (x.1 0 2 = 0 ∧ (NKn st → NKn x.1) ∧ r = pAns (pAll B g 900 900 0 (fun _ => 0) (fun _ _ => 0) 0) ∧ RKN (pAll B g 900 900 0 (fun _ => 0) (fun _ _ => 0) 0).1 st sl x.1 x.2)) (mB dC dI ar cy) (MA ar sz)) 0 0 (MA ar sz) := by
  refine Met.ofW (cc := cX12_park) (maxL := 3) (ret := (some .int)) (by decide) rfl ?_
  intro p9 e s m9 args below meth c9 s₁ B9 hml hv
  obtain ⟨rfl, hsz, hP, hK⟩ := hv
  have hx := B9.exec
  have hb := B9.bytes
  have hr := B9.returns
  have hts := atoms_spec (ws := wsX12_park) B9.pre
  have hown : s.vm.findClass RX12 = some m9.cls := findClass_of_methodNamed B9.named
  subst hsz
  have hS : va_S (MA ar s.heap.size) s.heap s.heap [] := va_S.rf
  have hG : MG [2, 7, 8, 9, 10, 11, 12, 13, 14, 15, 20, 22] st st := MG.rf hI
  have hl := lv_entry ([.ref (ar 0)]) (n := 3) (Nat.le_of_ble_eq_true rfl)
  rw [lg_entry_eq]
  generalize (lg_sl ([.ref (ar 0)]) ++ List.replicate (3 - (lg_sl ([.ref (ar 0)])).length) Slot.unset).toArray = ls at hl ⊢
  have hl : lv_has ls 3 [(0, .ref (ar 0))] := hl
  clear hI
  have hG6 : MG [6] st st := MG.rf hG.1
  have hG21 : MG [21] st st := MG.rf hG.1
  refine lv_aload_n hx hb dX12_park_0 rfl (lv_at hl 0 rfl) ?_
  refine lv_sipush (v := 900) hx hb dX12_park_1 (by decide) ?_
  refine va_callv (va_runV (As := [.int 900]) (rest := []) ⟨hx, hb, hml, hown, hts⟩ (f_begin l dC dI ar cy _ hN st sl B g hG.1 (ht) (hg) (hbt)) (cwV 1 hts gX12_park_X12_begin rfl rfl rfl (by decide +kernel) ⟨Nat.le_of_ble_eq_true rfl, Nat.le_of_ble_eq_true rfl⟩) ⟨fun a U g mk q => ⟨q.1, mPre.blind q.2⟩, va_recv hK hP (ci := 11) (q0 := 0) rfl rfl, fun U hU hW => ⟨rfl, mPre.of hP hK hU hW⟩⟩ rfl rfl hl.1 rfl (lv_room (Nat.le_of_ble_eq_true rfl)) dX12_park_4 ⟨Nat.le_of_ble_eq_true rfl, Nat.le_of_ble_eq_true rfl⟩) hS (fun q _ h => MA.le hS.1 q h) (MA.le hS.1) (fun x t H locs ht hvm hw hB9 _ _ hS => ?_)
  have hP := mB.at ht hB9
  clear hB9 ht hvm
  obtain ⟨st2, sl3⟩ := x
  obtain ⟨hG2, hw⟩ := hw
  dsimp only at hG2 hw
  have hP : va_P (dC, dI) vwCl (mw ar cy st2 sl3) _ := hP
  have hG : MG [2, 7, 8, 9, 10, 11, 12, 13, 14, 15, 20, 22] st st2 := hG.tr hG2 (by decide)
  have hG4 : MG [6] st st2 := hG6.tr hG2 (by decide)
  have hG5 : MG [21] st st2 := hG21.tr hG2 (by decide)
  have hMst2 : MG [2, 6, 7, 8, 9, 10, 11, 12, 13, 14, 15, 20, 21, 22] st st2 := hG2
  clear hG2
  obtain ⟨hf6, hT, hf7, hf8, hf9⟩ := hw
  obtain ⟨m, hm⟩ : ∃ m : Nat, m = 900 := ⟨_, rfl⟩
  have hB : MBt B g m st2 := by rw [hm]; exact hf6
  have hT : TM B g m 0 st2 sl3 := by rw [hm]; exact hT
  have hB1 := hB.2.2.1
  have hB2 := hB.2.2.2.1
  have hF : FM 4 st2 sl3 st2 sl3 := FM.rf
  have hp9 := hT.2.2.2.2.2.2
  have hk1 := tkd_lt (B := B) (g := g) (m := m) (p := 0)
  have hk2 := tkx_le (B := B) (g := g) (m := m) (p := 0) hp9
  have hk3 := tka_le (B := B) (g := g) (m := m) (p := 0) hp9 hB.2.2.1
  have hk4 := tkv_lt (p := 0) hB hp9
  have hk5 := tkw_lt (B := B) (g := g) (m := m) (p := 0)
  refine lv_iconst (v := 0) hx hb dX12_park_7 (by decide) ?_
  refine lv_istore_n (lv' := [(1, .int 0), (0, .ref (ar 0))]) hx hb dX12_park_8 rfl hl (by decide) rfl (fun ls hl => ?_)
  refine zz_wf (fun n stk H locs ls => ∃ k10 : Nat, ∃ st11 : Nat → Nat → Int32, ∃ sl12 : Nat → Nat → Int64, n = 62 - k10 ∧ 0 ≤ k10 ∧ k10 < 62 ∧ (∀ j, j < k10 → st11 3 j = 0) ∧ FM 4 st2 sl3 st11 sl12 ∧ TM B g m 0 st11 sl12 ∧ va_P (dC, dI) vwCl (mw ar cy st11 sl12) H ∧ MG [2, 7, 8, 9, 10, 11, 12, 13, 14, 15, 20, 22] st st11 ∧ MG [6] st st11 ∧ MG [21] st st11 ∧ va_S (MA ar s.heap.size) s.heap H locs ∧ lv_has ls 3 [(1, .int (nI k10)), (0, .ref (ar 0))] ∧ stk = []) ?_ (62 - 0) _ _ _ _ ⟨0, st2, sl3, rfl, by omega, by omega, by intro jj hk; omega, hF, hT, hP, hG, hG4, hG5, hS, lv_sub hl [0, 1] rfl, rfl⟩
  rintro nn stk H locs ls ⟨k10, st11, sl12, hm19, hv15_0, hv16_1, hv17_0, hv18_1, hv19_2, hP, hG, hG13, hG14, hS, hl, rfl⟩ ih20
  have hF := hv18_1
  have hT := hv19_2
  refine lv_iload_n hx hb dX12_park_9 rfl (lv_at hl 0 rfl) ?_
  refine lv_bipush (v := 61) hx hb dX12_park_10 (by decide) ?_
  refine lv_icmp_ge (tgt := 28) hx hb dX12_park_12 (by decide) (fun c1 => ?_) (fun c1 => ?_)
  · have c1 : 61 ≤ k10 := (nI_leI (a := 61) (b := k10) (by omega) (by omega)).mp c1
    refine lv_aload_n hx hb dX12_park_28 rfl (lv_at hl 1 rfl) ?_
    refine va_get (D := (dC, dI)) (ci := 11) (v := .ref (ar 3)) (C := RX12) (T := TX12) (N := 47) hx hb hts ii_X12_park hown hK hP 0 rfl rfl 15 (by decide) (hts _ mm_X12_park_1) (fun _ hh => hh) rfl dX12_park_29 ?_
    refine lv_bipush (v := 60) hx hb dX12_park_32 (by decide) ?_
    refine lv_iconst (v := 2) hx hb dX12_park_34 (by decide) ?_
    refine va_iast hx hb hK hP (mD hN _ _ _ _) hS 3 2 rfl rfl (i := 60) (zz_in (by decide)) dX12_park_35 (fun H locs hP _ hS => ?_)
    have hP : va_P (dC, dI) vwCl (mw ar cy (up2 st11 3 60 2) sl12) H := hP
    obtain ⟨st21, est21⟩ : ∃ y, y = up2 st11 3 60 2 := ⟨_, rfl⟩
    have hG : MG [2, 7, 8, 9, 10, 11, 12, 13, 14, 15, 20, 22] st st21 := by rw [est21]; exact hG.up (rn (n := 2) (by decide : mr 3 60 = 13) (by omega)) (pn (by decide : pcl 3 60 = 0) (by decide))
    have hG22 : MG [6] st st21 := by rw [est21]; exact hG13.up (rn (n := 2) (by decide : mr 3 60 = 13) (by omega)) (pn (by decide : pcl 3 60 = 0) (by decide))
    have hG23 : MG [21] st st21 := by rw [est21]; exact hG14.up (rn (n := 2) (by decide : mr 3 60 = 13) (by omega)) (pn (by decide : pcl 3 60 = 0) (by decide))
    rw [← est21] at hP
    have hF : FM 4 st2 sl3 st21 sl12 := by rw [est21]; exact hF.up (by decide)
    have hT : TM B g m 0 st21 sl12 := by rw [est21]; exact hT.up (by omega)
    refine lv_aload_n hx hb dX12_park_36 rfl (lv_at hl 1 rfl) ?_
    refine lv_iconst (v := 0) hx hb dX12_park_37 (by decide) ?_
    refine va_put (D := (dC, dI)) (ci := 11) (v := .int 0) (ty := .boolean) (C := RX12) (T := TX12) (N := 47) hx hb hts ii_X12_park tyX12 tyX12_ok nmX12 hown hK hP (mD hN _ _ _ _) hS 0 rfl rfl 24 (by decide) (hts _ mm_X12_park_2) (fun _ hh => hh) rfl (by decide +kernel) rfl rfl (Nat.le_of_ble_eq_true rfl) dX12_park_38 (fun H locs hP _ hS => ?_)
    have hP : va_P (dC, dI) vwCl (mw ar cy (up2 st21 0 24 0) sl12) H := hP
    obtain ⟨st24, est24⟩ : ∃ y, y = up2 st21 0 24 0 := ⟨_, rfl⟩
    have hG : MG [2, 7, 8, 9, 10, 11, 12, 13, 14, 15, 20, 22] st st24 := by rw [est24]; exact hG.up (rz (by decide : mr 0 24 = 0)) (pn (by decide : pcl 0 24 = 0) (by decide))
    have hG25 : MG [6] st st24 := by rw [est24]; exact hG22.up (rz (by decide : mr 0 24 = 0)) (pn (by decide : pcl 0 24 = 0) (by decide))
    have hG26 : MG [21] st st24 := by rw [est24]; exact hG23.up (rz (by decide : mr 0 24 = 0)) (pn (by decide : pcl 0 24 = 0) (by decide))
    rw [← est24] at hP
    have hF : FM 4 st2 sl3 st24 sl12 := by rw [est24]; exact hF.up (by decide)
    have hT : TM B g m 0 st24 sl12 := by rw [est24]; exact hT.up (by omega)
    refine lv_iconst (v := 0) hx hb dX12_park_41 (by decide) ?_
    refine lv_istore_n (lv' := [(1, .int 0), (0, .ref (ar 0))]) hx hb dX12_park_42 rfl hl (by decide) rfl (fun ls hl => ?_)
    refine zz_wf (fun n stk H locs ls => ∃ k27 : Nat, ∃ st28 : Nat → Nat → Int32, ∃ sl29 : Nat → Nat → Int64, n = 33 - k27 ∧ 0 ≤ k27 ∧ k27 < 33 ∧ (∃ (p7 : Nat) (c7_ : Nat → Nat) (n7 : Nat → Nat → Nat), TM B g m p7 st28 sl29 ∧ RT c7_ n7 st28 sl29 ∧ pAll B g m (900 - k27) p7 c7_ n7 k27 = pAll B g m 900 0 (fun _ => 0) (fun _ _ => 0) 0 ∧ k27 = c7_ 0 + c7_ 1 + c7_ 2 + c7_ 3 + c7_ 4) ∧ FM 4 st2 sl3 st28 sl29 ∧ va_P (dC, dI) vwCl (mw ar cy st28 sl29) H ∧ MG [2, 7, 8, 9, 10, 11, 12, 13, 14, 15, 20, 22] st st28 ∧ MG [6] st st28 ∧ MG [21] st st28 ∧ va_S (MA ar s.heap.size) s.heap H locs ∧ lv_has ls 3 [(1, .int (nI k27)), (0, .ref (ar 0))] ∧ stk = []) ?_ (33 - 0) _ _ _ _ ⟨0, st24, sl12, rfl, by omega, by omega, ⟨0, (fun _ => 0), (fun _ _ => 0), hT, ⟨(by show st24 3 0 = _; rw [est24, up2_ne (r := 0) (k := 24) (a := 3) (j := 0) _ _ (by omega), est21, up2_ne (r := 3) (k := 60) (a := 3) (j := 0) _ _ (by omega)]; exact hv17_0 0 (by omega)), (by show st24 3 1 = _; rw [est24, up2_ne (r := 0) (k := 24) (a := 3) (j := 1) _ _ (by omega), est21, up2_ne (r := 3) (k := 60) (a := 3) (j := 1) _ _ (by omega)]; exact hv17_0 1 (by omega)), (by show st24 3 2 = _; rw [est24, up2_ne (r := 0) (k := 24) (a := 3) (j := 2) _ _ (by omega), est21, up2_ne (r := 3) (k := 60) (a := 3) (j := 2) _ _ (by omega)]; exact hv17_0 2 (by omega)), (by show st24 3 3 = _; rw [est24, up2_ne (r := 0) (k := 24) (a := 3) (j := 3) _ _ (by omega), est21, up2_ne (r := 3) (k := 60) (a := 3) (j := 3) _ _ (by omega)]; exact hv17_0 3 (by omega)), by show st24 0 24 = _; rw [est24, up2_same]; rfl, by decide, fun a ha i hi => absurd hi (Nat.not_lt_zero i)⟩, rfl, rfl⟩, hF, hP, hG, hG25, hG26, hS, lv_sub hl [0, 1] rfl, rfl⟩
    rintro nn stk H locs ls ⟨k27, st28, sl29, hm35, hv32_0, hv33_1, hv34_0, hv35_1, hP, hG, hG30, hG31, hS, hl, rfl⟩ ih36
    have hF := hv35_1
    obtain ⟨p7, c7_, n7, hT, hR, hpa, hln⟩ := hv34_0
    have hp9 := hT.2.2.2.2.2.2
    have hk1 := tkd_lt (B := B) (g := g) (m := m) (p := p7)
    have hk2 := tkx_le (B := B) (g := g) (m := m) (p := p7) hp9
    have hk3 := tka_le (B := B) (g := g) (m := m) (p := p7) hp9 hB.2.2.1
    have hk4 := tkv_lt (p := p7) hB hp9
    have hk5 := tkw_lt (B := B) (g := g) (m := m) (p := p7)
    have hR9 := hR.2.2.2.2.2.1
    refine lv_aload_n hx hb dX12_park_43 rfl (lv_at hl 1 rfl) ?_
    refine va_get (D := (dC, dI)) (ci := 11) (v := .int (st28 0 7)) (C := RX12) (T := TX12) (N := 47) hx hb hts ii_X12_park hown hK hP 0 rfl rfl 7 (by decide) (hts _ mm_X12_park_3) (fun _ hh => hh) rfl dX12_park_44 ?_
    refine zz_top (v := (nI (tkd B g m p7))) (by show st28 0 7 = _; rw [hT.2.2.1]) ?_
    refine lv_if_eq (tgt := 77) hx hb dX12_park_47 (by decide) (fun c2 => ?_) (fun c2 => ?_)
    · have c2 : (tkd B g m p7) = 0 := (nI_eq (a := (tkd B g m p7)) (b := 0) (by omega) (by omega)).mp c2
      have h02 : st28 0 2 = 0 := by rw [(hF 0 2 (by decide)).1, hf8]
      have hres : pAll B g m 900 0 (fun _ => 0) (fun _ _ => 0) 0 = ((0, p7, c7_, n7), k27) := hpa.symm.trans (pAll_0 (by omega) (by omega))
      have h3c : ∀ a, a < 3 → st28 3 a = nI (c7_ a) := fun a ha => by rcases (show a = 0 ∨ a = 1 ∨ a = 2 by omega) with rfl | rfl | rfl; (exact hR.1); (exact hR.2.1); (exact hR.2.2.1)
      have hLk : LQ [7, 9] sl sl29 := hf9.tr hF.lk (by decide)
      have hnm8 := hR.2.2.2.2.2.2
      have hbo8 := hR.2.2.2.2.2.1
      refine lv_iconst (v := 0) hx hb dX12_park_77 (by decide) ?_
      refine lv_istore_n (lv' := [(2, .int 0), (1, .int (nI k27)), (0, .ref (ar 0))]) hx hb dX12_park_78 rfl hl (by decide) rfl (fun ls hl => ?_)
      refine zz_wf (fun n stk H locs ls => ∃ k37 : Nat, ∃ st38 : Nat → Nat → Int32, n = 62 - k37 ∧ 0 ≤ k37 ∧ k37 < 62 ∧ st38 0 2 = 0 ∧ (∀ a, a < 3 → st38 3 a = nI (c7_ a)) ∧ (∀ a, a < 3 → a < k37 → st38 2 a = nI (c7_ a)) ∧ va_P (dC, dI) vwCl (mw ar cy st38 sl29) H ∧ MG [2, 7, 8, 9, 10, 11, 12, 13, 14, 15, 20, 22] st st38 ∧ MG [6] st st38 ∧ va_S (MA ar s.heap.size) s.heap H locs ∧ lv_has ls 3 [(2, .int (nI k37)), (1, .int (nI k27)), (0, .ref (ar 0))] ∧ stk = []) ?_ (62 - 0) _ _ _ _ ⟨0, st28, rfl, by omega, by omega, by show st28 0 2 = 0; rw [h02], h3c, fun a ha hk => absurd hk (by omega), hP, hG, hG30, hS, lv_sub hl [0, 1, 2] rfl, rfl⟩
      rintro nn stk H locs ls ⟨k37, st38, hm44, hv40_0, hv41_1, hv42_0, hv43_1, hv44_2, hP, hG, hG39, hS, hl, rfl⟩ ih45
      refine lv_iload_n hx hb dX12_park_79 rfl (lv_at hl 0 rfl) ?_
      refine lv_bipush (v := 61) hx hb dX12_park_80 (by decide) ?_
      refine lv_icmp_ge (tgt := 103) hx hb dX12_park_82 (by decide) (fun c3 => ?_) (fun c3 => ?_)
      · have c3 : 61 ≤ k37 := (nI_leI (a := 61) (b := k37) (by omega) (by omega)).mp c3
        refine lv_iconst (v := 0) hx hb dX12_park_103 (by decide) ?_
        refine lv_istore_n (lv' := [(2, .int 0), (1, .int (nI k27)), (0, .ref (ar 0))]) hx hb dX12_park_104 rfl hl (by decide) rfl (fun ls hl => ?_)
        refine zz_wf (fun n stk H locs ls => ∃ k46 : Nat, ∃ st47 : Nat → Nat → Int32, ∃ sl48 : Nat → Nat → Int64, n = 20 - k46 ∧ 0 ≤ k46 ∧ k46 < 20 ∧ st47 0 2 = 0 ∧ (∀ a, a < 3 → st47 2 a = nI (c7_ a)) ∧ (∀ j, sl48 8 j = sl29 8 j) ∧ (∀ j, j < k46 → sl48 7 j = sl29 8 j) ∧ (∀ j, sl48 9 j = sl 9 j) ∧ va_P (dC, dI) vwCl (mw ar cy st47 sl48) H ∧ MG [2, 7, 8, 9, 10, 11, 12, 13, 14, 15, 20, 22] st st47 ∧ MG [6] st st47 ∧ va_S (MA ar s.heap.size) s.heap H locs ∧ lv_has ls 3 [(2, .int (nI k46)), (1, .int (nI k27)), (0, .ref (ar 0))] ∧ stk = []) ?_ (20 - 0) _ _ _ _ ⟨0, st38, sl29, rfl, by omega, by omega, by show st38 0 2 = 0; rw [hv42_0], fun a ha => hv44_2 a ha (by omega), fun _ => rfl, by intro jj hk; omega, fun jj => hLk 9 (by decide) jj, hP, hG, hG39, hS, lv_sub hl [0, 1, 2] rfl, rfl⟩
        rintro nn stk H locs ls ⟨k46, st47, sl48, hm56, hv50_0, hv51_1, hv52_0, hv53_1, hv54_2, hv55_3, hv56_4, hP, hG, hG49, hS, hl, rfl⟩ ih57
        refine lv_iload_n hx hb dX12_park_105 rfl (lv_at hl 0 rfl) ?_
        refine lv_bipush (v := 19) hx hb dX12_park_106 (by decide) ?_
        refine lv_icmp_ge (tgt := 129) hx hb dX12_park_108 (by decide) (fun c4 => ?_) (fun c4 => ?_)
        · have c4 : 19 ≤ k46 := (nI_leI (a := 19) (b := k46) (by omega) (by omega)).mp c4
          refine lv_aload_n hx hb dX12_park_129 rfl (lv_at hl 2 rfl) ?_
          refine va_callv (va_runV (As := []) (rest := []) ⟨hx, hb, hml, hown, hts⟩ (m_startSo l dC dI ar cy _ hN st47 sl48 hG.1 ) (cwV 0 hts gX12_park_X12_startSo rfl rfl rfl (by decide +kernel) ⟨Nat.le_of_ble_eq_true rfl, Nat.le_of_ble_eq_true rfl⟩) ⟨fun a U g mk q => ⟨q.1, mPre.blind q.2⟩, va_recv hK hP (ci := 11) (q0 := 0) rfl rfl, fun U hU hW => ⟨rfl, mPre.of hP hK hU hW⟩⟩ rfl rfl hl.1 rfl (lv_room (Nat.le_of_ble_eq_true rfl)) dX12_park_130 ⟨Nat.le_of_ble_eq_true rfl, Nat.le_of_ble_eq_true rfl⟩) hS (fun q _ h => MA.le hS.1 q h) (MA.le hS.1) (fun x t H locs ht hvm hw hB9 _ _ hS => ?_)
          have hP := mB.at ht hB9
          clear hB9 ht hvm
          obtain ⟨st59, sl60⟩ := x
          obtain ⟨hG2, hLxst59, hw⟩ := hw
          dsimp only at hG2 hw
          have hP : va_P (dC, dI) vwCl (mw ar cy st59 sl60) _ := hP
          have hG : MG [2, 7, 8, 9, 10, 11, 12, 13, 14, 15, 20, 22] st st59 := hG.tr hG2 (by decide)
          have hMst59 : MG [1, 2, 3, 4, 5, 7, 8, 9, 10, 11, 12, 13, 14, 15, 16, 17, 19, 20, 21, 22] st47 st59 := hG2
          clear hG2
          have hf61 := hw
          refine lv_aload_n hx hb dX12_park_133 rfl (lv_at hl 2 rfl) ?_
          refine lv_iconst (v := 0) hx hb dX12_park_134 (by decide) ?_
          refine va_put (D := (dC, dI)) (ci := 11) (v := .int 0) (ty := .int) (C := RX12) (T := TX12) (N := 47) hx hb hts ii_X12_park tyX12 tyX12_ok nmX12 hown hK hP (mD hN _ _ _ _) hS 0 rfl rfl 23 (by decide) (hts _ mm_X12_park_8) (fun _ hh => hh) rfl (by decide +kernel) rfl rfl (Nat.le_of_ble_eq_true rfl) dX12_park_135 (fun H locs hP _ hS => ?_)
          have hP : va_P (dC, dI) vwCl (mw ar cy (up2 st59 0 23 0) sl60) H := hP
          obtain ⟨st62, est62⟩ : ∃ y, y = up2 st59 0 23 0 := ⟨_, rfl⟩
          have hG : MG [2, 7, 8, 9, 10, 11, 12, 13, 14, 15, 20, 22] st st62 := by rw [est62]; exact hG.up (r0) (pn (by decide : pcl 0 23 = 18) (by decide))
          rw [← est62] at hP
          refine lv_iload_n hx hb dX12_park_138 rfl (lv_at hl 1 rfl) ?_
          have hr9 : (nI k27) = pAns (pAll B g m 900 0 (fun _ => 0) (fun _ _ => 0) 0) := by rw [hres, pAns_0]
          have h02 : st62 0 2 = 0 := by rw [est62, up2_ne (r := 0) (k := 23) (a := 0) (j := 2) _ _ (by omega), hMst59.2 0 2 (by decide), hv52_0]
          have hnk9 : NKn st → NKn st62 := fun _ => NKf.zero (fun jj hk => by show st62 2 (133 + jj) = 0; rw [est62, up2_ne (r := 0) (k := 23) (a := 2) (j := 133 + jj) _ _ (by omega)]; exact hf61 (133 + jj) (by omega) (by omega))
          have hc9 : ∀ a, a < 3 → st62 2 a = nI (c7_ a) := fun a ha => by rw [est62, up2_ne (r := 0) (k := 23) (a := 2) (j := a) _ _ (by omega), hMst59.2 2 a (by rw [pcl2c ha]; decide)]; exact hv53_1 a ha
          have hn9 : ∀ j, j < 19 → sl60 7 j = sl29 8 j := fun j hj => (hLxst59 7 (by decide) j).trans (hv55_3 j (by omega))
          have hrk9 : RKN (pAll B g m 900 0 (fun _ => 0) (fun _ _ => 0) 0).1 st sl st62 sl60 := by rw [hres]; exact ⟨fun _ => ⟨hc9, ⟨hbo8.1, hbo8.2.1, hbo8.2.2.1⟩, fun a ha i hi => ⟨(hn9 _ (bs_lt ha hi ⟨hbo8.1, hbo8.2.1, hbo8.2.2.1⟩)).trans (hnm8 a ha i hi).1, (hnm8 a ha i hi).2⟩⟩, fun hh => absurd rfl hh, fun k => (hLxst59 9 (by decide) k).trans (hv56_4 k)⟩
          subst hm
          exact W.iret (v := (nI k27)) hx hb hr (fun t ht hW => ⟨⟨(nI k27), (st62, sl60), rfl, ⟨hG, ⟨h02, hnk9, hr9, hrk9⟩⟩, mB.of ht hP⟩, hS.F ht⟩) hS.2.2 dX12_park_139
        · have c4 : ¬ 19 ≤ k46 := fun hh => c4 ((nI_leI (a := 19) (b := k46) (by omega) (by omega)).mpr hh)
          refine lv_aload_n hx hb dX12_park_111 rfl (lv_at hl 2 rfl) ?_
          refine va_get (D := (dC, dI)) (ci := 11) (v := .ref (ar 7)) (C := RX12) (T := TX12) (N := 47) hx hb hts ii_X12_park hown hK hP 0 rfl rfl 19 (by decide) (hts _ mm_X12_park_6) (fun _ hh => hh) rfl dX12_park_112 ?_
          refine lv_iload_n hx hb dX12_park_115 rfl (lv_at hl 0 rfl) ?_
          refine lv_aload_n hx hb dX12_park_116 rfl (lv_at hl 2 rfl) ?_
          refine va_get (D := (dC, dI)) (ci := 11) (v := .ref (ar 8)) (C := RX12) (T := TX12) (N := 47) hx hb hts ii_X12_park hown hK hP 0 rfl rfl 20 (by decide) (hts _ mm_X12_park_7) (fun _ hh => hh) rfl dX12_park_117 ?_
          refine lv_iload_n hx hb dX12_park_120 rfl (lv_at hl 0 rfl) ?_
          refine va_lald hx hb hK hP 8 7 rfl rfl (i := (nI k46)) (vp_in_nI (by omega) (by decide)) dX12_park_121 ?_
          refine zz_topl (v := sl48 8 k46) (by rw [nI_clamp (by omega)]) ?_
          refine va_last hx hb hK hP (mD hN _ _ _ _) hS 7 6 rfl rfl (i := (nI k46)) (vp_in_nI (by omega) (by decide)) dX12_park_122 (fun H locs hP _ hS => ?_)
          rw [nI_clamp (by omega)] at hP
          have hP : va_P (dC, dI) vwCl (mw ar cy st47 (upL sl48 7 k46 (sl48 8 k46))) H := hP
          obtain ⟨sl63, esl63⟩ : ∃ y, y = upL sl48 7 k46 (sl48 8 k46) := ⟨_, rfl⟩
          rw [← esl63] at hP
          refine lv_iinc (v := (nI (k46 + 1))) (lv' := [(2, .int (nI (k46 + 1))), (1, .int (nI k27)), (0, .ref (ar 0))]) hx hb dX12_park_123 hl (k := 0) rfl (nI_add k46 1) (by decide) rfl (fun ls hl => ?_)
          refine lv_goto (tgt := 105) hx hb dX12_park_126 (by decide) ?_
          exact ih57 (20 - (k46 + 1)) _ _ _ _ (by omega) ⟨(k46 + 1), st47, sl63, rfl, by omega, by omega, by show st47 0 2 = 0; rw [hv52_0], hv53_1, fun jj => by rw [esl63, upL_ne (r := 7) (k := k46) (a := 8) (j := jj) _ _ (by omega)]; exact hv54_2 jj, by intro jj hk; by_cases ee : jj = k46; (rw [ee, esl63, upL_same]; exact hv54_2 k46); (rw [esl63, upL_ne (r := 7) (k := k46) (a := 7) (j := jj) _ _ (by omega)]; exact hv55_3 jj (by omega)), fun jj => by rw [esl63, upL_ne (r := 7) (k := k46) (a := 9) (j := jj) _ _ (by omega)]; exact hv56_4 jj, hP, hG, hG49, hS, lv_sub hl [0, 1, 2] rfl, rfl⟩
      · have c3 : ¬ 61 ≤ k37 := fun hh => c3 ((nI_leI (a := 61) (b := k37) (by omega) (by omega)).mpr hh)
        refine lv_aload_n hx hb dX12_park_85 rfl (lv_at hl 2 rfl) ?_
        refine va_get (D := (dC, dI)) (ci := 11) (v := .ref (ar 2)) (C := RX12) (T := TX12) (N := 47) hx hb hts ii_X12_park hown hK hP 0 rfl rfl 14 (by decide) (hts _ mm_X12_park_5) (fun _ hh => hh) rfl dX12_park_86 ?_
        refine lv_iload_n hx hb dX12_park_89 rfl (lv_at hl 0 rfl) ?_
        refine lv_aload_n hx hb dX12_park_90 rfl (lv_at hl 2 rfl) ?_
        refine va_get (D := (dC, dI)) (ci := 11) (v := .ref (ar 3)) (C := RX12) (T := TX12) (N := 47) hx hb hts ii_X12_park hown hK hP 0 rfl rfl 15 (by decide) (hts _ mm_X12_park_1) (fun _ hh => hh) rfl dX12_park_91 ?_
        refine lv_iload_n hx hb dX12_park_94 rfl (lv_at hl 0 rfl) ?_
        refine va_iald hx hb hK hP 3 2 rfl rfl (i := (nI k37)) (vp_in_nI (by omega) (by decide)) dX12_park_95 ?_
        refine zz_top (v := st38 3 k37) (by rw [nI_clamp (by omega)]) ?_
        have hIst38 := hG.1
        refine va_iast hx hb hK hP (mD hN _ _ _ _) hS 2 1 rfl rfl (i := (nI k37)) (vp_in_nI (by omega) (by decide)) dX12_park_96 (fun H locs hP _ hS => ?_)
        rw [nI_clamp (by omega)] at hP
        have hP : va_P (dC, dI) vwCl (mw ar cy (up2 st38 2 k37 (st38 3 k37)) sl29) H := hP
        obtain ⟨st64, est64⟩ : ∃ y, y = up2 st38 2 k37 (st38 3 k37) := ⟨_, rfl⟩
        have hG : MG [2, 7, 8, 9, 10, 11, 12, 13, 14, 15, 20, 22] st st64 := by rw [est64]; exact hG.up (rc hIst38 (rfl)) (pns_2_0_61_2_7_8_9_10_11_12_13_14_15_20_22 k37 (by omega) (by omega))
        have hG65 : MG [6] st st64 := by rw [est64]; exact hG39.up (rc hIst38 (rfl)) (pns_2_0_61_6 k37 (by omega) (by omega))
        rw [← est64] at hP
        refine lv_iinc (v := (nI (k37 + 1))) (lv' := [(2, .int (nI (k37 + 1))), (1, .int (nI k27)), (0, .ref (ar 0))]) hx hb dX12_park_97 hl (k := 0) rfl (nI_add k37 1) (by decide) rfl (fun ls hl => ?_)
        refine lv_goto (tgt := 79) hx hb dX12_park_100 (by decide) ?_
        exact ih45 (62 - (k37 + 1)) _ _ _ _ (by omega) ⟨(k37 + 1), st64, rfl, by omega, by omega, by show st64 0 2 = 0; rw [est64, up2_ne (r := 2) (k := k37) (a := 0) (j := 2) _ _ (by omega), hv42_0], fun a ha => by rw [est64, up2_ne (r := 2) (k := k37) (a := 3) (j := a) _ _ (by omega)]; exact hv43_1 a ha, fun a ha hk => by rw [est64]; by_cases ee : a = k37; (rw [ee, up2_same]; exact hv43_1 k37 (by omega)); (rw [up2_ne (r := 2) (k := k37) (a := 2) (j := a) _ _ (by omega)]; exact hv44_2 a ha (by omega)), hP, hG, hG65, hS, lv_sub hl [0, 1, 2] rfl, rfl⟩
    · have c2 : ¬ (tkd B g m p7) = 0 := fun hh => c2 ((nI_eq (a := (tkd B g m p7)) (b := 0) (by omega) (by omega)).mpr hh)
      refine lv_aload_n hx hb dX12_park_50 rfl (lv_at hl 1 rfl) ?_
      refine va_calli (va_runV (As := []) (rest := []) ⟨hx, hb, hml, hown, hts⟩ (f_readLine l dC dI ar cy _ hN st28 sl29 B g m p7 c7_ n7 hG.1 (MBt.fr hB hF) hT hR) (cwV 0 hts gX12_park_X12_readLine rfl rfl rfl (by decide +kernel) ⟨Nat.le_of_ble_eq_true rfl, Nat.le_of_ble_eq_true rfl⟩) ⟨fun a U g mk q => ⟨q.1, mPre.blind q.2⟩, va_recv hK hP (ci := 11) (q0 := 0) rfl rfl, fun U hU hW => ⟨rfl, mPre.of hP hK hU hW⟩⟩ rfl rfl hl.1 rfl (lv_room (Nat.le_of_ble_eq_true rfl)) dX12_park_51 ⟨Nat.le_of_ble_eq_true rfl, Nat.le_of_ble_eq_true rfl⟩) hS (fun q _ h => MA.le hS.1 q h) (MA.le hS.1) (fun r66 x t H locs ht hvm hw hB9 _ _ hS => ?_)
      have hP := mB.at ht hB9
      clear hB9 ht hvm
      obtain ⟨st67, sl68⟩ := x
      obtain ⟨hG2, hF2, hw⟩ := hw
      dsimp only at hG2 hF2 hw
      have hP : va_P (dC, dI) vwCl (mw ar cy st67 sl68) _ := hP
      have hG : MG [2, 7, 8, 9, 10, 11, 12, 13, 14, 15, 20, 22] st st67 := hG.tr hG2 (by decide)
      have hG69 : MG [6] st st67 := hG30.tr hG2 (by decide)
      have hG70 : MG [21] st st67 := hG31.tr hG2 (by decide)
      have hFst67 : FM 4 st28 sl29 st67 sl68 := hF2
      have hF : FM 4 st2 sl3 st67 sl68 := hF.tr hFst67 (by omega) (by omega)
      clear hG2 hF2
      rcases hw with ⟨n71, n72, n73, rfl, hR, hT, hf74, hf75⟩ | ⟨n76, n77, rfl, hf78, hf79, hf80, hf81⟩
      · have hp9 := hT.2.2.2.2.2.2
        have hk1 := tkd_lt (B := B) (g := g) (m := m) (p := n73)
        have hk2 := tkx_le (B := B) (g := g) (m := m) (p := n73) hp9
        have hk3 := tka_le (B := B) (g := g) (m := m) (p := n73) hp9 hB.2.2.1
        have hk4 := tkv_lt (p := n73) hB hp9
        have hk5 := tkw_lt (B := B) (g := g) (m := m) (p := n73)
        refine lv_if_eq (tgt := 64) hx hb dX12_park_54 (by decide) (fun cc => absurd cc (by decide)) (fun _ => ?_)
        refine lv_aload_n hx hb dX12_park_57 rfl (lv_at hl 1 rfl) ?_
        refine va_calli (va_runV (As := []) (rest := []) ⟨hx, hb, hml, hown, hts⟩ (f_readEnd l dC dI ar cy _ hN st67 sl68 B g m n73 hG.1 (MBt.fr hB hF) hT) (cwV 0 hts gX12_park_X12_readEnd rfl rfl rfl (by decide +kernel) ⟨Nat.le_of_ble_eq_true rfl, Nat.le_of_ble_eq_true rfl⟩) ⟨fun a U g mk q => ⟨q.1, mPre.blind q.2⟩, va_recv hK hP (ci := 11) (q0 := 0) rfl rfl, fun U hU hW => ⟨rfl, mPre.of hP hK hU hW⟩⟩ rfl rfl hl.1 rfl (lv_room (Nat.le_of_ble_eq_true rfl)) dX12_park_58 ⟨Nat.le_of_ble_eq_true rfl, Nat.le_of_ble_eq_true rfl⟩) hS (fun q _ h => MA.le hS.1 q h) (MA.le hS.1) (fun r82 x t H locs ht hvm hw hB9 _ _ hS => ?_)
        have hP := mB.at ht hB9
        clear hB9 ht hvm
        obtain ⟨st83, sl84⟩ := x
        obtain ⟨hG2, hF2, hw⟩ := hw
        dsimp only at hG2 hF2 hw
        have hP : va_P (dC, dI) vwCl (mw ar cy st83 sl84) _ := hP
        have hG : MG [2, 7, 8, 9, 10, 11, 12, 13, 14, 15, 20, 22] st st83 := hG.tr hG2 (by decide)
        have hG85 : MG [6] st st83 := hG69.tr hG2 (by decide)
        have hG86 : MG [21] st st83 := hG70.tr hG2 (by decide)
        have hFst83 : FM 2 st67 sl68 st83 sl84 := hF2
        have hF : FM 4 st2 sl3 st83 sl84 := hF.tr hFst83 (by omega) (by omega)
        clear hG2 hF2
        have hR : RT n71 n72 st83 sl84 := hR.fr hFst83 (by omega)
        rcases hw with ⟨rfl, hT, hf87⟩ | ⟨n88, n89, rfl, hf90, hf91, hf92, hf93⟩
        · have hp9 := hT.2.2.2.2.2.2
          have hk1 := tkd_lt (B := B) (g := g) (m := m) (p := (tkx B g m n73))
          have hk2 := tkx_le (B := B) (g := g) (m := m) (p := (tkx B g m n73)) hp9
          have hk3 := tka_le (B := B) (g := g) (m := m) (p := (tkx B g m n73)) hp9 hB.2.2.1
          have hk4 := tkv_lt (p := (tkx B g m n73)) hB hp9
          have hk5 := tkw_lt (B := B) (g := g) (m := m) (p := (tkx B g m n73))
          refine lv_if_ne (tgt := 71) hx hb dX12_park_61 (by decide) (fun _ => ?_) (fun cc => absurd cc (by decide))
          refine lv_iinc (v := (nI (k27 + 1))) (lv' := [(1, .int (nI (k27 + 1))), (0, .ref (ar 0))]) hx hb dX12_park_71 hl (k := 0) rfl (nI_add k27 1) (by decide) rfl (fun ls hl => ?_)
          refine lv_goto (tgt := 43) hx hb dX12_park_74 (by decide) ?_
          have hR9 := hR.2.2.2.2.2.1
          have hsm := hf74
          exact ih36 (33 - (k27 + 1)) _ _ _ _ (by omega) ⟨(k27 + 1), st83, sl84, rfl, by omega, by omega, ⟨(tkx B g m n73), n71, n72, hT, hR, (pAll_y (show ¬ tkd B g m p7 = 0 by omega) (hf75.trans (hf87 _)) (by omega)).symm.trans hpa, by omega⟩, hF, hP, hG, hG85, hG86, hS, lv_sub hl [0, 1] rfl, rfl⟩
        · refine lv_if_ne (tgt := 71) hx hb dX12_park_61 (by decide) (fun cc => absurd (by decide) cc) (fun _ => ?_)
          refine lv_iconst (v := (-1)) hx hb dX12_park_64 (by decide) ?_
          refine lv_aload_n hx hb dX12_park_65 rfl (lv_at hl 1 rfl) ?_
          refine va_get (D := (dC, dI)) (ci := 11) (v := .int (st83 0 11)) (C := RX12) (T := TX12) (N := 47) hx hb hts ii_X12_park hown hK hP 0 rfl rfl 11 (by decide) (hts _ mm_X12_park_4) (fun _ hh => hh) rfl dX12_park_66 ?_
          refine zz_top (v := (nI n89)) (by show st83 0 11 = _; rw [hf91]) ?_
          refine lv_isub hx hb dX12_park_69 ?_
          refine lv_topi (fun z94 ez94 => ?_)
          have hres : pAll B g m 900 0 (fun _ => 0) (fun _ _ => 0) 0 = (fl n88 n89, 0) := hpa.symm.trans (pAll_f (show ¬ tkd B g m p7 = 0 by omega) (hf75.trans (hf93 _)) hf92 (by omega))
          have hr9 : z94 = pAns (pAll B g m 900 0 (fun _ => 0) (fun _ _ => 0) 0) := by rw [ez94, hres, pAns_f hf92]
          have h02 : st83 0 2 = 0 := by rw [(hF 0 2 (by decide)).1, hf8]
          have hnk9 : NKn st → NKn st83 := fun hh => NKn.mg hG85 (by decide) hh
          have hLk : LQ [7, 9] sl sl84 := hf9.tr hF.lk (by decide)
          have hrk9 : RKN (pAll B g m 900 0 (fun _ => 0) (fun _ _ => 0) 0).1 st sl st83 sl84 := by rw [hres]; exact ⟨fun hh => absurd hh (show ¬ n88 = 0 by omega), fun _ => ⟨fun a ha => hG86.2 2 a (by rw [pcl2c ha]; decide), fun k => hLk 7 (by decide) k⟩, fun k => hLk 9 (by decide) k⟩
          subst hm
          exact W.iret (v := z94) hx hb hr (fun t ht hW => ⟨⟨z94, (st83, sl84), rfl, ⟨hG, ⟨h02, hnk9, hr9, hrk9⟩⟩, mB.of ht hP⟩, hS.F ht⟩) hS.2.2 dX12_park_70
      · refine lv_if_eq (tgt := 64) hx hb dX12_park_54 (by decide) (fun _ => ?_) (fun cc => absurd (by decide) cc)
        refine lv_iconst (v := (-1)) hx hb dX12_park_64 (by decide) ?_
        refine lv_aload_n hx hb dX12_park_65 rfl (lv_at hl 1 rfl) ?_
        refine va_get (D := (dC, dI)) (ci := 11) (v := .int (st67 0 11)) (C := RX12) (T := TX12) (N := 47) hx hb hts ii_X12_park hown hK hP 0 rfl rfl 11 (by decide) (hts _ mm_X12_park_4) (fun _ hh => hh) rfl dX12_park_66 ?_
        refine zz_top (v := (nI n77)) (by show st67 0 11 = _; rw [hf79]) ?_
        refine lv_isub hx hb dX12_park_69 ?_
        refine lv_topi (fun z95 ez95 => ?_)
        have hres : pAll B g m 900 0 (fun _ => 0) (fun _ _ => 0) 0 = (fl n76 n77, 0) := hpa.symm.trans (pAll_f (show ¬ tkd B g m p7 = 0 by omega) hf81 hf80 (by omega))
        have hr9 : z95 = pAns (pAll B g m 900 0 (fun _ => 0) (fun _ _ => 0) 0) := by rw [ez95, hres, pAns_f hf80]
        have h02 : st67 0 2 = 0 := by rw [(hF 0 2 (by decide)).1, hf8]
        have hnk9 : NKn st → NKn st67 := fun hh => NKn.mg hG69 (by decide) hh
        have hLk : LQ [7, 9] sl sl68 := hf9.tr hF.lk (by decide)
        have hrk9 : RKN (pAll B g m 900 0 (fun _ => 0) (fun _ _ => 0) 0).1 st sl st67 sl68 := by rw [hres]; exact ⟨fun hh => absurd hh (show ¬ n76 = 0 by omega), fun _ => ⟨fun a ha => hG70.2 2 a (by rw [pcl2c ha]; decide), fun k => hLk 7 (by decide) k⟩, fun k => hLk 9 (by decide) k⟩
        subst hm
        exact W.iret (v := z95) hx hb hr (fun t ht hW => ⟨⟨z95, (st67, sl68), rfl, ⟨hG, ⟨h02, hnk9, hr9, hrk9⟩⟩, mB.of ht hP⟩, hS.F ht⟩) hS.2.2 dX12_park_70
  · have c1 : ¬ 61 ≤ k10 := fun hh => c1 ((nI_leI (a := 61) (b := k10) (by omega) (by omega)).mpr hh)
    refine lv_aload_n hx hb dX12_park_15 rfl (lv_at hl 1 rfl) ?_
    refine va_get (D := (dC, dI)) (ci := 11) (v := .ref (ar 3)) (C := RX12) (T := TX12) (N := 47) hx hb hts ii_X12_park hown hK hP 0 rfl rfl 15 (by decide) (hts _ mm_X12_park_1) (fun _ hh => hh) rfl dX12_park_16 ?_
    refine lv_iload_n hx hb dX12_park_19 rfl (lv_at hl 0 rfl) ?_
    refine lv_iconst (v := 0) hx hb dX12_park_20 (by decide) ?_
    refine va_iast hx hb hK hP (mD hN _ _ _ _) hS 3 2 rfl rfl (i := (nI k10)) (vp_in_nI (by omega) (by decide)) dX12_park_21 (fun H locs hP _ hS => ?_)
    rw [nI_clamp (by omega)] at hP
    have hP : va_P (dC, dI) vwCl (mw ar cy (up2 st11 3 k10 0) sl12) H := hP
    obtain ⟨st96, est96⟩ : ∃ y, y = up2 st11 3 k10 0 := ⟨_, rfl⟩
    have hG : MG [2, 7, 8, 9, 10, 11, 12, 13, 14, 15, 20, 22] st st96 := by rw [est96]; exact hG.up (r0) (pns_3_0_61_2_7_8_9_10_11_12_13_14_15_20_22 k10 (by omega) (by omega))
    have hG97 : MG [6] st st96 := by rw [est96]; exact hG13.up (r0) (pns_3_0_61_6 k10 (by omega) (by omega))
    have hG98 : MG [21] st st96 := by rw [est96]; exact hG14.up (r0) (pns_3_0_61_21 k10 (by omega) (by omega))
    rw [← est96] at hP
    have hF : FM 4 st2 sl3 st96 sl12 := by rw [est96]; exact hF.up (dm_read _)
    have hT : TM B g m 0 st96 sl12 := by rw [est96]; exact hT.up (by omega)
    refine lv_iinc (v := (nI (k10 + 1))) (lv' := [(1, .int (nI (k10 + 1))), (0, .ref (ar 0))]) hx hb dX12_park_22 hl (k := 0) rfl (nI_add k10 1) (by decide) rfl (fun ls hl => ?_)
    refine lv_goto (tgt := 9) hx hb dX12_park_25 (by decide) ?_
    exact ih20 (62 - (k10 + 1)) _ _ _ _ (by omega) ⟨(k10 + 1), st96, sl12, rfl, by omega, by omega, by intro jj hk; rw [est96]; by_cases ee : jj = k10; (rw [ee, up2_same]); (rw [up2_ne (r := 3) (k := k10) (a := 3) (j := jj) _ _ (by omega)]; exact hv17_0 jj (by omega)), hF, hT, hP, hG, hG97, hG98, hS, lv_sub hl [0, 1] rfl, rfl⟩
