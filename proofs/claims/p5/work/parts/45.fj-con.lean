set_option maxHeartbeats 4000000 in
set_option maxRecDepth 100000 in
theorem f_park (l : Launch) (dC : Nat → ClassId) (dI : Nat → Nat → Nat) (ar : Nat → Nat) (cy : Nat → ClassId) (sz : Nat) (hN : MN ar) (st : Nat → Nat → Int32) (sl : Nat → Nat → Int64) (B : Nat → Nat) (g : Nat) (hI : MI st) (ht : st 0 2 = nI g) (hg : g < 941) (hbt : ∀ j, j < g → st 1 j = nI (B j) ∧ B j < 256) : Met l yX12_park wsX12_park ({ frames := 6, cells := 0, slots := 0, locals := 133 }) (va_Pc [.ref (ar 0)] (mPre dC dI ar cy sz st sl)) (va_Qi (fun (r : Int32) (x : MT) => MG [2, 7, 8, 9, 10, 11, 12, 13, 14, 15, 20, 22] st x.1 ∧ (x.1 0 2 = 0 ∧ (NKn st → NKn x.1) ∧ r = pAns (pAll B g 900 900 0 (fun _ => 0) (fun _ _ => 0) 0) ∧ RKN (pAll B g 900 900 0 (fun _ => 0) (fun _ _ => 0) 0).1 st sl x.1 x.2 ∧ x.1 0 10 = nI (pAll B g 900 900 0 (fun _ => 0) (fun _ _ => 0) 0).1.1)) (mB dC dI ar cy) (MA ar sz)) 0 0 (MA ar sz) := by
  refine Met.ofW (cc := cX12_park) (maxL := 3) (ret := (some .int)) (by decide) rfl ?_
  intro p9 e s m9 args below meth c9 s₁ B9 hml hv
  obtain ⟨rfl, hsz, hP, hK⟩ := hv
  have hx := B9.exec
  have hb := B9.bytes
  have hr := B9.returns
  have hts := atoms_spec (ws := wsX12_park) B9.pre
  have hown : s.vm.findClass RX12 = some m9.cls := findClass_of_methodNamed B9.named
  subst hsz
  have hS : va_S (MA ar s.heap.size) s.heap s.heap [] := va_S.rf
  have hG : MG [2, 7, 8, 9, 10, 11, 12, 13, 14, 15, 20, 22] st st := MG.rf hI
  have hl := lv_entry ([.ref (ar 0)]) (n := 3) (Nat.le_of_ble_eq_true rfl)
  rw [lg_entry_eq]
  generalize (lg_sl ([.ref (ar 0)]) ++ List.replicate (3 - (lg_sl ([.ref (ar 0)])).length) Slot.unset).toArray = ls at hl ⊢
  have hl : lv_has ls 3 [(0, .ref (ar 0))] := hl
  clear hI
  have hG6 : MG [6] st st := MG.rf hG.1
  have hG21 : MG [21] st st := MG.rf hG.1
  refine lv_aload_n hx hb dX12_park_0 rfl (lv_at hl 0 rfl) ?_
  refine lv_sipush (v := 900) hx hb dX12_park_1 (by decide) ?_
  refine va_callv (va_runV (As := [.int 900]) (rest := []) ⟨hx, hb, hml, hown, hts⟩ (f_begin l dC dI ar cy _ hN st sl B g hG.1 (ht) (hg) (hbt)) (cwV 1 hts gX12_park_X12_begin rfl rfl rfl (by decide +kernel) ⟨Nat.le_of_ble_eq_true rfl, Nat.le_of_ble_eq_true rfl⟩) ⟨fun a U g mk q => ⟨q.1, mPre.blind q.2⟩, va_recv hK hP (ci := 11) (q0 := 0) rfl rfl, fun U hU hW => ⟨rfl, mPre.of hP hK hU hW⟩⟩ rfl rfl hl.1 rfl (lv_room (Nat.le_of_ble_eq_true rfl)) dX12_park_4 ⟨Nat.le_of_ble_eq_true rfl, Nat.le_of_ble_eq_true rfl⟩) hS (fun q _ h => MA.le hS.1 q h) (MA.le hS.1) (fun x t H locs ht hvm hw hB9 _ _ hS => ?_)
  have hP := mB.at ht hB9
  clear hB9 ht hvm
  obtain ⟨st2, sl3⟩ := x
  obtain ⟨hG2, hw⟩ := hw
  dsimp only at hG2 hw
  have hP : va_P (dC, dI) vwCl (mw ar cy st2 sl3) _ := hP
  have hG : MG [2, 7, 8, 9, 10, 11, 12, 13, 14, 15, 20, 22] st st2 := hG.tr hG2 (by decide)
  have hG4 : MG [6] st st2 := hG6.tr hG2 (by decide)
  have hG5 : MG [21] st st2 := hG21.tr hG2 (by decide)
  have hMst2 : MG [2, 6, 7, 8, 9, 10, 11, 12, 13, 14, 15, 20, 21, 22] st st2 := hG2
  clear hG2
  obtain ⟨hf6, hT, hf7, hf8, hf9⟩ := hw
  obtain ⟨m, hm⟩ : ∃ m : Nat, m = 900 := ⟨_, rfl⟩
  have hB : MBt B g m st2 := by rw [hm]; exact hf6
  have hT : TM B g m 0 st2 sl3 := by rw [hm]; exact hT
  have hB1 := hB.2.2.1
  have hB2 := hB.2.2.2.1
  have hF : FM 4 st2 sl3 st2 sl3 := FM.rf
  have hp9 := hT.2.2.2.2.2.2
  have hk1 := tkd_lt (B := B) (g := g) (m := m) (p := 0)
  have hk2 := tkx_le (B := B) (g := g) (m := m) (p := 0) hp9
  have hk3 := tka_le (B := B) (g := g) (m := m) (p := 0) hp9 hB.2.2.1
  have hk4 := tkv_lt (p := 0) hB hp9
  have hk5 := tkw_lt (B := B) (g := g) (m := m) (p := 0)
  refine lv_iconst (v := 0) hx hb dX12_park_7 (by decide) ?_
  refine lv_istore_n (lv' := [(1, .int 0), (0, .ref (ar 0))]) hx hb dX12_park_8 rfl hl (by decide) rfl (fun ls hl => ?_)
  refine zz_wf (fun n stk H locs ls => ∃ k10 : Nat, ∃ st11 : Nat → Nat → Int32, ∃ sl12 : Nat → Nat → Int64, n = 62 - k10 ∧ 0 ≤ k10 ∧ k10 < 62 ∧ (∀ j, j < k10 → st11 3 j = 0) ∧ FM 4 st2 sl3 st11 sl12 ∧ TM B g m 0 st11 sl12 ∧ st11 0 10 = st2 0 10 ∧ va_P (dC, dI) vwCl (mw ar cy st11 sl12) H ∧ MG [2, 7, 8, 9, 10, 11, 12, 13, 14, 15, 20, 22] st st11 ∧ MG [6] st st11 ∧ MG [21] st st11 ∧ va_S (MA ar s.heap.size) s.heap H locs ∧ lv_has ls 3 [(1, .int (nI k10)), (0, .ref (ar 0))] ∧ stk = []) ?_ (62 - 0) _ _ _ _ ⟨0, st2, sl3, rfl, by omega, by omega, by intro jj hk; omega, hF, hT, by show st2 0 10 = st2 0 10; rfl, hP, hG, hG4, hG5, hS, lv_sub hl [0, 1] rfl, rfl⟩
  rintro nn stk H locs ls ⟨k10, st11, sl12, hm20, hv15_0, hv16_1, hv17_0, hv18_1, hv19_2, hv20_3, hP, hG, hG13, hG14, hS, hl, rfl⟩ ih21
  have hF := hv18_1
  have hT := hv19_2
  have hK10 := hv20_3
  refine lv_iload_n hx hb dX12_park_9 rfl (lv_at hl 0 rfl) ?_
  refine lv_bipush (v := 61) hx hb dX12_park_10 (by decide) ?_
  refine lv_icmp_ge (tgt := 28) hx hb dX12_park_12 (by decide) (fun c1 => ?_) (fun c1 => ?_)
  · have c1 : 61 ≤ k10 := (nI_leI (a := 61) (b := k10) (by omega) (by omega)).mp c1
    refine lv_aload_n hx hb dX12_park_28 rfl (lv_at hl 1 rfl) ?_
    refine va_get (D := (dC, dI)) (ci := 11) (v := .ref (ar 3)) (C := RX12) (T := TX12) (N := 47) hx hb hts ii_X12_park hown hK hP 0 rfl rfl 15 (by decide) (hts _ mm_X12_park_1) (fun _ hh => hh) rfl dX12_park_29 ?_
    refine lv_bipush (v := 60) hx hb dX12_park_32 (by decide) ?_
    refine lv_iconst (v := 2) hx hb dX12_park_34 (by decide) ?_
    refine va_iast hx hb hK hP (mD hN _ _ _ _) hS 3 2 rfl rfl (i := 60) (zz_in (by decide)) dX12_park_35 (fun H locs hP _ hS => ?_)
    have hP : va_P (dC, dI) vwCl (mw ar cy (up2 st11 3 60 2) sl12) H := hP
    obtain ⟨st22, est22⟩ : ∃ y, y = up2 st11 3 60 2 := ⟨_, rfl⟩
    have hG : MG [2, 7, 8, 9, 10, 11, 12, 13, 14, 15, 20, 22] st st22 := by rw [est22]; exact hG.up (rn (n := 2) (by decide : mr 3 60 = 13) (by omega)) (pn (by decide : pcl 3 60 = 0) (by decide))
    have hG23 : MG [6] st st22 := by rw [est22]; exact hG13.up (rn (n := 2) (by decide : mr 3 60 = 13) (by omega)) (pn (by decide : pcl 3 60 = 0) (by decide))
    have hG24 : MG [21] st st22 := by rw [est22]; exact hG14.up (rn (n := 2) (by decide : mr 3 60 = 13) (by omega)) (pn (by decide : pcl 3 60 = 0) (by decide))
    rw [← est22] at hP
    have hF : FM 4 st2 sl3 st22 sl12 := by rw [est22]; exact hF.up (by decide)
    have hT : TM B g m 0 st22 sl12 := by rw [est22]; exact hT.up (by omega)
    refine lv_aload_n hx hb dX12_park_36 rfl (lv_at hl 1 rfl) ?_
    refine lv_iconst (v := 0) hx hb dX12_park_37 (by decide) ?_
    refine va_put (D := (dC, dI)) (ci := 11) (v := .int 0) (ty := .boolean) (C := RX12) (T := TX12) (N := 47) hx hb hts ii_X12_park tyX12 tyX12_ok nmX12 hown hK hP (mD hN _ _ _ _) hS 0 rfl rfl 24 (by decide) (hts _ mm_X12_park_2) (fun _ hh => hh) rfl (by decide +kernel) rfl rfl (Nat.le_of_ble_eq_true rfl) dX12_park_38 (fun H locs hP _ hS => ?_)
    have hP : va_P (dC, dI) vwCl (mw ar cy (up2 st22 0 24 0) sl12) H := hP
    obtain ⟨st25, est25⟩ : ∃ y, y = up2 st22 0 24 0 := ⟨_, rfl⟩
    have hG : MG [2, 7, 8, 9, 10, 11, 12, 13, 14, 15, 20, 22] st st25 := by rw [est25]; exact hG.up (rz (by decide : mr 0 24 = 0)) (pn (by decide : pcl 0 24 = 0) (by decide))
    have hG26 : MG [6] st st25 := by rw [est25]; exact hG23.up (rz (by decide : mr 0 24 = 0)) (pn (by decide : pcl 0 24 = 0) (by decide))
    have hG27 : MG [21] st st25 := by rw [est25]; exact hG24.up (rz (by decide : mr 0 24 = 0)) (pn (by decide : pcl 0 24 = 0) (by decide))
    rw [← est25] at hP
    have hF : FM 4 st2 sl3 st25 sl12 := by rw [est25]; exact hF.up (by decide)
    have hT : TM B g m 0 st25 sl12 := by rw [est25]; exact hT.up (by omega)
    refine lv_iconst (v := 0) hx hb dX12_park_41 (by decide) ?_
    refine lv_istore_n (lv' := [(1, .int 0), (0, .ref (ar 0))]) hx hb dX12_park_42 rfl hl (by decide) rfl (fun ls hl => ?_)
    refine zz_wf (fun n stk H locs ls => ∃ k28 : Nat, ∃ st29 : Nat → Nat → Int32, ∃ sl30 : Nat → Nat → Int64, n = 33 - k28 ∧ 0 ≤ k28 ∧ k28 < 33 ∧ (∃ (p7 : Nat) (c7_ : Nat → Nat) (n7 : Nat → Nat → Nat), TM B g m p7 st29 sl30 ∧ RT c7_ n7 st29 sl30 ∧ pAll B g m (900 - k28) p7 c7_ n7 k28 = pAll B g m 900 0 (fun _ => 0) (fun _ _ => 0) 0 ∧ k28 = c7_ 0 + c7_ 1 + c7_ 2 + c7_ 3 + c7_ 4) ∧ FM 4 st2 sl3 st29 sl30 ∧ st29 0 10 = st2 0 10 ∧ va_P (dC, dI) vwCl (mw ar cy st29 sl30) H ∧ MG [2, 7, 8, 9, 10, 11, 12, 13, 14, 15, 20, 22] st st29 ∧ MG [6] st st29 ∧ MG [21] st st29 ∧ va_S (MA ar s.heap.size) s.heap H locs ∧ lv_has ls 3 [(1, .int (nI k28)), (0, .ref (ar 0))] ∧ stk = []) ?_ (33 - 0) _ _ _ _ ⟨0, st25, sl12, rfl, by omega, by omega, ⟨0, (fun _ => 0), (fun _ _ => 0), hT, ⟨(by show st25 3 0 = _; rw [est25, up2_ne (r := 0) (k := 24) (a := 3) (j := 0) _ _ (by omega), est22, up2_ne (r := 3) (k := 60) (a := 3) (j := 0) _ _ (by omega)]; exact hv17_0 0 (by omega)), (by show st25 3 1 = _; rw [est25, up2_ne (r := 0) (k := 24) (a := 3) (j := 1) _ _ (by omega), est22, up2_ne (r := 3) (k := 60) (a := 3) (j := 1) _ _ (by omega)]; exact hv17_0 1 (by omega)), (by show st25 3 2 = _; rw [est25, up2_ne (r := 0) (k := 24) (a := 3) (j := 2) _ _ (by omega), est22, up2_ne (r := 3) (k := 60) (a := 3) (j := 2) _ _ (by omega)]; exact hv17_0 2 (by omega)), (by show st25 3 3 = _; rw [est25, up2_ne (r := 0) (k := 24) (a := 3) (j := 3) _ _ (by omega), est22, up2_ne (r := 3) (k := 60) (a := 3) (j := 3) _ _ (by omega)]; exact hv17_0 3 (by omega)), by show st25 0 24 = _; rw [est25, up2_same]; rfl, by decide, fun a ha i hi => absurd hi (Nat.not_lt_zero i)⟩, rfl, rfl⟩, hF, by show st25 0 10 = st2 0 10; rw [est25, up2_ne (r := 0) (k := 24) (a := 0) (j := 10) _ _ (by omega), est22, up2_ne (r := 3) (k := 60) (a := 0) (j := 10) _ _ (by omega), hK10], hP, hG, hG26, hG27, hS, lv_sub hl [0, 1] rfl, rfl⟩
    rintro nn stk H locs ls ⟨k28, st29, sl30, hm37, hv33_0, hv34_1, hv35_0, hv36_1, hv37_2, hP, hG, hG31, hG32, hS, hl, rfl⟩ ih38
    have hF := hv36_1
    have hK10 := hv37_2
    obtain ⟨p7, c7_, n7, hT, hR, hpa, hln⟩ := hv35_0
    have hp9 := hT.2.2.2.2.2.2
    have hk1 := tkd_lt (B := B) (g := g) (m := m) (p := p7)
    have hk2 := tkx_le (B := B) (g := g) (m := m) (p := p7) hp9
    have hk3 := tka_le (B := B) (g := g) (m := m) (p := p7) hp9 hB.2.2.1
    have hk4 := tkv_lt (p := p7) hB hp9
    have hk5 := tkw_lt (B := B) (g := g) (m := m) (p := p7)
    have hR9 := hR.2.2.2.2.2.1
    refine lv_aload_n hx hb dX12_park_43 rfl (lv_at hl 1 rfl) ?_
    refine va_get (D := (dC, dI)) (ci := 11) (v := .int (st29 0 7)) (C := RX12) (T := TX12) (N := 47) hx hb hts ii_X12_park hown hK hP 0 rfl rfl 7 (by decide) (hts _ mm_X12_park_3) (fun _ hh => hh) rfl dX12_park_44 ?_
    refine zz_top (v := (nI (tkd B g m p7))) (by show st29 0 7 = _; rw [hT.2.2.1]) ?_
    refine lv_if_eq (tgt := 77) hx hb dX12_park_47 (by decide) (fun c2 => ?_) (fun c2 => ?_)
    · have c2 : (tkd B g m p7) = 0 := (nI_eq (a := (tkd B g m p7)) (b := 0) (by omega) (by omega)).mp c2
      have h02 : st29 0 2 = 0 := by rw [(hF 0 2 (by decide)).1, hf8]
      have hres : pAll B g m 900 0 (fun _ => 0) (fun _ _ => 0) 0 = ((0, p7, c7_, n7), k28) := hpa.symm.trans (pAll_0 (by omega) (by omega))
      have h3c : ∀ a, a < 3 → st29 3 a = nI (c7_ a) := fun a ha => by rcases (show a = 0 ∨ a = 1 ∨ a = 2 by omega) with rfl | rfl | rfl; (exact hR.1); (exact hR.2.1); (exact hR.2.2.1)
      have hLk : LQ [7, 9] sl sl30 := hf9.tr hF.lk (by decide)
      have hnm8 := hR.2.2.2.2.2.2
      have hbo8 := hR.2.2.2.2.2.1
      have h010 : st29 0 10 = 0 := by rw [hK10, hf7]
      refine lv_iconst (v := 0) hx hb dX12_park_77 (by decide) ?_
      refine lv_istore_n (lv' := [(2, .int 0), (1, .int (nI k28)), (0, .ref (ar 0))]) hx hb dX12_park_78 rfl hl (by decide) rfl (fun ls hl => ?_)
      refine zz_wf (fun n stk H locs ls => ∃ k39 : Nat, ∃ st40 : Nat → Nat → Int32, n = 62 - k39 ∧ 0 ≤ k39 ∧ k39 < 62 ∧ st40 0 10 = 0 ∧ st40 0 2 = 0 ∧ (∀ a, a < 3 → st40 3 a = nI (c7_ a)) ∧ (∀ a, a < 3 → a < k39 → st40 2 a = nI (c7_ a)) ∧ va_P (dC, dI) vwCl (mw ar cy st40 sl30) H ∧ MG [2, 7, 8, 9, 10, 11, 12, 13, 14, 15, 20, 22] st st40 ∧ MG [6] st st40 ∧ va_S (MA ar s.heap.size) s.heap H locs ∧ lv_has ls 3 [(2, .int (nI k39)), (1, .int (nI k28)), (0, .ref (ar 0))] ∧ stk = []) ?_ (62 - 0) _ _ _ _ ⟨0, st29, rfl, by omega, by omega, by show st29 0 10 = 0; rw [h010], by show st29 0 2 = 0; rw [h02], h3c, fun a ha hk => absurd hk (by omega), hP, hG, hG31, hS, lv_sub hl [0, 1, 2] rfl, rfl⟩
      rintro nn stk H locs ls ⟨k39, st40, hm47, hv42_0, hv43_1, hv44_0, hv45_1, hv46_2, hv47_3, hP, hG, hG41, hS, hl, rfl⟩ ih48
      refine lv_iload_n hx hb dX12_park_79 rfl (lv_at hl 0 rfl) ?_
      refine lv_bipush (v := 61) hx hb dX12_park_80 (by decide) ?_
      refine lv_icmp_ge (tgt := 103) hx hb dX12_park_82 (by decide) (fun c3 => ?_) (fun c3 => ?_)
      · have c3 : 61 ≤ k39 := (nI_leI (a := 61) (b := k39) (by omega) (by omega)).mp c3
        refine lv_iconst (v := 0) hx hb dX12_park_103 (by decide) ?_
        refine lv_istore_n (lv' := [(2, .int 0), (1, .int (nI k28)), (0, .ref (ar 0))]) hx hb dX12_park_104 rfl hl (by decide) rfl (fun ls hl => ?_)
        refine zz_wf (fun n stk H locs ls => ∃ k49 : Nat, ∃ st50 : Nat → Nat → Int32, ∃ sl51 : Nat → Nat → Int64, n = 20 - k49 ∧ 0 ≤ k49 ∧ k49 < 20 ∧ st50 0 10 = 0 ∧ st50 0 2 = 0 ∧ (∀ a, a < 3 → st50 2 a = nI (c7_ a)) ∧ (∀ j, sl51 8 j = sl30 8 j) ∧ (∀ j, j < k49 → sl51 7 j = sl30 8 j) ∧ (∀ j, sl51 9 j = sl 9 j) ∧ va_P (dC, dI) vwCl (mw ar cy st50 sl51) H ∧ MG [2, 7, 8, 9, 10, 11, 12, 13, 14, 15, 20, 22] st st50 ∧ MG [6] st st50 ∧ va_S (MA ar s.heap.size) s.heap H locs ∧ lv_has ls 3 [(2, .int (nI k49)), (1, .int (nI k28)), (0, .ref (ar 0))] ∧ stk = []) ?_ (20 - 0) _ _ _ _ ⟨0, st40, sl30, rfl, by omega, by omega, by show st40 0 10 = 0; rw [hv44_0], by show st40 0 2 = 0; rw [hv45_1], fun a ha => hv47_3 a ha (by omega), fun _ => rfl, by intro jj hk; omega, fun jj => hLk 9 (by decide) jj, hP, hG, hG41, hS, lv_sub hl [0, 1, 2] rfl, rfl⟩
        rintro nn stk H locs ls ⟨k49, st50, sl51, hm60, hv53_0, hv54_1, hv55_0, hv56_1, hv57_2, hv58_3, hv59_4, hv60_5, hP, hG, hG52, hS, hl, rfl⟩ ih61
        refine lv_iload_n hx hb dX12_park_105 rfl (lv_at hl 0 rfl) ?_
        refine lv_bipush (v := 19) hx hb dX12_park_106 (by decide) ?_
        refine lv_icmp_ge (tgt := 129) hx hb dX12_park_108 (by decide) (fun c4 => ?_) (fun c4 => ?_)
        · have c4 : 19 ≤ k49 := (nI_leI (a := 19) (b := k49) (by omega) (by omega)).mp c4
          refine lv_aload_n hx hb dX12_park_129 rfl (lv_at hl 2 rfl) ?_
          refine va_callv (va_runV (As := []) (rest := []) ⟨hx, hb, hml, hown, hts⟩ (m_startSo l dC dI ar cy _ hN st50 sl51 hG.1 ) (cwV 0 hts gX12_park_X12_startSo rfl rfl rfl (by decide +kernel) ⟨Nat.le_of_ble_eq_true rfl, Nat.le_of_ble_eq_true rfl⟩) ⟨fun a U g mk q => ⟨q.1, mPre.blind q.2⟩, va_recv hK hP (ci := 11) (q0 := 0) rfl rfl, fun U hU hW => ⟨rfl, mPre.of hP hK hU hW⟩⟩ rfl rfl hl.1 rfl (lv_room (Nat.le_of_ble_eq_true rfl)) dX12_park_130 ⟨Nat.le_of_ble_eq_true rfl, Nat.le_of_ble_eq_true rfl⟩) hS (fun q _ h => MA.le hS.1 q h) (MA.le hS.1) (fun x t H locs ht hvm hw hB9 _ _ hS => ?_)
          have hP := mB.at ht hB9
          clear hB9 ht hvm
          obtain ⟨st63, sl64⟩ := x
          obtain ⟨hG2, hLxst63, hw⟩ := hw
          dsimp only at hG2 hw
          have hP : va_P (dC, dI) vwCl (mw ar cy st63 sl64) _ := hP
          have hG : MG [2, 7, 8, 9, 10, 11, 12, 13, 14, 15, 20, 22] st st63 := hG.tr hG2 (by decide)
          have hMst63 : MG [1, 2, 3, 4, 5, 7, 8, 9, 10, 11, 12, 13, 14, 15, 16, 17, 19, 20, 21, 22, 23] st50 st63 := hG2
          clear hG2
          have hf65 := hw
          refine lv_aload_n hx hb dX12_park_133 rfl (lv_at hl 2 rfl) ?_
          refine lv_iconst (v := 0) hx hb dX12_park_134 (by decide) ?_
          refine va_put (D := (dC, dI)) (ci := 11) (v := .int 0) (ty := .int) (C := RX12) (T := TX12) (N := 47) hx hb hts ii_X12_park tyX12 tyX12_ok nmX12 hown hK hP (mD hN _ _ _ _) hS 0 rfl rfl 23 (by decide) (hts _ mm_X12_park_8) (fun _ hh => hh) rfl (by decide +kernel) rfl rfl (Nat.le_of_ble_eq_true rfl) dX12_park_135 (fun H locs hP _ hS => ?_)
          have hP : va_P (dC, dI) vwCl (mw ar cy (up2 st63 0 23 0) sl64) H := hP
          obtain ⟨st66, est66⟩ : ∃ y, y = up2 st63 0 23 0 := ⟨_, rfl⟩
          have hG : MG [2, 7, 8, 9, 10, 11, 12, 13, 14, 15, 20, 22] st st66 := by rw [est66]; exact hG.up (r0) (pn (by decide : pcl 0 23 = 18) (by decide))
          rw [← est66] at hP
          refine lv_iload_n hx hb dX12_park_138 rfl (lv_at hl 1 rfl) ?_
          have hr9 : (nI k28) = pAns (pAll B g m 900 0 (fun _ => 0) (fun _ _ => 0) 0) := by rw [hres, pAns_0]
          have h02 : st66 0 2 = 0 := by rw [est66, up2_ne (r := 0) (k := 23) (a := 0) (j := 2) _ _ (by omega), hMst63.2 0 2 (by decide), hv56_1]
          have hnk9 : NKn st → NKn st66 := fun _ => NKf.zero (fun jj hk => by show st66 2 (133 + jj) = 0; rw [est66, up2_ne (r := 0) (k := 23) (a := 2) (j := 133 + jj) _ _ (by omega)]; exact hf65 (133 + jj) (by omega) (by omega))
          have hc9 : ∀ a, a < 3 → st66 2 a = nI (c7_ a) := fun a ha => by rw [est66, up2_ne (r := 0) (k := 23) (a := 2) (j := a) _ _ (by omega), hMst63.2 2 a (by rw [pcl2c ha]; decide)]; exact hv57_2 a ha
          have hn9 : ∀ j, j < 19 → sl64 7 j = sl30 8 j := fun j hj => (hLxst63 7 (by decide) j).trans (hv59_4 j (by omega))
          have hrk9 : RKN (pAll B g m 900 0 (fun _ => 0) (fun _ _ => 0) 0).1 st sl st66 sl64 := by rw [hres]; exact ⟨fun _ => ⟨hc9, ⟨hbo8.1, hbo8.2.1, hbo8.2.2.1⟩, fun a ha i hi => ⟨(hn9 _ (bs_lt ha hi ⟨hbo8.1, hbo8.2.1, hbo8.2.2.1⟩)).trans (hnm8 a ha i hi).1, (hnm8 a ha i hi).2⟩⟩, fun hh => absurd rfl hh, fun k => (hLxst63 9 (by decide) k).trans (hv60_5 k)⟩
          have hft9 : st66 0 10 = nI (pAll B g m 900 0 (fun _ => 0) (fun _ _ => 0) 0).1.1 := by rw [hres]; exact (show st66 0 10 = 0 by rw [est66, up2_ne (r := 0) (k := 23) (a := 0) (j := 10) _ _ (by omega), hMst63.2 0 10 (by decide), hv55_0])
          subst hm
          exact W.iret (v := (nI k28)) hx hb hr (fun t ht hW => ⟨⟨(nI k28), (st66, sl64), rfl, ⟨hG, ⟨h02, hnk9, hr9, hrk9, hft9⟩⟩, mB.of ht hP⟩, hS.F ht⟩) hS.2.2 dX12_park_139
        · have c4 : ¬ 19 ≤ k49 := fun hh => c4 ((nI_leI (a := 19) (b := k49) (by omega) (by omega)).mpr hh)
          refine lv_aload_n hx hb dX12_park_111 rfl (lv_at hl 2 rfl) ?_
          refine va_get (D := (dC, dI)) (ci := 11) (v := .ref (ar 7)) (C := RX12) (T := TX12) (N := 47) hx hb hts ii_X12_park hown hK hP 0 rfl rfl 19 (by decide) (hts _ mm_X12_park_6) (fun _ hh => hh) rfl dX12_park_112 ?_
          refine lv_iload_n hx hb dX12_park_115 rfl (lv_at hl 0 rfl) ?_
          refine lv_aload_n hx hb dX12_park_116 rfl (lv_at hl 2 rfl) ?_
          refine va_get (D := (dC, dI)) (ci := 11) (v := .ref (ar 8)) (C := RX12) (T := TX12) (N := 47) hx hb hts ii_X12_park hown hK hP 0 rfl rfl 20 (by decide) (hts _ mm_X12_park_7) (fun _ hh => hh) rfl dX12_park_117 ?_
          refine lv_iload_n hx hb dX12_park_120 rfl (lv_at hl 0 rfl) ?_
          refine va_lald hx hb hK hP 8 7 rfl rfl (i := (nI k49)) (vp_in_nI (by omega) (by decide)) dX12_park_121 ?_
          refine zz_topl (v := sl51 8 k49) (by rw [nI_clamp (by omega)]) ?_
          refine va_last hx hb hK hP (mD hN _ _ _ _) hS 7 6 rfl rfl (i := (nI k49)) (vp_in_nI (by omega) (by decide)) dX12_park_122 (fun H locs hP _ hS => ?_)
          rw [nI_clamp (by omega)] at hP
          have hP : va_P (dC, dI) vwCl (mw ar cy st50 (upL sl51 7 k49 (sl51 8 k49))) H := hP
          obtain ⟨sl67, esl67⟩ : ∃ y, y = upL sl51 7 k49 (sl51 8 k49) := ⟨_, rfl⟩
          rw [← esl67] at hP
          refine lv_iinc (v := (nI (k49 + 1))) (lv' := [(2, .int (nI (k49 + 1))), (1, .int (nI k28)), (0, .ref (ar 0))]) hx hb dX12_park_123 hl (k := 0) rfl (nI_add k49 1) (by decide) rfl (fun ls hl => ?_)
          refine lv_goto (tgt := 105) hx hb dX12_park_126 (by decide) ?_
          exact ih61 (20 - (k49 + 1)) _ _ _ _ (by omega) ⟨(k49 + 1), st50, sl67, rfl, by omega, by omega, by show st50 0 10 = 0; rw [hv55_0], by show st50 0 2 = 0; rw [hv56_1], hv57_2, fun jj => by rw [esl67, upL_ne (r := 7) (k := k49) (a := 8) (j := jj) _ _ (by omega)]; exact hv58_3 jj, by intro jj hk; by_cases ee : jj = k49; (rw [ee, esl67, upL_same]; exact hv58_3 k49); (rw [esl67, upL_ne (r := 7) (k := k49) (a := 7) (j := jj) _ _ (by omega)]; exact hv59_4 jj (by omega)), fun jj => by rw [esl67, upL_ne (r := 7) (k := k49) (a := 9) (j := jj) _ _ (by omega)]; exact hv60_5 jj, hP, hG, hG52, hS, lv_sub hl [0, 1, 2] rfl, rfl⟩
      · have c3 : ¬ 61 ≤ k39 := fun hh => c3 ((nI_leI (a := 61) (b := k39) (by omega) (by omega)).mpr hh)
        refine lv_aload_n hx hb dX12_park_85 rfl (lv_at hl 2 rfl) ?_
        refine va_get (D := (dC, dI)) (ci := 11) (v := .ref (ar 2)) (C := RX12) (T := TX12) (N := 47) hx hb hts ii_X12_park hown hK hP 0 rfl rfl 14 (by decide) (hts _ mm_X12_park_5) (fun _ hh => hh) rfl dX12_park_86 ?_
        refine lv_iload_n hx hb dX12_park_89 rfl (lv_at hl 0 rfl) ?_
        refine lv_aload_n hx hb dX12_park_90 rfl (lv_at hl 2 rfl) ?_
        refine va_get (D := (dC, dI)) (ci := 11) (v := .ref (ar 3)) (C := RX12) (T := TX12) (N := 47) hx hb hts ii_X12_park hown hK hP 0 rfl rfl 15 (by decide) (hts _ mm_X12_park_1) (fun _ hh => hh) rfl dX12_park_91 ?_
        refine lv_iload_n hx hb dX12_park_94 rfl (lv_at hl 0 rfl) ?_
        refine va_iald hx hb hK hP 3 2 rfl rfl (i := (nI k39)) (vp_in_nI (by omega) (by decide)) dX12_park_95 ?_
        refine zz_top (v := st40 3 k39) (by rw [nI_clamp (by omega)]) ?_
        have hIst40 := hG.1
        refine va_iast hx hb hK hP (mD hN _ _ _ _) hS 2 1 rfl rfl (i := (nI k39)) (vp_in_nI (by omega) (by decide)) dX12_park_96 (fun H locs hP _ hS => ?_)
        rw [nI_clamp (by omega)] at hP
        have hP : va_P (dC, dI) vwCl (mw ar cy (up2 st40 2 k39 (st40 3 k39)) sl30) H := hP
        obtain ⟨st68, est68⟩ : ∃ y, y = up2 st40 2 k39 (st40 3 k39) := ⟨_, rfl⟩
        have hG : MG [2, 7, 8, 9, 10, 11, 12, 13, 14, 15, 20, 22] st st68 := by rw [est68]; exact hG.up (rc hIst40 (rfl)) (pns_2_0_61_2_7_8_9_10_11_12_13_14_15_20_22 k39 (by omega) (by omega))
        have hG69 : MG [6] st st68 := by rw [est68]; exact hG41.up (rc hIst40 (rfl)) (pns_2_0_61_6 k39 (by omega) (by omega))
        rw [← est68] at hP
        refine lv_iinc (v := (nI (k39 + 1))) (lv' := [(2, .int (nI (k39 + 1))), (1, .int (nI k28)), (0, .ref (ar 0))]) hx hb dX12_park_97 hl (k := 0) rfl (nI_add k39 1) (by decide) rfl (fun ls hl => ?_)
        refine lv_goto (tgt := 79) hx hb dX12_park_100 (by decide) ?_
        exact ih48 (62 - (k39 + 1)) _ _ _ _ (by omega) ⟨(k39 + 1), st68, rfl, by omega, by omega, by show st68 0 10 = 0; rw [est68, up2_ne (r := 2) (k := k39) (a := 0) (j := 10) _ _ (by omega), hv44_0], by show st68 0 2 = 0; rw [est68, up2_ne (r := 2) (k := k39) (a := 0) (j := 2) _ _ (by omega), hv45_1], fun a ha => by rw [est68, up2_ne (r := 2) (k := k39) (a := 3) (j := a) _ _ (by omega)]; exact hv46_2 a ha, fun a ha hk => by rw [est68]; by_cases ee : a = k39; (rw [ee, up2_same]; exact hv46_2 k39 (by omega)); (rw [up2_ne (r := 2) (k := k39) (a := 2) (j := a) _ _ (by omega)]; exact hv47_3 a ha (by omega)), hP, hG, hG69, hS, lv_sub hl [0, 1, 2] rfl, rfl⟩
    · have c2 : ¬ (tkd B g m p7) = 0 := fun hh => c2 ((nI_eq (a := (tkd B g m p7)) (b := 0) (by omega) (by omega)).mpr hh)
      refine lv_aload_n hx hb dX12_park_50 rfl (lv_at hl 1 rfl) ?_
      refine va_calli (va_runV (As := []) (rest := []) ⟨hx, hb, hml, hown, hts⟩ (f_readLine l dC dI ar cy _ hN st29 sl30 B g m p7 c7_ n7 hG.1 (MBt.fr hB hF) hT hR) (cwV 0 hts gX12_park_X12_readLine rfl rfl rfl (by decide +kernel) ⟨Nat.le_of_ble_eq_true rfl, Nat.le_of_ble_eq_true rfl⟩) ⟨fun a U g mk q => ⟨q.1, mPre.blind q.2⟩, va_recv hK hP (ci := 11) (q0 := 0) rfl rfl, fun U hU hW => ⟨rfl, mPre.of hP hK hU hW⟩⟩ rfl rfl hl.1 rfl (lv_room (Nat.le_of_ble_eq_true rfl)) dX12_park_51 ⟨Nat.le_of_ble_eq_true rfl, Nat.le_of_ble_eq_true rfl⟩) hS (fun q _ h => MA.le hS.1 q h) (MA.le hS.1) (fun r70 x t H locs ht hvm hw hB9 _ _ hS => ?_)
      have hP := mB.at ht hB9
      clear hB9 ht hvm
      obtain ⟨st71, sl72⟩ := x
      obtain ⟨hG2, hF2, hw⟩ := hw
      dsimp only at hG2 hF2 hw
      have hP : va_P (dC, dI) vwCl (mw ar cy st71 sl72) _ := hP
      have hG : MG [2, 7, 8, 9, 10, 11, 12, 13, 14, 15, 20, 22] st st71 := hG.tr hG2 (by decide)
      have hG73 : MG [6] st st71 := hG31.tr hG2 (by decide)
      have hG74 : MG [21] st st71 := hG32.tr hG2 (by decide)
      have hFst71 : FM 4 st29 sl30 st71 sl72 := hF2
      have hF : FM 4 st2 sl3 st71 sl72 := hF.tr hFst71 (by omega) (by omega)
      clear hG2 hF2
      rcases hw with ⟨n75, n76, n77, rfl, hR, hT, hf78, hf79, hk80⟩ | ⟨n81, n82, rfl, hf83, hf84, hf85, hf86⟩
      · have hp9 := hT.2.2.2.2.2.2
        have hk1 := tkd_lt (B := B) (g := g) (m := m) (p := n77)
        have hk2 := tkx_le (B := B) (g := g) (m := m) (p := n77) hp9
        have hk3 := tka_le (B := B) (g := g) (m := m) (p := n77) hp9 hB.2.2.1
        have hk4 := tkv_lt (p := n77) hB hp9
        have hk5 := tkw_lt (B := B) (g := g) (m := m) (p := n77)
        refine lv_if_eq (tgt := 64) hx hb dX12_park_54 (by decide) (fun cc => absurd cc (by decide)) (fun _ => ?_)
        refine lv_aload_n hx hb dX12_park_57 rfl (lv_at hl 1 rfl) ?_
        refine va_calli (va_runV (As := []) (rest := []) ⟨hx, hb, hml, hown, hts⟩ (f_readEnd l dC dI ar cy _ hN st71 sl72 B g m n77 hG.1 (MBt.fr hB hF) hT) (cwV 0 hts gX12_park_X12_readEnd rfl rfl rfl (by decide +kernel) ⟨Nat.le_of_ble_eq_true rfl, Nat.le_of_ble_eq_true rfl⟩) ⟨fun a U g mk q => ⟨q.1, mPre.blind q.2⟩, va_recv hK hP (ci := 11) (q0 := 0) rfl rfl, fun U hU hW => ⟨rfl, mPre.of hP hK hU hW⟩⟩ rfl rfl hl.1 rfl (lv_room (Nat.le_of_ble_eq_true rfl)) dX12_park_58 ⟨Nat.le_of_ble_eq_true rfl, Nat.le_of_ble_eq_true rfl⟩) hS (fun q _ h => MA.le hS.1 q h) (MA.le hS.1) (fun r87 x t H locs ht hvm hw hB9 _ _ hS => ?_)
        have hP := mB.at ht hB9
        clear hB9 ht hvm
        obtain ⟨st88, sl89⟩ := x
        obtain ⟨hG2, hF2, hw⟩ := hw
        dsimp only at hG2 hF2 hw
        have hP : va_P (dC, dI) vwCl (mw ar cy st88 sl89) _ := hP
        have hG : MG [2, 7, 8, 9, 10, 11, 12, 13, 14, 15, 20, 22] st st88 := hG.tr hG2 (by decide)
        have hG90 : MG [6] st st88 := hG73.tr hG2 (by decide)
        have hG91 : MG [21] st st88 := hG74.tr hG2 (by decide)
        have hFst88 : FM 2 st71 sl72 st88 sl89 := hF2
        have hF : FM 4 st2 sl3 st88 sl89 := hF.tr hFst88 (by omega) (by omega)
        clear hG2 hF2
        have hR : RT n75 n76 st88 sl89 := hR.fr hFst88 (by omega)
        rcases hw with ⟨rfl, hT, hf92, hk93⟩ | ⟨n94, n95, rfl, hf96, hf97, hf98, hf99⟩
        · have hp9 := hT.2.2.2.2.2.2
          have hk1 := tkd_lt (B := B) (g := g) (m := m) (p := (tkx B g m n77))
          have hk2 := tkx_le (B := B) (g := g) (m := m) (p := (tkx B g m n77)) hp9
          have hk3 := tka_le (B := B) (g := g) (m := m) (p := (tkx B g m n77)) hp9 hB.2.2.1
          have hk4 := tkv_lt (p := (tkx B g m n77)) hB hp9
          have hk5 := tkw_lt (B := B) (g := g) (m := m) (p := (tkx B g m n77))
          refine lv_if_ne (tgt := 71) hx hb dX12_park_61 (by decide) (fun _ => ?_) (fun cc => absurd cc (by decide))
          refine lv_iinc (v := (nI (k28 + 1))) (lv' := [(1, .int (nI (k28 + 1))), (0, .ref (ar 0))]) hx hb dX12_park_71 hl (k := 0) rfl (nI_add k28 1) (by decide) rfl (fun ls hl => ?_)
          refine lv_goto (tgt := 43) hx hb dX12_park_74 (by decide) ?_
          have hR9 := hR.2.2.2.2.2.1
          have hsm := hf78
          exact ih38 (33 - (k28 + 1)) _ _ _ _ (by omega) ⟨(k28 + 1), st88, sl89, rfl, by omega, by omega, ⟨(tkx B g m n77), n75, n76, hT, hR, (pAll_y (show ¬ tkd B g m p7 = 0 by omega) (hf79.trans (hf92 _)) (by omega)).symm.trans hpa, by omega⟩, hF, by show st88 0 10 = st2 0 10; rw [hk93, hk80, hK10], hP, hG, hG90, hG91, hS, lv_sub hl [0, 1] rfl, rfl⟩
        · refine lv_if_ne (tgt := 71) hx hb dX12_park_61 (by decide) (fun cc => absurd (by decide) cc) (fun _ => ?_)
          refine lv_iconst (v := (-1)) hx hb dX12_park_64 (by decide) ?_
          refine lv_aload_n hx hb dX12_park_65 rfl (lv_at hl 1 rfl) ?_
          refine va_get (D := (dC, dI)) (ci := 11) (v := .int (st88 0 11)) (C := RX12) (T := TX12) (N := 47) hx hb hts ii_X12_park hown hK hP 0 rfl rfl 11 (by decide) (hts _ mm_X12_park_4) (fun _ hh => hh) rfl dX12_park_66 ?_
          refine zz_top (v := (nI n95)) (by show st88 0 11 = _; rw [hf97]) ?_
          refine lv_isub hx hb dX12_park_69 ?_
          refine lv_topi (fun z100 ez100 => ?_)
          have hres : pAll B g m 900 0 (fun _ => 0) (fun _ _ => 0) 0 = (fl n94 n95, 0) := hpa.symm.trans (pAll_f (show ¬ tkd B g m p7 = 0 by omega) (hf79.trans (hf99 _)) hf98 (by omega))
          have hr9 : z100 = pAns (pAll B g m 900 0 (fun _ => 0) (fun _ _ => 0) 0) := by rw [ez100, hres, pAns_f hf98]
          have h02 : st88 0 2 = 0 := by rw [(hF 0 2 (by decide)).1, hf8]
          have hnk9 : NKn st → NKn st88 := fun hh => NKn.mg hG90 (by decide) hh
          have hLk : LQ [7, 9] sl sl89 := hf9.tr hF.lk (by decide)
          have hrk9 : RKN (pAll B g m 900 0 (fun _ => 0) (fun _ _ => 0) 0).1 st sl st88 sl89 := by rw [hres]; exact ⟨fun hh => absurd hh (show ¬ n94 = 0 by omega), fun _ => ⟨fun a ha => hG91.2 2 a (by rw [pcl2c ha]; decide), fun k => hLk 7 (by decide) k⟩, fun k => hLk 9 (by decide) k⟩
          have hft9 : st88 0 10 = nI (pAll B g m 900 0 (fun _ => 0) (fun _ _ => 0) 0).1.1 := by rw [hres]; exact (show st88 0 10 = (nI n94) by rw [hf96])
          subst hm
          exact W.iret (v := z100) hx hb hr (fun t ht hW => ⟨⟨z100, (st88, sl89), rfl, ⟨hG, ⟨h02, hnk9, hr9, hrk9, hft9⟩⟩, mB.of ht hP⟩, hS.F ht⟩) hS.2.2 dX12_park_70
      · refine lv_if_eq (tgt := 64) hx hb dX12_park_54 (by decide) (fun _ => ?_) (fun cc => absurd (by decide) cc)
        refine lv_iconst (v := (-1)) hx hb dX12_park_64 (by decide) ?_
        refine lv_aload_n hx hb dX12_park_65 rfl (lv_at hl 1 rfl) ?_
        refine va_get (D := (dC, dI)) (ci := 11) (v := .int (st71 0 11)) (C := RX12) (T := TX12) (N := 47) hx hb hts ii_X12_park hown hK hP 0 rfl rfl 11 (by decide) (hts _ mm_X12_park_4) (fun _ hh => hh) rfl dX12_park_66 ?_
        refine zz_top (v := (nI n82)) (by show st71 0 11 = _; rw [hf84]) ?_
        refine lv_isub hx hb dX12_park_69 ?_
        refine lv_topi (fun z101 ez101 => ?_)
        have hres : pAll B g m 900 0 (fun _ => 0) (fun _ _ => 0) 0 = (fl n81 n82, 0) := hpa.symm.trans (pAll_f (show ¬ tkd B g m p7 = 0 by omega) hf86 hf85 (by omega))
        have hr9 : z101 = pAns (pAll B g m 900 0 (fun _ => 0) (fun _ _ => 0) 0) := by rw [ez101, hres, pAns_f hf85]
        have h02 : st71 0 2 = 0 := by rw [(hF 0 2 (by decide)).1, hf8]
        have hnk9 : NKn st → NKn st71 := fun hh => NKn.mg hG73 (by decide) hh
        have hLk : LQ [7, 9] sl sl72 := hf9.tr hF.lk (by decide)
        have hrk9 : RKN (pAll B g m 900 0 (fun _ => 0) (fun _ _ => 0) 0).1 st sl st71 sl72 := by rw [hres]; exact ⟨fun hh => absurd hh (show ¬ n81 = 0 by omega), fun _ => ⟨fun a ha => hG74.2 2 a (by rw [pcl2c ha]; decide), fun k => hLk 7 (by decide) k⟩, fun k => hLk 9 (by decide) k⟩
        have hft9 : st71 0 10 = nI (pAll B g m 900 0 (fun _ => 0) (fun _ _ => 0) 0).1.1 := by rw [hres]; exact (show st71 0 10 = (nI n81) by rw [hf83])
        subst hm
        exact W.iret (v := z101) hx hb hr (fun t ht hW => ⟨⟨z101, (st71, sl72), rfl, ⟨hG, ⟨h02, hnk9, hr9, hrk9, hft9⟩⟩, mB.of ht hP⟩, hS.F ht⟩) hS.2.2 dX12_park_70
  · have c1 : ¬ 61 ≤ k10 := fun hh => c1 ((nI_leI (a := 61) (b := k10) (by omega) (by omega)).mpr hh)
    refine lv_aload_n hx hb dX12_park_15 rfl (lv_at hl 1 rfl) ?_
    refine va_get (D := (dC, dI)) (ci := 11) (v := .ref (ar 3)) (C := RX12) (T := TX12) (N := 47) hx hb hts ii_X12_park hown hK hP 0 rfl rfl 15 (by decide) (hts _ mm_X12_park_1) (fun _ hh => hh) rfl dX12_park_16 ?_
    refine lv_iload_n hx hb dX12_park_19 rfl (lv_at hl 0 rfl) ?_
    refine lv_iconst (v := 0) hx hb dX12_park_20 (by decide) ?_
    refine va_iast hx hb hK hP (mD hN _ _ _ _) hS 3 2 rfl rfl (i := (nI k10)) (vp_in_nI (by omega) (by decide)) dX12_park_21 (fun H locs hP _ hS => ?_)
    rw [nI_clamp (by omega)] at hP
    have hP : va_P (dC, dI) vwCl (mw ar cy (up2 st11 3 k10 0) sl12) H := hP
    obtain ⟨st102, est102⟩ : ∃ y, y = up2 st11 3 k10 0 := ⟨_, rfl⟩
    have hG : MG [2, 7, 8, 9, 10, 11, 12, 13, 14, 15, 20, 22] st st102 := by rw [est102]; exact hG.up (r0) (pns_3_0_61_2_7_8_9_10_11_12_13_14_15_20_22 k10 (by omega) (by omega))
    have hG103 : MG [6] st st102 := by rw [est102]; exact hG13.up (r0) (pns_3_0_61_6 k10 (by omega) (by omega))
    have hG104 : MG [21] st st102 := by rw [est102]; exact hG14.up (r0) (pns_3_0_61_21 k10 (by omega) (by omega))
    rw [← est102] at hP
    have hF : FM 4 st2 sl3 st102 sl12 := by rw [est102]; exact hF.up (dm_read _)
    have hT : TM B g m 0 st102 sl12 := by rw [est102]; exact hT.up (by omega)
    refine lv_iinc (v := (nI (k10 + 1))) (lv' := [(1, .int (nI (k10 + 1))), (0, .ref (ar 0))]) hx hb dX12_park_22 hl (k := 0) rfl (nI_add k10 1) (by decide) rfl (fun ls hl => ?_)
    refine lv_goto (tgt := 9) hx hb dX12_park_25 (by decide) ?_
    exact ih21 (62 - (k10 + 1)) _ _ _ _ (by omega) ⟨(k10 + 1), st102, sl12, rfl, by omega, by omega, by intro jj hk; rw [est102]; by_cases ee : jj = k10; (rw [ee, up2_same]); (rw [up2_ne (r := 3) (k := k10) (a := 3) (j := jj) _ _ (by omega)]; exact hv17_0 jj (by omega)), hF, hT, by show st102 0 10 = st2 0 10; rw [est102, up2_ne (r := 3) (k := k10) (a := 0) (j := 10) _ _ (by omega), hK10], hP, hG, hG103, hG104, hS, lv_sub hl [0, 1] rfl, rfl⟩
