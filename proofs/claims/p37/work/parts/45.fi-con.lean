set_option maxHeartbeats 4000000 in
set_option maxRecDepth 100000 in
theorem f_readFree (l : Launch) (dC : Nat → ClassId) (dI : Nat → Nat → Nat) (ar : Nat → Nat) (cy : Nat → ClassId) (sz : Nat) (hN : MN ar) (st : Nat → Nat → Int32) (sl : Nat → Nat → Int64) (B : Nat → Nat) (g m : Nat) (p : Nat) (c : Nat → Nat) (nm : Nat → Nat → Nat) (hI : MI st) (hB : MBt B g m st) (hT : TM B g m p st sl) (hR : RT c nm st sl) (hw : tkw B g m p = 4) : Met l yX12_readFree wsX12_readFree ({ frames := 4, cells := 0, slots := 0, locals := 91 }) (va_Pc [.ref (ar 0)] (mPre dC dI ar cy sz st sl)) (va_Qi (fun (r : Int32) (x : MT) => MG [1, 2, 3, 6, 7, 8, 9, 10, 11, 12, 13, 14, 15, 20, 21, 22] st x.1 ∧ FM 4 st sl x.1 x.2 ∧ ((∃ c1 : Nat → Nat, ∃ n1 : Nat → Nat → Nat, ∃ q : Nat, r = 1 ∧ RT c1 n1 x.1 x.2 ∧ TM B g m q x.1 x.2 ∧ c1 0 + c1 1 + c1 2 + c1 3 + c1 4 = c 0 + c 1 + c 2 + c 3 + c 4 + 1 ∧ lFree B g m p c nm = eEnd B g m q (fun p2 => (0, p2, c1, n1))) ∨ (∃ f : Nat, ∃ a : Nat, r = 0 ∧ x.1 0 10 = nI f ∧ x.1 0 11 = nI a ∧ 1 ≤ f ∧ lFree B g m p c nm = fl f a))) (mB dC dI ar cy) (MA ar sz)) 0 0 (MA ar sz) := by
  refine Met.ofW (cc := cX12_readFree) (maxL := 3) (ret := (some .boolean)) (by decide) rfl ?_
  intro p9 e s m9 args below meth c9 s₁ B9 hml hv
  obtain ⟨rfl, hsz, hP, hK⟩ := hv
  have hx := B9.exec
  have hb := B9.bytes
  have hr := B9.returns
  have hts := atoms_spec (ws := wsX12_readFree) B9.pre
  have hown : s.vm.findClass RX12 = some m9.cls := findClass_of_methodNamed B9.named
  subst hsz
  have hS : va_S (MA ar s.heap.size) s.heap s.heap [] := va_S.rf
  have hG : MG [1, 2, 3, 6, 7, 8, 9, 10, 11, 12, 13, 14, 15, 20, 21, 22] st st := MG.rf hI
  have hl := lv_entry ([.ref (ar 0)]) (n := 3) (Nat.le_of_ble_eq_true rfl)
  rw [lg_entry_eq]
  generalize (lg_sl ([.ref (ar 0)]) ++ List.replicate (3 - (lg_sl ([.ref (ar 0)])).length) Slot.unset).toArray = ls at hl ⊢
  have hl : lv_has ls 3 [(0, .ref (ar 0))] := hl
  clear hI
  have hB1 := hB.2.2.1
  have hB2 := hB.2.2.2.1
  have hF : FM 4 st sl st sl := FM.rf
  have hp9 := hT.2.2.2.2.2.2
  have hk1 := tkd_lt (B := B) (g := g) (m := m) (p := p)
  have hk2 := tkx_le (B := B) (g := g) (m := m) (p := p) hp9
  have hk3 := tka_le (B := B) (g := g) (m := m) (p := p) hp9 hB.2.2.1
  have hk4 := tkv_lt (p := p) hB hp9
  have hk5 := tkw_lt (B := B) (g := g) (m := m) (p := p)
  have hR9 := hR.2.2.2.2.2.1
  refine lv_aload_n hx hb dX12_readFree_0 rfl (lv_at hl 0 rfl) ?_
  refine lv_iconst (v := 3) hx hb dX12_readFree_1 (by decide) ?_
  refine lv_bipush (v := 12) hx hb dX12_readFree_2 (by decide) ?_
  refine va_calli (va_runV (As := [.int 3, .int 12]) (rest := []) ⟨hx, hb, hml, hown, hts⟩ (f_readFirst3 l dC dI ar cy _ hN st sl B g m p c nm hG.1 (MBt.fr hB hF) hT hR (by have h9 := @tkw_d B g m p; omega)) (cwV 2 hts gX12_readFree_X12_readFirst rfl rfl rfl (by decide +kernel) ⟨Nat.le_of_ble_eq_true rfl, Nat.le_of_ble_eq_true rfl⟩) ⟨fun a U g mk q => ⟨q.1, mPre.blind q.2⟩, va_recv hK hP (ci := 11) (q0 := 0) rfl rfl, fun U hU hW => ⟨rfl, mPre.of hP hK hU hW⟩⟩ rfl rfl hl.1 rfl (lv_room (Nat.le_of_ble_eq_true rfl)) dX12_readFree_4 ⟨Nat.le_of_ble_eq_true rfl, Nat.le_of_ble_eq_true rfl⟩) hS (fun q _ h => MA.le hS.1 q h) (MA.le hS.1) (fun r1 x t H locs ht hvm hw hB9 _ _ hS => ?_)
  have hP := mB.at ht hB9
  clear hB9 ht hvm
  obtain ⟨st2, sl3⟩ := x
  obtain ⟨hG2, hF2, hw⟩ := hw
  dsimp only at hG2 hF2 hw
  have hP : va_P (dC, dI) vwCl (mw ar cy st2 sl3) _ := hP
  have hG : MG [1, 2, 3, 6, 7, 8, 9, 10, 11, 12, 13, 14, 15, 20, 21, 22] st st2 := hG.tr hG2 (by decide)
  have hFst2 : FM 2 st sl st2 sl3 := hF2
  have hF : FM 4 st sl st2 sl3 := hF.tr hFst2 (by omega) (by omega)
  clear hG2 hF2
  have hR : RT c nm st2 sl3 := hR.fr hFst2 (by omega)
  rcases hw with ⟨rfl, hf4, hT⟩ | ⟨rfl, hf5, hf6, hf7⟩
  · have hp9 := hT.2.2.2.2.2.2
    have hk1 := tkd_lt (B := B) (g := g) (m := m) (p := (tkx B g m p))
    have hk2 := tkx_le (B := B) (g := g) (m := m) (p := (tkx B g m p)) hp9
    have hk3 := tka_le (B := B) (g := g) (m := m) (p := (tkx B g m p)) hp9 hB.2.2.1
    have hk4 := tkv_lt (p := (tkx B g m p)) hB hp9
    have hk5 := tkw_lt (B := B) (g := g) (m := m) (p := (tkx B g m p))
    refine lv_if_eq (tgt := 24) hx hb dX12_readFree_7 (by decide) (fun cc => absurd cc (by decide)) (fun _ => ?_)
    refine lv_aload_n hx hb dX12_readFree_10 rfl (lv_at hl 0 rfl) ?_
    refine lv_iconst (v := 0) hx hb dX12_readFree_11 (by decide) ?_
    refine lv_aload_n hx hb dX12_readFree_12 rfl (lv_at hl 0 rfl) ?_
    refine va_get (D := (dC, dI)) (ci := 11) (v := .ref (ar 3)) (C := RX12) (T := TX12) (N := 47) hx hb hts ii_X12_readFree hown hK hP 0 rfl rfl 15 (by decide) (hts _ mm_X12_readFree_1) (fun _ hh => hh) rfl dX12_readFree_13 ?_
    refine lv_iconst (v := 0) hx hb dX12_readFree_16 (by decide) ?_
    refine va_iald hx hb hK hP 3 2 rfl rfl (i := 0) (zz_in (by decide)) dX12_readFree_17 ?_
    refine zz_top (v := (nI (c 0))) (by show st2 3 0 = _; rw [hR.1]) ?_
    refine va_calli (va_runV (As := [.int 0, .int (nI (c 0))]) (rest := []) ⟨hx, hb, hml, hown, hts⟩ (f_readOne0 l dC dI ar cy _ hN st2 sl3 (c 0) B g m (tkx B g m p) c nm (by omega) hG.1 (MBt.fr hB hF) hT hR (by omega)) (cwV 2 hts gX12_readFree_X12_readOne rfl rfl rfl (by decide +kernel) ⟨Nat.le_of_ble_eq_true rfl, Nat.le_of_ble_eq_true rfl⟩) ⟨fun a U g mk q => ⟨q.1, mPre.blind q.2⟩, va_recv hK hP (ci := 11) (q0 := 0) rfl rfl, fun U hU hW => ⟨rfl, mPre.of hP hK hU hW⟩⟩ rfl rfl hl.1 rfl (lv_room (Nat.le_of_ble_eq_true rfl)) dX12_readFree_18 ⟨Nat.le_of_ble_eq_true rfl, Nat.le_of_ble_eq_true rfl⟩) hS (fun q _ h => MA.le hS.1 q h) (MA.le hS.1) (fun r8 x t H locs ht hvm hw hB9 _ _ hS => ?_)
    have hP := mB.at ht hB9
    clear hB9 ht hvm
    obtain ⟨st9, sl10⟩ := x
    obtain ⟨hG2, hF2, hw⟩ := hw
    dsimp only at hG2 hF2 hw
    have hP : va_P (dC, dI) vwCl (mw ar cy st9 sl10) _ := hP
    have hG : MG [1, 2, 3, 6, 7, 8, 9, 10, 11, 12, 13, 14, 15, 20, 21, 22] st st9 := hG.tr hG2 (by decide)
    have hFst9 : FM 2 st2 sl3 st9 sl10 := hF2
    have hF : FM 4 st sl st9 sl10 := hF.tr hFst9 (by omega) (by omega)
    clear hG2 hF2
    have hR : RT c nm st9 sl10 := hR.fr hFst9 (by omega)
    rcases hw with ⟨n11, rfl, hf12, hf13, hT, hf14⟩ | ⟨n15, n16, rfl, hf17, hf18, hf19, hf20⟩
    · have hp9 := hT.2.2.2.2.2.2
      have hk1 := tkd_lt (B := B) (g := g) (m := m) (p := (tkx B g m (tkx B g m p)))
      have hk2 := tkx_le (B := B) (g := g) (m := m) (p := (tkx B g m (tkx B g m p))) hp9
      have hk3 := tka_le (B := B) (g := g) (m := m) (p := (tkx B g m (tkx B g m p))) hp9 hB.2.2.1
      have hk4 := tkv_lt (p := (tkx B g m (tkx B g m p))) hB hp9
      have hk5 := tkw_lt (B := B) (g := g) (m := m) (p := (tkx B g m (tkx B g m p)))
      refine lv_if_ne (tgt := 26) hx hb dX12_readFree_21 (by decide) (fun _ => ?_) (fun cc => absurd cc (by decide))
      refine lv_aload_n hx hb dX12_readFree_26 rfl (lv_at hl 0 rfl) ?_
      refine va_get (D := (dC, dI)) (ci := 11) (v := .int (st9 0 13)) (C := RX12) (T := TX12) (N := 47) hx hb hts ii_X12_readFree hown hK hP 0 rfl rfl 13 (by decide) (hts _ mm_X12_readFree_2) (fun _ hh => hh) rfl dX12_readFree_27 ?_
      refine zz_top (v := (nI n11)) (by show st9 0 13 = _; rw [hf13]) ?_
      refine lv_istore_n (lv' := [(1, .int (nI n11)), (0, .ref (ar 0))]) hx hb dX12_readFree_30 rfl hl (by decide) rfl (fun ls hl => ?_)
      refine lv_aload_n hx hb dX12_readFree_31 rfl (lv_at hl 1 rfl) ?_
      refine lv_iconst (v := 0) hx hb dX12_readFree_32 (by decide) ?_
      refine lv_bipush (v := 23) hx hb dX12_readFree_33 (by decide) ?_
      refine va_calli (va_runV (As := [.int 0, .int 23]) (rest := []) ⟨hx, hb, hml, hown, hts⟩ (f_readNumber l dC dI ar cy _ hN st9 sl10 0 23 B g m (tkx B g m (tkx B g m p)) (by omega) (by omega) hG.1 (MBt.fr hB hF) hT) (cwV 2 hts gX12_readFree_X12_readNumber rfl rfl rfl (by decide +kernel) ⟨Nat.le_of_ble_eq_true rfl, Nat.le_of_ble_eq_true rfl⟩) ⟨fun a U g mk q => ⟨q.1, mPre.blind q.2⟩, va_recv hK hP (ci := 11) (q0 := 0) rfl rfl, fun U hU hW => ⟨rfl, mPre.of hP hK hU hW⟩⟩ rfl rfl hl.1 rfl (lv_room (Nat.le_of_ble_eq_true rfl)) dX12_readFree_35 ⟨Nat.le_of_ble_eq_true rfl, Nat.le_of_ble_eq_true rfl⟩) hS (fun q _ h => MA.le hS.1 q h) (MA.le hS.1) (fun r21 x t H locs ht hvm hw hB9 _ _ hS => ?_)
      have hP := mB.at ht hB9
      clear hB9 ht hvm
      obtain ⟨st22, sl23⟩ := x
      obtain ⟨hG2, hF2, hw⟩ := hw
      dsimp only at hG2 hF2 hw
      have hP : va_P (dC, dI) vwCl (mw ar cy st22 sl23) _ := hP
      have hG : MG [1, 2, 3, 6, 7, 8, 9, 10, 11, 12, 13, 14, 15, 20, 21, 22] st st22 := hG.tr hG2 (by decide)
      have hFst22 : FM 2 st9 sl10 st22 sl23 := hF2
      have hF : FM 4 st sl st22 sl23 := hF.tr hFst22 (by omega) (by omega)
      clear hG2 hF2
      have hR : RT c nm st22 sl23 := hR.fr hFst22 (by omega)
      rcases hw with ⟨rfl, hf24, hf25, hf26, hf27, hT, hf28⟩ | ⟨n29, n30, rfl, hf31, hf32, hf33, hf34⟩
      · have hp9 := hT.2.2.2.2.2.2
        have hk1 := tkd_lt (B := B) (g := g) (m := m) (p := (tkx B g m (tkx B g m (tkx B g m p))))
        have hk2 := tkx_le (B := B) (g := g) (m := m) (p := (tkx B g m (tkx B g m (tkx B g m p)))) hp9
        have hk3 := tka_le (B := B) (g := g) (m := m) (p := (tkx B g m (tkx B g m (tkx B g m p)))) hp9 hB.2.2.1
        have hk4 := tkv_lt (p := (tkx B g m (tkx B g m (tkx B g m p)))) hB hp9
        have hk5 := tkw_lt (B := B) (g := g) (m := m) (p := (tkx B g m (tkx B g m (tkx B g m p))))
        refine lv_if_ne (tgt := 43) hx hb dX12_readFree_38 (by decide) (fun _ => ?_) (fun cc => absurd cc (by decide))
        refine lv_aload_n hx hb dX12_readFree_43 rfl (lv_at hl 1 rfl) ?_
        refine va_get (D := (dC, dI)) (ci := 11) (v := .int (st22 0 13)) (C := RX12) (T := TX12) (N := 47) hx hb hts ii_X12_readFree hown hK hP 0 rfl rfl 13 (by decide) (hts _ mm_X12_readFree_2) (fun _ hh => hh) rfl dX12_readFree_44 ?_
        refine zz_top (v := (nI (tkv B g (tkx B g m (tkx B g m p))))) (by show st22 0 13 = _; rw [hf27]) ?_
        refine lv_istore_n (lv' := [(2, .int (nI (tkv B g (tkx B g m (tkx B g m p))))), (1, .int (nI n11)), (0, .ref (ar 0))]) hx hb dX12_readFree_47 rfl hl (by decide) rfl (fun ls hl => ?_)
        refine lv_aload_n hx hb dX12_readFree_48 rfl (lv_at hl 2 rfl) ?_
        refine lv_iload_n hx hb dX12_readFree_49 rfl (lv_at hl 0 rfl) ?_
        refine lv_bipush (v := 23) hx hb dX12_readFree_50 (by decide) ?_
        refine va_calli (va_runV (As := [.int (nI (tkv B g (tkx B g m (tkx B g m p)))), .int 23]) (rest := []) ⟨hx, hb, hml, hown, hts⟩ (f_readNumber l dC dI ar cy _ hN st22 sl23 (tkv B g (tkx B g m (tkx B g m p))) 23 B g m (tkx B g m (tkx B g m (tkx B g m p))) (by omega) (by omega) hG.1 (MBt.fr hB hF) hT) (cwV 2 hts gX12_readFree_X12_readNumber rfl rfl rfl (by decide +kernel) ⟨Nat.le_of_ble_eq_true rfl, Nat.le_of_ble_eq_true rfl⟩) ⟨fun a U g mk q => ⟨q.1, mPre.blind q.2⟩, va_recv hK hP (ci := 11) (q0 := 0) rfl rfl, fun U hU hW => ⟨rfl, mPre.of hP hK hU hW⟩⟩ rfl rfl hl.1 rfl (lv_room (Nat.le_of_ble_eq_true rfl)) dX12_readFree_52 ⟨Nat.le_of_ble_eq_true rfl, Nat.le_of_ble_eq_true rfl⟩) hS (fun q _ h => MA.le hS.1 q h) (MA.le hS.1) (fun r35 x t H locs ht hvm hw hB9 _ _ hS => ?_)
        have hP := mB.at ht hB9
        clear hB9 ht hvm
        obtain ⟨st36, sl37⟩ := x
        obtain ⟨hG2, hF2, hw⟩ := hw
        dsimp only at hG2 hF2 hw
        have hP : va_P (dC, dI) vwCl (mw ar cy st36 sl37) _ := hP
        have hG : MG [1, 2, 3, 6, 7, 8, 9, 10, 11, 12, 13, 14, 15, 20, 21, 22] st st36 := hG.tr hG2 (by decide)
        have hFst36 : FM 2 st22 sl23 st36 sl37 := hF2
        have hF : FM 4 st sl st36 sl37 := hF.tr hFst36 (by omega) (by omega)
        clear hG2 hF2
        have hR : RT c nm st36 sl37 := hR.fr hFst36 (by omega)
        rcases hw with ⟨rfl, hf38, hf39, hf40, hf41, hT, hf42⟩ | ⟨n43, n44, rfl, hf45, hf46, hf47, hf48⟩
        · have hp9 := hT.2.2.2.2.2.2
          have hk1 := tkd_lt (B := B) (g := g) (m := m) (p := (tkx B g m (tkx B g m (tkx B g m (tkx B g m p)))))
          have hk2 := tkx_le (B := B) (g := g) (m := m) (p := (tkx B g m (tkx B g m (tkx B g m (tkx B g m p))))) hp9
          have hk3 := tka_le (B := B) (g := g) (m := m) (p := (tkx B g m (tkx B g m (tkx B g m (tkx B g m p))))) hp9 hB.2.2.1
          have hk4 := tkv_lt (p := (tkx B g m (tkx B g m (tkx B g m (tkx B g m p))))) hB hp9
          have hk5 := tkw_lt (B := B) (g := g) (m := m) (p := (tkx B g m (tkx B g m (tkx B g m (tkx B g m p)))))
          refine lv_if_ne (tgt := 60) hx hb dX12_readFree_55 (by decide) (fun _ => ?_) (fun cc => absurd cc (by decide))
          refine lv_aload_n hx hb dX12_readFree_60 rfl (lv_at hl 2 rfl) ?_
          refine va_get (D := (dC, dI)) (ci := 11) (v := .ref (ar 3)) (C := RX12) (T := TX12) (N := 47) hx hb hts ii_X12_readFree hown hK hP 0 rfl rfl 15 (by decide) (hts _ mm_X12_readFree_1) (fun _ hh => hh) rfl dX12_readFree_61 ?_
          refine lv_iconst (v := 4) hx hb dX12_readFree_64 (by decide) ?_
          refine lv_iload_n hx hb dX12_readFree_65 rfl (lv_at hl 1 rfl) ?_
          refine lv_iadd hx hb dX12_readFree_66 ?_
          refine zz_top (v := nI (4 + n11)) (nI_add 4 n11) ?_
          refine lv_dup2_11 hx hb dX12_readFree_67 rfl rfl ?_
          refine va_iald hx hb hK hP 3 2 rfl rfl (i := (nI (4 + n11))) (vp_in_nI (by omega) (by decide)) dX12_readFree_68 ?_
          obtain ⟨n49, hn49, en49⟩ := hG.1.at (r := 3) (k := (4 + n11)) (mr_3_4_9 (4 + n11) (by omega) (by omega)) (by decide)
          refine zz_top (v := nI n49) (by rw [nI_clamp (by omega)]; exact en49) ?_
          refine lv_iload_n hx hb dX12_readFree_69 rfl (lv_at hl 0 rfl) ?_
          refine lv_aload_n hx hb dX12_readFree_70 rfl (lv_at hl 2 rfl) ?_
          refine va_get (D := (dC, dI)) (ci := 11) (v := .int (st36 0 13)) (C := RX12) (T := TX12) (N := 47) hx hb hts ii_X12_readFree hown hK hP 0 rfl rfl 13 (by decide) (hts _ mm_X12_readFree_2) (fun _ hh => hh) rfl dX12_readFree_71 ?_
          refine zz_top (v := (nI (tkv B g (tkx B g m (tkx B g m (tkx B g m p)))))) (by show st36 0 13 = _; rw [hf41]) ?_
          refine va_calli (va_runS (As := [.int (nI (tkv B g (tkx B g m (tkx B g m p)))), .int (nI (tkv B g (tkx B g m (tkx B g m (tkx B g m p)))))]) (rest := [.int (nI n49), .int (nI (4 + n11)), .ref (ar 3)]) ⟨hx, hb, hml, hown, hts⟩ (m_hoursInN l dC dI ar cy _ hN st36 sl37 (tkv B g (tkx B g m (tkx B g m p))) (tkv B g (tkx B g m (tkx B g m (tkx B g m p)))) (by omega) (by omega) hG.1 (by omega)) (va_cwS 2 hts gX12_readFree_X12_hoursIn rfl rfl rfl (by decide +kernel) ⟨Nat.le_of_ble_eq_true rfl, Nat.le_of_ble_eq_true rfl⟩) ⟨fun a U g mk q => ⟨q.1, mPre.blind q.2⟩, fun U hU hW => ⟨rfl, mPre.of hP hK hU hW⟩⟩ rfl rfl hl.1 rfl (lv_room (Nat.le_of_ble_eq_true rfl)) dX12_readFree_74 ⟨Nat.le_of_ble_eq_true rfl, Nat.le_of_ble_eq_true rfl⟩) hS (fun q _ h => MA.le hS.1 q h) (MA.le hS.1) (fun r50 x t H locs ht hvm hw hB9 _ _ hS => ?_)
          have hP := mB.at ht hB9
          clear hB9 ht hvm
          obtain ⟨rfl, hw⟩ := hw
          have hP : va_P (dC, dI) vwCl (mw ar cy st36 sl37) _ := hP
          obtain ⟨n51, rfl, hf52⟩ := hw
          refine lv_ior hx hb dX12_readFree_77 ?_
          have ho53 : (n49 ||| n51) < 2 ^ 31 := Nat.or_lt_two_pow (by omega) (by omega)
          refine zz_top (v := nI (n49 ||| n51)) (nI_orN n49 n51) ?_
          refine va_iast hx hb hK hP (mD hN _ _ _ _) hS 3 2 rfl rfl (i := (nI (4 + n11))) (vp_in_nI (by omega) (by decide)) dX12_readFree_78 (fun H locs hP _ hS => ?_)
          rw [nI_clamp (by omega)] at hP
          have hP : va_P (dC, dI) vwCl (mw ar cy (up2 st36 3 (4 + n11) (nI (n49 ||| n51))) sl37) H := hP
          obtain ⟨st54, est54⟩ : ∃ y, y = up2 st36 3 (4 + n11) (nI (n49 ||| n51)) := ⟨_, rfl⟩
          have hG : MG [1, 2, 3, 6, 7, 8, 9, 10, 11, 12, 13, 14, 15, 20, 21, 22] st st54 := by rw [est54]; exact hG.up (rn (n := (n49 ||| n51)) (mr_3_4_9 (4 + n11) (by omega) (by omega)) (by omega)) (pn (pcl_3_4_9 (4 + n11) (by omega) (by omega)) (by decide))
          rw [← est54] at hP
          have hF : FM 4 st sl st54 sl37 := by rw [est54]; exact hF.up (dm_read _)
          have hT : TM B g m (tkx B g m (tkx B g m (tkx B g m (tkx B g m p)))) st54 sl37 := by rw [est54]; exact hT.up (by omega)
          have hR : RT c nm st54 sl37 := by rw [est54]; exact hR.up3 (by omega)
          refine lv_aload_n hx hb dX12_readFree_79 rfl (lv_at hl 2 rfl) ?_
          refine va_get (D := (dC, dI)) (ci := 11) (v := .ref (ar 3)) (C := RX12) (T := TX12) (N := 47) hx hb hts ii_X12_readFree hown hK hP 0 rfl rfl 15 (by decide) (hts _ mm_X12_readFree_1) (fun _ hh => hh) rfl dX12_readFree_80 ?_
          refine lv_iconst (v := 3) hx hb dX12_readFree_83 (by decide) ?_
          refine lv_dup2_11 hx hb dX12_readFree_84 rfl rfl ?_
          refine va_iald hx hb hK hP 3 2 rfl rfl (i := 3) (zz_in (by decide)) dX12_readFree_85 ?_
          refine zz_top (v := (nI (c 3))) (by show st54 3 3 = _; rw [hR.2.2.2.1]) ?_
          refine lv_iconst (v := 1) hx hb dX12_readFree_86 (by decide) ?_
          refine lv_iadd hx hb dX12_readFree_87 ?_
          refine zz_top (v := nI ((c 3) + 1)) (nI_add (c 3) 1) ?_
          refine va_iast hx hb hK hP (mD hN _ _ _ _) hS 3 2 rfl rfl (i := 3) (zz_in (by decide)) dX12_readFree_88 (fun H locs hP _ hS => ?_)
          have hP : va_P (dC, dI) vwCl (mw ar cy (up2 st54 3 3 (nI ((c 3) + 1))) sl37) H := hP
          obtain ⟨st55, est55⟩ : ∃ y, y = up2 st54 3 3 (nI ((c 3) + 1)) := ⟨_, rfl⟩
          have hG : MG [1, 2, 3, 6, 7, 8, 9, 10, 11, 12, 13, 14, 15, 20, 21, 22] st st55 := by rw [est55]; exact hG.up (rz (by decide : mr 3 3 = 0)) (pn (by decide : pcl 3 3 = 19) (by decide))
          rw [← est55] at hP
          have hF : FM 4 st sl st55 sl37 := by rw [est55]; exact hF.up (by decide)
          have hT : TM B g m (tkx B g m (tkx B g m (tkx B g m (tkx B g m p)))) st55 sl37 := by rw [est55]; exact hT.up (by omega)
          have hR : RT (uN c 3 (c 3 + 1)) nm st55 sl37 := by rw [est55]; exact hR.inc3 (by omega)
          refine lv_iconst (v := 1) hx hb dX12_readFree_89 (by decide) ?_
          exact W.zret (v := 1) hx hb hr rfl (fun t ht hW => ⟨⟨1, (st55, sl37), rfl, ⟨hG, hF, Or.inl (⟨(uN c 3 (c 3 + 1)), nm, (tkx B g m (tkx B g m (tkx B g m (tkx B g m p)))), rfl, hR, hT, uN_sum (a := 3) (by decide) rfl, by unfold lFree; rw [if_neg hf4, hf14, hf28, hf42]⟩)⟩, mB.of ht hP⟩, hS.F ht⟩) hS.2.2 dX12_readFree_90
        · refine lv_if_ne (tgt := 60) hx hb dX12_readFree_55 (by decide) (fun cc => absurd (by decide) cc) (fun _ => ?_)
          refine lv_iconst (v := 0) hx hb dX12_readFree_58 (by decide) ?_
          exact W.zret (v := 0) hx hb hr rfl (fun t ht hW => ⟨⟨0, (st36, sl37), rfl, ⟨hG, hF, Or.inr (⟨n43, n44, rfl, by show st36 0 10 = _; rw [hf45], by show st36 0 11 = _; rw [hf46], by omega, by unfold lFree; rw [if_neg hf4, hf14, hf28, hf48]⟩)⟩, mB.of ht hP⟩, hS.F ht⟩) hS.2.2 dX12_readFree_59
      · refine lv_if_ne (tgt := 43) hx hb dX12_readFree_38 (by decide) (fun cc => absurd (by decide) cc) (fun _ => ?_)
        refine lv_iconst (v := 0) hx hb dX12_readFree_41 (by decide) ?_
        exact W.zret (v := 0) hx hb hr rfl (fun t ht hW => ⟨⟨0, (st22, sl23), rfl, ⟨hG, hF, Or.inr (⟨n29, n30, rfl, by show st22 0 10 = _; rw [hf31], by show st22 0 11 = _; rw [hf32], by omega, by unfold lFree; rw [if_neg hf4, hf14, hf34]⟩)⟩, mB.of ht hP⟩, hS.F ht⟩) hS.2.2 dX12_readFree_42
    · refine lv_if_ne (tgt := 26) hx hb dX12_readFree_21 (by decide) (fun cc => absurd (by decide) cc) (fun _ => ?_)
      refine lv_iconst (v := 0) hx hb dX12_readFree_24 (by decide) ?_
      exact W.zret (v := 0) hx hb hr rfl (fun t ht hW => ⟨⟨0, (st9, sl10), rfl, ⟨hG, hF, Or.inr (⟨n15, n16, rfl, by show st9 0 10 = _; rw [hf17], by show st9 0 11 = _; rw [hf18], by omega, by unfold lFree; rw [if_neg hf4, hf20]⟩)⟩, mB.of ht hP⟩, hS.F ht⟩) hS.2.2 dX12_readFree_25
  · refine lv_if_eq (tgt := 24) hx hb dX12_readFree_7 (by decide) (fun _ => ?_) (fun cc => absurd (by decide) cc)
    refine lv_iconst (v := 0) hx hb dX12_readFree_24 (by decide) ?_
    exact W.zret (v := 0) hx hb hr rfl (fun t ht hW => ⟨⟨0, (st2, sl3), rfl, ⟨hG, hF, Or.inr (⟨4, (tka B g m p), rfl, by show st2 0 10 = _; rw [hf6], by show st2 0 11 = _; rw [hf7], by omega, by unfold lFree; rw [if_pos hf5]⟩)⟩, mB.of ht hP⟩, hS.F ht⟩) hS.2.2 dX12_readFree_25
set_option maxHeartbeats 4000000 in
set_option maxRecDepth 100000 in
theorem f_readLine (l : Launch) (dC : Nat → ClassId) (dI : Nat → Nat → Nat) (ar : Nat → Nat) (cy : Nat → ClassId) (sz : Nat) (hN : MN ar) (st : Nat → Nat → Int32) (sl : Nat → Nat → Int64) (B : Nat → Nat) (g m : Nat) (p : Nat) (c : Nat → Nat) (nm : Nat → Nat → Nat) (hI : MI st) (hB : MBt B g m st) (hT : TM B g m p st sl) (hR : RT c nm st sl) : Met l yX12_readLine wsX12_readLine ({ frames := 5, cells := 0, slots := 0, locals := 113 }) (va_Pc [.ref (ar 0)] (mPre dC dI ar cy sz st sl)) (va_Qi (fun (r : Int32) (x : MT) => MG [1, 2, 3, 6, 7, 8, 9, 10, 11, 12, 13, 14, 15, 20, 21, 22] st x.1 ∧ FM 4 st sl x.1 x.2 ∧ ((∃ c1 : Nat → Nat, ∃ n1 : Nat → Nat → Nat, ∃ q : Nat, r = 1 ∧ RT c1 n1 x.1 x.2 ∧ TM B g m q x.1 x.2 ∧ c1 0 + c1 1 + c1 2 + c1 3 + c1 4 = c 0 + c 1 + c 2 + c 3 + c 4 + 1 ∧ lAny B g m p c nm = eEnd B g m q (fun p2 => (0, p2, c1, n1))) ∨ (∃ f : Nat, ∃ a : Nat, r = 0 ∧ x.1 0 10 = nI f ∧ x.1 0 11 = nI a ∧ 1 ≤ f ∧ lAny B g m p c nm = fl f a))) (mB dC dI ar cy) (MA ar sz)) 0 0 (MA ar sz) := by
  refine Met.ofW (cc := cX12_readLine) (maxL := 1) (ret := (some .boolean)) (by decide) rfl ?_
  intro p9 e s m9 args below meth c9 s₁ B9 hml hv
  obtain ⟨rfl, hsz, hP, hK⟩ := hv
  have hx := B9.exec
  have hb := B9.bytes
  have hr := B9.returns
  have hts := atoms_spec (ws := wsX12_readLine) B9.pre
  have hown : s.vm.findClass RX12 = some m9.cls := findClass_of_methodNamed B9.named
  subst hsz
  have hS : va_S (MA ar s.heap.size) s.heap s.heap [] := va_S.rf
  have hG : MG [1, 2, 3, 6, 7, 8, 9, 10, 11, 12, 13, 14, 15, 20, 21, 22] st st := MG.rf hI
  have hl := lv_entry ([.ref (ar 0)]) (n := 1) (Nat.le_of_ble_eq_true rfl)
  rw [lg_entry_eq]
  generalize (lg_sl ([.ref (ar 0)]) ++ List.replicate (1 - (lg_sl ([.ref (ar 0)])).length) Slot.unset).toArray = ls at hl ⊢
  have hl : lv_has ls 1 [(0, .ref (ar 0))] := hl
  clear hI
  have hB1 := hB.2.2.1
  have hB2 := hB.2.2.2.1
  have hF : FM 4 st sl st sl := FM.rf
  have hp9 := hT.2.2.2.2.2.2
  have hk1 := tkd_lt (B := B) (g := g) (m := m) (p := p)
  have hk2 := tkx_le (B := B) (g := g) (m := m) (p := p) hp9
  have hk3 := tka_le (B := B) (g := g) (m := m) (p := p) hp9 hB.2.2.1
  have hk4 := tkv_lt (p := p) hB hp9
  have hk5 := tkw_lt (B := B) (g := g) (m := m) (p := p)
  have hR9 := hR.2.2.2.2.2.1
  refine lv_aload_n hx hb dX12_readLine_0 rfl (lv_at hl 0 rfl) ?_
  refine lv_iconst (v := 0) hx hb dX12_readLine_1 (by decide) ?_
  refine va_calli (va_runV (As := [.int 0]) (rest := []) ⟨hx, hb, hml, hown, hts⟩ (f_isWord0 l dC dI ar cy _ hN st sl B g m p hG.1 (MBt.fr hB hF) hT) (cwV 1 hts gX12_readLine_X12_isWord rfl rfl rfl (by decide +kernel) ⟨Nat.le_of_ble_eq_true rfl, Nat.le_of_ble_eq_true rfl⟩) ⟨fun a U g mk q => ⟨q.1, mPre.blind q.2⟩, va_recv hK hP (ci := 11) (q0 := 0) rfl rfl, fun U hU hW => ⟨rfl, mPre.of hP hK hU hW⟩⟩ rfl rfl hl.1 rfl (lv_room (Nat.le_of_ble_eq_true rfl)) dX12_readLine_2 ⟨Nat.le_of_ble_eq_true rfl, Nat.le_of_ble_eq_true rfl⟩) hS (fun q _ h => MA.le hS.1 q h) (MA.le hS.1) (fun r1 x t H locs ht hvm hw hB9 _ _ hS => ?_)
  have hP := mB.at ht hB9
  clear hB9 ht hvm
  obtain ⟨rfl, hw⟩ := hw
  have hP : va_P (dC, dI) vwCl (mw ar cy st sl) _ := hP
  rcases hw with ⟨rfl, hf2⟩ | ⟨rfl, hf3⟩
  · refine lv_if_eq (tgt := 13) hx hb dX12_readLine_5 (by decide) (fun cc => absurd cc (by decide)) (fun _ => ?_)
    refine lv_aload_n hx hb dX12_readLine_8 rfl (lv_at hl 0 rfl) ?_
    refine va_calli (va_runV (As := []) (rest := []) ⟨hx, hb, hml, hown, hts⟩ (f_readPlace l dC dI ar cy _ hN st sl B g m p c nm hG.1 (MBt.fr hB hF) hT hR (by omega)) (cwV 0 hts gX12_readLine_X12_readPlace rfl rfl rfl (by decide +kernel) ⟨Nat.le_of_ble_eq_true rfl, Nat.le_of_ble_eq_true rfl⟩) ⟨fun a U g mk q => ⟨q.1, mPre.blind q.2⟩, va_recv hK hP (ci := 11) (q0 := 0) rfl rfl, fun U hU hW => ⟨rfl, mPre.of hP hK hU hW⟩⟩ rfl rfl hl.1 rfl (lv_room (Nat.le_of_ble_eq_true rfl)) dX12_readLine_9 ⟨Nat.le_of_ble_eq_true rfl, Nat.le_of_ble_eq_true rfl⟩) hS (fun q _ h => MA.le hS.1 q h) (MA.le hS.1) (fun r4 x t H locs ht hvm hw hB9 _ _ hS => ?_)
    have hP := mB.at ht hB9
    clear hB9 ht hvm
    obtain ⟨st5, sl6⟩ := x
    obtain ⟨hG2, hF2, hw⟩ := hw
    dsimp only at hG2 hF2 hw
    have hP : va_P (dC, dI) vwCl (mw ar cy st5 sl6) _ := hP
    have hG : MG [1, 2, 3, 6, 7, 8, 9, 10, 11, 12, 13, 14, 15, 20, 21, 22] st st5 := hG.tr hG2 (by decide)
    have hFst5 : FM 4 st sl st5 sl6 := hF2
    have hF : FM 4 st sl st5 sl6 := hF.tr hFst5 (by omega) (by omega)
    clear hG2 hF2
    rcases hw with ⟨n7, n8, n9, rfl, hR, hT, hf10, hf11⟩ | ⟨n12, n13, rfl, hf14, hf15, hf16, hf17⟩
    · have hp9 := hT.2.2.2.2.2.2
      have hk1 := tkd_lt (B := B) (g := g) (m := m) (p := n9)
      have hk2 := tkx_le (B := B) (g := g) (m := m) (p := n9) hp9
      have hk3 := tka_le (B := B) (g := g) (m := m) (p := n9) hp9 hB.2.2.1
      have hk4 := tkv_lt (p := n9) hB hp9
      have hk5 := tkw_lt (B := B) (g := g) (m := m) (p := n9)
      exact W.zret (v := 1) hx hb hr rfl (fun t ht hW => ⟨⟨1, (st5, sl6), rfl, ⟨hG, hF, Or.inl (⟨n7, n8, n9, rfl, hR, hT, hf10, by unfold lAny; rw [if_pos hf2, hf11]⟩)⟩, mB.of ht hP⟩, hS.F ht⟩) hS.2.2 dX12_readLine_12
    · exact W.zret (v := 0) hx hb hr rfl (fun t ht hW => ⟨⟨0, (st5, sl6), rfl, ⟨hG, hF, Or.inr (⟨n12, n13, rfl, by show st5 0 10 = _; rw [hf14], by show st5 0 11 = _; rw [hf15], by omega, by unfold lAny; rw [if_pos hf2, hf17]⟩)⟩, mB.of ht hP⟩, hS.F ht⟩) hS.2.2 dX12_readLine_12
  · refine lv_if_eq (tgt := 13) hx hb dX12_readLine_5 (by decide) (fun _ => ?_) (fun cc => absurd (by decide) cc)
    refine lv_aload_n hx hb dX12_readLine_13 rfl (lv_at hl 0 rfl) ?_
    refine lv_iconst (v := 2) hx hb dX12_readLine_14 (by decide) ?_
    refine va_calli (va_runV (As := [.int 2]) (rest := []) ⟨hx, hb, hml, hown, hts⟩ (f_isWord2 l dC dI ar cy _ hN st sl B g m p hG.1 (MBt.fr hB hF) hT) (cwV 1 hts gX12_readLine_X12_isWord rfl rfl rfl (by decide +kernel) ⟨Nat.le_of_ble_eq_true rfl, Nat.le_of_ble_eq_true rfl⟩) ⟨fun a U g mk q => ⟨q.1, mPre.blind q.2⟩, va_recv hK hP (ci := 11) (q0 := 0) rfl rfl, fun U hU hW => ⟨rfl, mPre.of hP hK hU hW⟩⟩ rfl rfl hl.1 rfl (lv_room (Nat.le_of_ble_eq_true rfl)) dX12_readLine_15 ⟨Nat.le_of_ble_eq_true rfl, Nat.le_of_ble_eq_true rfl⟩) hS (fun q _ h => MA.le hS.1 q h) (MA.le hS.1) (fun r18 x t H locs ht hvm hw hB9 _ _ hS => ?_)
    have hP := mB.at ht hB9
    clear hB9 ht hvm
    obtain ⟨rfl, hw⟩ := hw
    have hP : va_P (dC, dI) vwCl (mw ar cy st sl) _ := hP
    rcases hw with ⟨rfl, hf19⟩ | ⟨rfl, hf20⟩
    · refine lv_if_eq (tgt := 26) hx hb dX12_readLine_18 (by decide) (fun cc => absurd cc (by decide)) (fun _ => ?_)
      refine lv_aload_n hx hb dX12_readLine_21 rfl (lv_at hl 0 rfl) ?_
      refine va_calli (va_runV (As := []) (rest := []) ⟨hx, hb, hml, hown, hts⟩ (f_readPerson l dC dI ar cy _ hN st sl B g m p c nm hG.1 (MBt.fr hB hF) hT hR (by omega)) (cwV 0 hts gX12_readLine_X12_readPerson rfl rfl rfl (by decide +kernel) ⟨Nat.le_of_ble_eq_true rfl, Nat.le_of_ble_eq_true rfl⟩) ⟨fun a U g mk q => ⟨q.1, mPre.blind q.2⟩, va_recv hK hP (ci := 11) (q0 := 0) rfl rfl, fun U hU hW => ⟨rfl, mPre.of hP hK hU hW⟩⟩ rfl rfl hl.1 rfl (lv_room (Nat.le_of_ble_eq_true rfl)) dX12_readLine_22 ⟨Nat.le_of_ble_eq_true rfl, Nat.le_of_ble_eq_true rfl⟩) hS (fun q _ h => MA.le hS.1 q h) (MA.le hS.1) (fun r21 x t H locs ht hvm hw hB9 _ _ hS => ?_)
      have hP := mB.at ht hB9
      clear hB9 ht hvm
      obtain ⟨st22, sl23⟩ := x
      obtain ⟨hG2, hF2, hw⟩ := hw
      dsimp only at hG2 hF2 hw
      have hP : va_P (dC, dI) vwCl (mw ar cy st22 sl23) _ := hP
      have hG : MG [1, 2, 3, 6, 7, 8, 9, 10, 11, 12, 13, 14, 15, 20, 21, 22] st st22 := hG.tr hG2 (by decide)
      have hFst22 : FM 4 st sl st22 sl23 := hF2
      have hF : FM 4 st sl st22 sl23 := hF.tr hFst22 (by omega) (by omega)
      clear hG2 hF2
      rcases hw with ⟨n24, n25, n26, rfl, hR, hT, hf27, hf28⟩ | ⟨n29, n30, rfl, hf31, hf32, hf33, hf34⟩
      · have hp9 := hT.2.2.2.2.2.2
        have hk1 := tkd_lt (B := B) (g := g) (m := m) (p := n26)
        have hk2 := tkx_le (B := B) (g := g) (m := m) (p := n26) hp9
        have hk3 := tka_le (B := B) (g := g) (m := m) (p := n26) hp9 hB.2.2.1
        have hk4 := tkv_lt (p := n26) hB hp9
        have hk5 := tkw_lt (B := B) (g := g) (m := m) (p := n26)
        exact W.zret (v := 1) hx hb hr rfl (fun t ht hW => ⟨⟨1, (st22, sl23), rfl, ⟨hG, hF, Or.inl (⟨n24, n25, n26, rfl, hR, hT, hf27, by unfold lAny; rw [if_neg hf3, if_pos hf19, hf28]⟩)⟩, mB.of ht hP⟩, hS.F ht⟩) hS.2.2 dX12_readLine_25
      · exact W.zret (v := 0) hx hb hr rfl (fun t ht hW => ⟨⟨0, (st22, sl23), rfl, ⟨hG, hF, Or.inr (⟨n29, n30, rfl, by show st22 0 10 = _; rw [hf31], by show st22 0 11 = _; rw [hf32], by omega, by unfold lAny; rw [if_neg hf3, if_pos hf19, hf34]⟩)⟩, mB.of ht hP⟩, hS.F ht⟩) hS.2.2 dX12_readLine_25
    · refine lv_if_eq (tgt := 26) hx hb dX12_readLine_18 (by decide) (fun _ => ?_) (fun cc => absurd (by decide) cc)
      refine lv_aload_n hx hb dX12_readLine_26 rfl (lv_at hl 0 rfl) ?_
      refine lv_iconst (v := 3) hx hb dX12_readLine_27 (by decide) ?_
      refine va_calli (va_runV (As := [.int 3]) (rest := []) ⟨hx, hb, hml, hown, hts⟩ (f_isWord3 l dC dI ar cy _ hN st sl B g m p hG.1 (MBt.fr hB hF) hT) (cwV 1 hts gX12_readLine_X12_isWord rfl rfl rfl (by decide +kernel) ⟨Nat.le_of_ble_eq_true rfl, Nat.le_of_ble_eq_true rfl⟩) ⟨fun a U g mk q => ⟨q.1, mPre.blind q.2⟩, va_recv hK hP (ci := 11) (q0 := 0) rfl rfl, fun U hU hW => ⟨rfl, mPre.of hP hK hU hW⟩⟩ rfl rfl hl.1 rfl (lv_room (Nat.le_of_ble_eq_true rfl)) dX12_readLine_28 ⟨Nat.le_of_ble_eq_true rfl, Nat.le_of_ble_eq_true rfl⟩) hS (fun q _ h => MA.le hS.1 q h) (MA.le hS.1) (fun r35 x t H locs ht hvm hw hB9 _ _ hS => ?_)
      have hP := mB.at ht hB9
      clear hB9 ht hvm
      obtain ⟨rfl, hw⟩ := hw
      have hP : va_P (dC, dI) vwCl (mw ar cy st sl) _ := hP
      rcases hw with ⟨rfl, hf36⟩ | ⟨rfl, hf37⟩
      · refine lv_if_eq (tgt := 39) hx hb dX12_readLine_31 (by decide) (fun cc => absurd cc (by decide)) (fun _ => ?_)
        refine lv_aload_n hx hb dX12_readLine_34 rfl (lv_at hl 0 rfl) ?_
        refine va_calli (va_runV (As := []) (rest := []) ⟨hx, hb, hml, hown, hts⟩ (f_readDog l dC dI ar cy _ hN st sl B g m p c nm hG.1 (MBt.fr hB hF) hT hR (by omega)) (cwV 0 hts gX12_readLine_X12_readDog rfl rfl rfl (by decide +kernel) ⟨Nat.le_of_ble_eq_true rfl, Nat.le_of_ble_eq_true rfl⟩) ⟨fun a U g mk q => ⟨q.1, mPre.blind q.2⟩, va_recv hK hP (ci := 11) (q0 := 0) rfl rfl, fun U hU hW => ⟨rfl, mPre.of hP hK hU hW⟩⟩ rfl rfl hl.1 rfl (lv_room (Nat.le_of_ble_eq_true rfl)) dX12_readLine_35 ⟨Nat.le_of_ble_eq_true rfl, Nat.le_of_ble_eq_true rfl⟩) hS (fun q _ h => MA.le hS.1 q h) (MA.le hS.1) (fun r38 x t H locs ht hvm hw hB9 _ _ hS => ?_)
        have hP := mB.at ht hB9
        clear hB9 ht hvm
        obtain ⟨st39, sl40⟩ := x
        obtain ⟨hG2, hF2, hw⟩ := hw
        dsimp only at hG2 hF2 hw
        have hP : va_P (dC, dI) vwCl (mw ar cy st39 sl40) _ := hP
        have hG : MG [1, 2, 3, 6, 7, 8, 9, 10, 11, 12, 13, 14, 15, 20, 21, 22] st st39 := hG.tr hG2 (by decide)
        have hFst39 : FM 4 st sl st39 sl40 := hF2
        have hF : FM 4 st sl st39 sl40 := hF.tr hFst39 (by omega) (by omega)
        clear hG2 hF2
        rcases hw with ⟨n41, n42, n43, rfl, hR, hT, hf44, hf45⟩ | ⟨n46, n47, rfl, hf48, hf49, hf50, hf51⟩
        · have hp9 := hT.2.2.2.2.2.2
          have hk1 := tkd_lt (B := B) (g := g) (m := m) (p := n43)
          have hk2 := tkx_le (B := B) (g := g) (m := m) (p := n43) hp9
          have hk3 := tka_le (B := B) (g := g) (m := m) (p := n43) hp9 hB.2.2.1
          have hk4 := tkv_lt (p := n43) hB hp9
          have hk5 := tkw_lt (B := B) (g := g) (m := m) (p := n43)
          exact W.zret (v := 1) hx hb hr rfl (fun t ht hW => ⟨⟨1, (st39, sl40), rfl, ⟨hG, hF, Or.inl (⟨n41, n42, n43, rfl, hR, hT, hf44, by unfold lAny; rw [if_neg hf3, if_neg hf20, if_pos hf36, hf45]⟩)⟩, mB.of ht hP⟩, hS.F ht⟩) hS.2.2 dX12_readLine_38
        · exact W.zret (v := 0) hx hb hr rfl (fun t ht hW => ⟨⟨0, (st39, sl40), rfl, ⟨hG, hF, Or.inr (⟨n46, n47, rfl, by show st39 0 10 = _; rw [hf48], by show st39 0 11 = _; rw [hf49], by omega, by unfold lAny; rw [if_neg hf3, if_neg hf20, if_pos hf36, hf51]⟩)⟩, mB.of ht hP⟩, hS.F ht⟩) hS.2.2 dX12_readLine_38
      · refine lv_if_eq (tgt := 39) hx hb dX12_readLine_31 (by decide) (fun _ => ?_) (fun cc => absurd (by decide) cc)
        refine lv_aload_n hx hb dX12_readLine_39 rfl (lv_at hl 0 rfl) ?_
        refine lv_iconst (v := 4) hx hb dX12_readLine_40 (by decide) ?_
        refine va_calli (va_runV (As := [.int 4]) (rest := []) ⟨hx, hb, hml, hown, hts⟩ (f_isWord4 l dC dI ar cy _ hN st sl B g m p hG.1 (MBt.fr hB hF) hT) (cwV 1 hts gX12_readLine_X12_isWord rfl rfl rfl (by decide +kernel) ⟨Nat.le_of_ble_eq_true rfl, Nat.le_of_ble_eq_true rfl⟩) ⟨fun a U g mk q => ⟨q.1, mPre.blind q.2⟩, va_recv hK hP (ci := 11) (q0 := 0) rfl rfl, fun U hU hW => ⟨rfl, mPre.of hP hK hU hW⟩⟩ rfl rfl hl.1 rfl (lv_room (Nat.le_of_ble_eq_true rfl)) dX12_readLine_41 ⟨Nat.le_of_ble_eq_true rfl, Nat.le_of_ble_eq_true rfl⟩) hS (fun q _ h => MA.le hS.1 q h) (MA.le hS.1) (fun r52 x t H locs ht hvm hw hB9 _ _ hS => ?_)
        have hP := mB.at ht hB9
        clear hB9 ht hvm
        obtain ⟨rfl, hw⟩ := hw
        have hP : va_P (dC, dI) vwCl (mw ar cy st sl) _ := hP
        rcases hw with ⟨rfl, hf53⟩ | ⟨rfl, hf54⟩
        · refine lv_if_eq (tgt := 52) hx hb dX12_readLine_44 (by decide) (fun cc => absurd cc (by decide)) (fun _ => ?_)
          refine lv_aload_n hx hb dX12_readLine_47 rfl (lv_at hl 0 rfl) ?_
          refine va_calli (va_runV (As := []) (rest := []) ⟨hx, hb, hml, hown, hts⟩ (f_readFree l dC dI ar cy _ hN st sl B g m p c nm hG.1 (MBt.fr hB hF) hT hR (by omega)) (cwV 0 hts gX12_readLine_X12_readFree rfl rfl rfl (by decide +kernel) ⟨Nat.le_of_ble_eq_true rfl, Nat.le_of_ble_eq_true rfl⟩) ⟨fun a U g mk q => ⟨q.1, mPre.blind q.2⟩, va_recv hK hP (ci := 11) (q0 := 0) rfl rfl, fun U hU hW => ⟨rfl, mPre.of hP hK hU hW⟩⟩ rfl rfl hl.1 rfl (lv_room (Nat.le_of_ble_eq_true rfl)) dX12_readLine_48 ⟨Nat.le_of_ble_eq_true rfl, Nat.le_of_ble_eq_true rfl⟩) hS (fun q _ h => MA.le hS.1 q h) (MA.le hS.1) (fun r55 x t H locs ht hvm hw hB9 _ _ hS => ?_)
          have hP := mB.at ht hB9
          clear hB9 ht hvm
          obtain ⟨st56, sl57⟩ := x
          obtain ⟨hG2, hF2, hw⟩ := hw
          dsimp only at hG2 hF2 hw
          have hP : va_P (dC, dI) vwCl (mw ar cy st56 sl57) _ := hP
          have hG : MG [1, 2, 3, 6, 7, 8, 9, 10, 11, 12, 13, 14, 15, 20, 21, 22] st st56 := hG.tr hG2 (by decide)
          have hFst56 : FM 4 st sl st56 sl57 := hF2
          have hF : FM 4 st sl st56 sl57 := hF.tr hFst56 (by omega) (by omega)
          clear hG2 hF2
          rcases hw with ⟨n58, n59, n60, rfl, hR, hT, hf61, hf62⟩ | ⟨n63, n64, rfl, hf65, hf66, hf67, hf68⟩
          · have hp9 := hT.2.2.2.2.2.2
            have hk1 := tkd_lt (B := B) (g := g) (m := m) (p := n60)
            have hk2 := tkx_le (B := B) (g := g) (m := m) (p := n60) hp9
            have hk3 := tka_le (B := B) (g := g) (m := m) (p := n60) hp9 hB.2.2.1
            have hk4 := tkv_lt (p := n60) hB hp9
            have hk5 := tkw_lt (B := B) (g := g) (m := m) (p := n60)
            exact W.zret (v := 1) hx hb hr rfl (fun t ht hW => ⟨⟨1, (st56, sl57), rfl, ⟨hG, hF, Or.inl (⟨n58, n59, n60, rfl, hR, hT, hf61, by unfold lAny; rw [if_neg hf3, if_neg hf20, if_neg hf37, if_pos hf53, hf62]⟩)⟩, mB.of ht hP⟩, hS.F ht⟩) hS.2.2 dX12_readLine_51
          · exact W.zret (v := 0) hx hb hr rfl (fun t ht hW => ⟨⟨0, (st56, sl57), rfl, ⟨hG, hF, Or.inr (⟨n63, n64, rfl, by show st56 0 10 = _; rw [hf65], by show st56 0 11 = _; rw [hf66], by omega, by unfold lAny; rw [if_neg hf3, if_neg hf20, if_neg hf37, if_pos hf53, hf68]⟩)⟩, mB.of ht hP⟩, hS.F ht⟩) hS.2.2 dX12_readLine_51
        · refine lv_if_eq (tgt := 52) hx hb dX12_readLine_44 (by decide) (fun _ => ?_) (fun cc => absurd (by decide) cc)
          refine lv_aload_n hx hb dX12_readLine_52 rfl (lv_at hl 0 rfl) ?_
          refine lv_iconst (v := 5) hx hb dX12_readLine_53 (by decide) ?_
          refine va_calli (va_runV (As := [.int 5]) (rest := []) ⟨hx, hb, hml, hown, hts⟩ (f_isWord5 l dC dI ar cy _ hN st sl B g m p hG.1 (MBt.fr hB hF) hT) (cwV 1 hts gX12_readLine_X12_isWord rfl rfl rfl (by decide +kernel) ⟨Nat.le_of_ble_eq_true rfl, Nat.le_of_ble_eq_true rfl⟩) ⟨fun a U g mk q => ⟨q.1, mPre.blind q.2⟩, va_recv hK hP (ci := 11) (q0 := 0) rfl rfl, fun U hU hW => ⟨rfl, mPre.of hP hK hU hW⟩⟩ rfl rfl hl.1 rfl (lv_room (Nat.le_of_ble_eq_true rfl)) dX12_readLine_54 ⟨Nat.le_of_ble_eq_true rfl, Nat.le_of_ble_eq_true rfl⟩) hS (fun q _ h => MA.le hS.1 q h) (MA.le hS.1) (fun r69 x t H locs ht hvm hw hB9 _ _ hS => ?_)
          have hP := mB.at ht hB9
          clear hB9 ht hvm
          obtain ⟨rfl, hw⟩ := hw
          have hP : va_P (dC, dI) vwCl (mw ar cy st sl) _ := hP
          rcases hw with ⟨rfl, hf70⟩ | ⟨rfl, hf71⟩
          · refine lv_if_ne (tgt := 66) hx hb dX12_readLine_57 (by decide) (fun _ => ?_) (fun cc => absurd cc (by decide))
            refine lv_aload_n hx hb dX12_readLine_66 rfl (lv_at hl 0 rfl) ?_
            refine va_get (D := (dC, dI)) (ci := 11) (v := .int (st 0 24)) (C := RX12) (T := TX12) (N := 47) hx hb hts ii_X12_readLine hown hK hP 0 rfl rfl 24 (by decide) (hts _ mm_X12_readLine_1) (fun _ hh => hh) rfl dX12_readLine_67 ?_
            refine zz_top (v := (nI (c 4))) (by show st 0 24 = _; rw [hR.2.2.2.2.1]) ?_
            refine lv_if_eq (tgt := 79) hx hb dX12_readLine_70 (by decide) (fun c10 => ?_) (fun c10 => ?_)
            · have c10 : (c 4) = 0 := (nI_eq (a := (c 4)) (b := 0) (by omega) (by omega)).mp c10
              refine lv_aload_n hx hb dX12_readLine_79 rfl (lv_at hl 0 rfl) ?_
              refine lv_iconst (v := 1) hx hb dX12_readLine_80 (by decide) ?_
              refine va_put (D := (dC, dI)) (ci := 11) (v := .int 1) (ty := .boolean) (C := RX12) (T := TX12) (N := 47) hx hb hts ii_X12_readLine tyX12 tyX12_ok nmX12 hown hK hP (mD hN _ _ _ _) hS 0 rfl rfl 24 (by decide) (hts _ mm_X12_readLine_1) (fun _ hh => hh) rfl (by decide +kernel) rfl rfl (Nat.le_of_ble_eq_true rfl) dX12_readLine_81 (fun H locs hP _ hS => ?_)
              have hP : va_P (dC, dI) vwCl (mw ar cy (up2 st 0 24 1) sl) H := hP
              obtain ⟨st72, est72⟩ : ∃ y, y = up2 st 0 24 1 := ⟨_, rfl⟩
              have hG : MG [1, 2, 3, 6, 7, 8, 9, 10, 11, 12, 13, 14, 15, 20, 21, 22] st st72 := by rw [est72]; exact hG.up (rz (by decide : mr 0 24 = 0)) (pn (by decide : pcl 0 24 = 0) (by decide))
              rw [← est72] at hP
              have hF : FM 4 st sl st72 sl := by rw [est72]; exact hF.up (by decide)
              have hT : TM B g m p st72 sl := by rw [est72]; exact hT.up (by omega)
              have hR : RT (uN c 4 1) nm st72 sl := by rw [est72]; exact hR.sgn
              refine lv_aload_n hx hb dX12_readLine_84 rfl (lv_at hl 0 rfl) ?_
              refine va_callv (va_runV (As := []) (rest := []) ⟨hx, hb, hml, hown, hts⟩ (f_go l dC dI ar cy _ hN st72 sl B g m (tkx B g m p) hG.1 (MBt.fr hB hF) hT.1 hk2.2) (cwV 0 hts gX12_readLine_X12_go rfl rfl rfl (by decide +kernel) ⟨Nat.le_of_ble_eq_true rfl, Nat.le_of_ble_eq_true rfl⟩) ⟨fun a U g mk q => ⟨q.1, mPre.blind q.2⟩, va_recv hK hP (ci := 11) (q0 := 0) rfl rfl, fun U hU hW => ⟨rfl, mPre.of hP hK hU hW⟩⟩ rfl rfl hl.1 rfl (lv_room (Nat.le_of_ble_eq_true rfl)) dX12_readLine_85 ⟨Nat.le_of_ble_eq_true rfl, Nat.le_of_ble_eq_true rfl⟩) hS (fun q _ h => MA.le hS.1 q h) (MA.le hS.1) (fun x t H locs ht hvm hw hB9 _ _ hS => ?_)
              have hP := mB.at ht hB9
              clear hB9 ht hvm
              obtain ⟨st74, sl75⟩ := x
              obtain ⟨hG2, hF2, hw⟩ := hw
              dsimp only at hG2 hF2 hw
              have hP : va_P (dC, dI) vwCl (mw ar cy st74 sl75) _ := hP
              have hG : MG [1, 2, 3, 6, 7, 8, 9, 10, 11, 12, 13, 14, 15, 20, 21, 22] st st74 := hG.tr hG2 (by decide)
              have hFst74 : FM 1 st72 sl st74 sl75 := hF2
              have hF : FM 4 st sl st74 sl75 := hF.tr hFst74 (by omega) (by omega)
              clear hG2 hF2
              have hR : RT (uN c 4 1) nm st74 sl75 := hR.fr hFst74 (by omega)
              have hT := hw
              have hp9 := hT.2.2.2.2.2.2
              have hk1 := tkd_lt (B := B) (g := g) (m := m) (p := (tkx B g m p))
              have hk2 := tkx_le (B := B) (g := g) (m := m) (p := (tkx B g m p)) hp9
              have hk3 := tka_le (B := B) (g := g) (m := m) (p := (tkx B g m p)) hp9 hB.2.2.1
              have hk4 := tkv_lt (p := (tkx B g m p)) hB hp9
              have hk5 := tkw_lt (B := B) (g := g) (m := m) (p := (tkx B g m p))
              refine lv_aload_n hx hb dX12_readLine_88 rfl (lv_at hl 0 rfl) ?_
              refine lv_bipush (v := 60) hx hb dX12_readLine_89 (by decide) ?_
              refine lv_aload_n hx hb dX12_readLine_91 rfl (lv_at hl 0 rfl) ?_
              refine lv_iconst (v := 0) hx hb dX12_readLine_92 (by decide) ?_
              refine lv_bipush (v := 12) hx hb dX12_readLine_93 (by decide) ?_
              refine va_calli (va_runV (As := [.int 0, .int 12]) (rest := [.int 60, .ref (ar 0)]) ⟨hx, hb, hml, hown, hts⟩ (f_readNumber l dC dI ar cy _ hN st74 sl75 0 12 B g m (tkx B g m p) (by omega) (by omega) hG.1 (MBt.fr hB hF) hT) (cwV 2 hts gX12_readLine_X12_readNumber rfl rfl rfl (by decide +kernel) ⟨Nat.le_of_ble_eq_true rfl, Nat.le_of_ble_eq_true rfl⟩) ⟨fun a U g mk q => ⟨q.1, mPre.blind q.2⟩, va_recv hK hP (ci := 11) (q0 := 0) rfl rfl, fun U hU hW => ⟨rfl, mPre.of hP hK hU hW⟩⟩ rfl rfl hl.1 rfl (lv_room (Nat.le_of_ble_eq_true rfl)) dX12_readLine_95 ⟨Nat.le_of_ble_eq_true rfl, Nat.le_of_ble_eq_true rfl⟩) hS (fun q _ h => MA.le hS.1 q h) (MA.le hS.1) (fun r76 x t H locs ht hvm hw hB9 _ _ hS => ?_)
              have hP := mB.at ht hB9
              clear hB9 ht hvm
              obtain ⟨st77, sl78⟩ := x
              obtain ⟨hG2, hF2, hw⟩ := hw
              dsimp only at hG2 hF2 hw
              have hP : va_P (dC, dI) vwCl (mw ar cy st77 sl78) _ := hP
              have hG : MG [1, 2, 3, 6, 7, 8, 9, 10, 11, 12, 13, 14, 15, 20, 21, 22] st st77 := hG.tr hG2 (by decide)
              have hFst77 : FM 2 st74 sl75 st77 sl78 := hF2
              have hF : FM 4 st sl st77 sl78 := hF.tr hFst77 (by omega) (by omega)
              clear hG2 hF2
              have hR : RT (uN c 4 1) nm st77 sl78 := hR.fr hFst77 (by omega)
              rcases hw with ⟨rfl, hf79, hf80, hf81, hf82, hT, hf83⟩ | ⟨n84, n85, rfl, hf86, hf87, hf88, hf89⟩
              · have hp9 := hT.2.2.2.2.2.2
                have hk1 := tkd_lt (B := B) (g := g) (m := m) (p := (tkx B g m (tkx B g m p)))
                have hk2 := tkx_le (B := B) (g := g) (m := m) (p := (tkx B g m (tkx B g m p))) hp9
                have hk3 := tka_le (B := B) (g := g) (m := m) (p := (tkx B g m (tkx B g m p))) hp9 hB.2.2.1
                have hk4 := tkv_lt (p := (tkx B g m (tkx B g m p))) hB hp9
                have hk5 := tkw_lt (B := B) (g := g) (m := m) (p := (tkx B g m (tkx B g m p)))
                refine va_calli (va_runV (As := [.int 60, .int 1]) (rest := []) ⟨hx, hb, hml, hown, hts⟩ (f_put60 l dC dI ar cy _ hN st77 sl78 60 B g m (tkx B g m (tkx B g m p)) (uN c 4 1) nm (tkv B g (tkx B g m p)) (by omega) (by omega) hG.1 (MBt.fr hB hF) hT hR (by rw [hf82]) (by omega)) (cwV 2 hts gX12_readLine_X12_put rfl rfl rfl (by decide +kernel) ⟨Nat.le_of_ble_eq_true rfl, Nat.le_of_ble_eq_true rfl⟩) ⟨fun a U g mk q => ⟨q.1, mPre.blind q.2⟩, va_recv hK hP (ci := 11) (q0 := 0) rfl rfl, fun U hU hW => ⟨rfl, mPre.of hP hK hU hW⟩⟩ rfl rfl hl.1 rfl (lv_room (Nat.le_of_ble_eq_true rfl)) dX12_readLine_98 ⟨Nat.le_of_ble_eq_true rfl, Nat.le_of_ble_eq_true rfl⟩) hS (fun q _ h => MA.le hS.1 q h) (MA.le hS.1) (fun r90 x t H locs ht hvm hw hB9 _ _ hS => ?_)
                have hP := mB.at ht hB9
                clear hB9 ht hvm
                obtain ⟨st91, sl92⟩ := x
                obtain ⟨hG2, hF2, hw⟩ := hw
                dsimp only at hG2 hF2 hw
                have hP : va_P (dC, dI) vwCl (mw ar cy st91 sl92) _ := hP
                have hG : MG [1, 2, 3, 6, 7, 8, 9, 10, 11, 12, 13, 14, 15, 20, 21, 22] st st91 := hG.tr hG2 (by decide)
                have hFst91 : FM 4 st77 sl78 st91 sl92 := hF2
                have hF : FM 4 st sl st91 sl92 := hF.tr hFst91 (by omega) (by omega)
                clear hG2 hF2
                obtain ⟨rfl, hf93, hf94, hR, hT⟩ := hw
                have hp9 := hT.2.2.2.2.2.2
                have hk1 := tkd_lt (B := B) (g := g) (m := m) (p := (tkx B g m (tkx B g m p)))
                have hk2 := tkx_le (B := B) (g := g) (m := m) (p := (tkx B g m (tkx B g m p))) hp9
                have hk3 := tka_le (B := B) (g := g) (m := m) (p := (tkx B g m (tkx B g m p))) hp9 hB.2.2.1
                have hk4 := tkv_lt (p := (tkx B g m (tkx B g m p))) hB hp9
                have hk5 := tkw_lt (B := B) (g := g) (m := m) (p := (tkx B g m (tkx B g m p)))
                exact W.zret (v := 1) hx hb hr rfl (fun t ht hW => ⟨⟨1, (st91, sl92), rfl, ⟨hG, hF, Or.inl (⟨(uN c 4 1), nm, (tkx B g m (tkx B g m p)), rfl, hR, hT, uN_sum (a := 4) (by decide) (by omega), by unfold lAny; rw [if_neg hf3, if_neg hf20, if_neg hf37, if_neg hf54, if_pos hf70]; unfold lSign; rw [if_neg (by omega), hf83]⟩)⟩, mB.of ht hP⟩, hS.F ht⟩) hS.2.2 dX12_readLine_101
              · refine va_calli (va_runV (As := [.int 60, .int 0]) (rest := []) ⟨hx, hb, hml, hown, hts⟩ (f_putF l dC dI ar cy _ hN st77 sl78 60 (by omega) hG.1 ) (cwV 2 hts gX12_readLine_X12_put rfl rfl rfl (by decide +kernel) ⟨Nat.le_of_ble_eq_true rfl, Nat.le_of_ble_eq_true rfl⟩) ⟨fun a U g mk q => ⟨q.1, mPre.blind q.2⟩, va_recv hK hP (ci := 11) (q0 := 0) rfl rfl, fun U hU hW => ⟨rfl, mPre.of hP hK hU hW⟩⟩ rfl rfl hl.1 rfl (lv_room (Nat.le_of_ble_eq_true rfl)) dX12_readLine_98 ⟨Nat.le_of_ble_eq_true rfl, Nat.le_of_ble_eq_true rfl⟩) hS (fun q _ h => MA.le hS.1 q h) (MA.le hS.1) (fun r95 x t H locs ht hvm hw hB9 _ _ hS => ?_)
                have hP := mB.at ht hB9
                clear hB9 ht hvm
                obtain ⟨rfl, hw⟩ := hw
                have hP : va_P (dC, dI) vwCl (mw ar cy st77 sl78) _ := hP
                obtain rfl := hw
                exact W.zret (v := 0) hx hb hr rfl (fun t ht hW => ⟨⟨0, (st77, sl78), rfl, ⟨hG, hF, Or.inr (⟨n84, n85, rfl, by show st77 0 10 = _; rw [hf86], by show st77 0 11 = _; rw [hf87], by omega, by unfold lAny; rw [if_neg hf3, if_neg hf20, if_neg hf37, if_neg hf54, if_pos hf70]; unfold lSign; rw [if_neg (by omega), hf89]⟩)⟩, mB.of ht hP⟩, hS.F ht⟩) hS.2.2 dX12_readLine_101
            · have c10 : ¬ (c 4) = 0 := fun hh => c10 ((nI_eq (a := (c 4)) (b := 0) (by omega) (by omega)).mpr hh)
              refine lv_aload_n hx hb dX12_readLine_73 rfl (lv_at hl 0 rfl) ?_
              refine lv_iconst (v := 3) hx hb dX12_readLine_74 (by decide) ?_
              refine va_calli (va_runV (As := [.int 3]) (rest := []) ⟨hx, hb, hml, hown, hts⟩ (f_bad l dC dI ar cy _ hN st sl 3 B g m p (by omega) hG.1 (MBt.fr hB hF) hT) (cwV 1 hts gX12_readLine_X12_bad rfl rfl rfl (by decide +kernel) ⟨Nat.le_of_ble_eq_true rfl, Nat.le_of_ble_eq_true rfl⟩) ⟨fun a U g mk q => ⟨q.1, mPre.blind q.2⟩, va_recv hK hP (ci := 11) (q0 := 0) rfl rfl, fun U hU hW => ⟨rfl, mPre.of hP hK hU hW⟩⟩ rfl rfl hl.1 rfl (lv_room (Nat.le_of_ble_eq_true rfl)) dX12_readLine_75 ⟨Nat.le_of_ble_eq_true rfl, Nat.le_of_ble_eq_true rfl⟩) hS (fun q _ h => MA.le hS.1 q h) (MA.le hS.1) (fun r96 x t H locs ht hvm hw hB9 _ _ hS => ?_)
              have hP := mB.at ht hB9
              clear hB9 ht hvm
              obtain ⟨st97, sl98⟩ := x
              obtain ⟨hG2, hF2, hw⟩ := hw
              dsimp only at hG2 hF2 hw
              have hP : va_P (dC, dI) vwCl (mw ar cy st97 sl98) _ := hP
              have hG : MG [1, 2, 3, 6, 7, 8, 9, 10, 11, 12, 13, 14, 15, 20, 21, 22] st st97 := hG.tr hG2 (by decide)
              have hFst97 : FM 2 st sl st97 sl98 := hF2
              have hF : FM 4 st sl st97 sl98 := hF.tr hFst97 (by omega) (by omega)
              clear hG2 hF2
              have hR : RT c nm st97 sl98 := hR.fr hFst97 (by omega)
              obtain ⟨rfl, hf99, hf100, hT⟩ := hw
              have hp9 := hT.2.2.2.2.2.2
              have hk1 := tkd_lt (B := B) (g := g) (m := m) (p := p)
              have hk2 := tkx_le (B := B) (g := g) (m := m) (p := p) hp9
              have hk3 := tka_le (B := B) (g := g) (m := m) (p := p) hp9 hB.2.2.1
              have hk4 := tkv_lt (p := p) hB hp9
              have hk5 := tkw_lt (B := B) (g := g) (m := m) (p := p)
              exact W.zret (v := 0) hx hb hr rfl (fun t ht hW => ⟨⟨0, (st97, sl98), rfl, ⟨hG, hF, Or.inr (⟨3, (tka B g m p), rfl, by show st97 0 10 = _; rw [hf99, bdk_n (by have h9 := @tkw_d B g m p; omega)], by show st97 0 11 = _; rw [hf100], by omega, by unfold lAny; rw [if_neg hf3, if_neg hf20, if_neg hf37, if_neg hf54, if_pos hf70]; unfold lSign; rw [if_pos (by omega)]⟩)⟩, mB.of ht hP⟩, hS.F ht⟩) hS.2.2 dX12_readLine_78
          · refine lv_if_ne (tgt := 66) hx hb dX12_readLine_57 (by decide) (fun cc => absurd (by decide) cc) (fun _ => ?_)
            refine lv_aload_n hx hb dX12_readLine_60 rfl (lv_at hl 0 rfl) ?_
            refine lv_iconst (v := 1) hx hb dX12_readLine_61 (by decide) ?_
            refine va_calli (va_runV (As := [.int 1]) (rest := []) ⟨hx, hb, hml, hown, hts⟩ (f_bad l dC dI ar cy _ hN st sl 1 B g m p (by omega) hG.1 (MBt.fr hB hF) hT) (cwV 1 hts gX12_readLine_X12_bad rfl rfl rfl (by decide +kernel) ⟨Nat.le_of_ble_eq_true rfl, Nat.le_of_ble_eq_true rfl⟩) ⟨fun a U g mk q => ⟨q.1, mPre.blind q.2⟩, va_recv hK hP (ci := 11) (q0 := 0) rfl rfl, fun U hU hW => ⟨rfl, mPre.of hP hK hU hW⟩⟩ rfl rfl hl.1 rfl (lv_room (Nat.le_of_ble_eq_true rfl)) dX12_readLine_62 ⟨Nat.le_of_ble_eq_true rfl, Nat.le_of_ble_eq_true rfl⟩) hS (fun q _ h => MA.le hS.1 q h) (MA.le hS.1) (fun r101 x t H locs ht hvm hw hB9 _ _ hS => ?_)
            have hP := mB.at ht hB9
            clear hB9 ht hvm
            obtain ⟨st102, sl103⟩ := x
            obtain ⟨hG2, hF2, hw⟩ := hw
            dsimp only at hG2 hF2 hw
            have hP : va_P (dC, dI) vwCl (mw ar cy st102 sl103) _ := hP
            have hG : MG [1, 2, 3, 6, 7, 8, 9, 10, 11, 12, 13, 14, 15, 20, 21, 22] st st102 := hG.tr hG2 (by decide)
            have hFst102 : FM 2 st sl st102 sl103 := hF2
            have hF : FM 4 st sl st102 sl103 := hF.tr hFst102 (by omega) (by omega)
            clear hG2 hF2
            have hR : RT c nm st102 sl103 := hR.fr hFst102 (by omega)
            obtain ⟨rfl, hf104, hf105, hT⟩ := hw
            have hp9 := hT.2.2.2.2.2.2
            have hk1 := tkd_lt (B := B) (g := g) (m := m) (p := p)
            have hk2 := tkx_le (B := B) (g := g) (m := m) (p := p) hp9
            have hk3 := tka_le (B := B) (g := g) (m := m) (p := p) hp9 hB.2.2.1
            have hk4 := tkv_lt (p := p) hB hp9
            have hk5 := tkw_lt (B := B) (g := g) (m := m) (p := p)
            exact W.zret (v := 0) hx hb hr rfl (fun t ht hW => ⟨⟨0, (st102, sl103), rfl, ⟨hG, hF, Or.inr (⟨1, (tka B g m p), rfl, by show st102 0 10 = _; rw [hf104, bdk_1], by show st102 0 11 = _; rw [hf105], by omega, by unfold lAny; rw [if_neg hf3, if_neg hf20, if_neg hf37, if_neg hf54, if_neg hf71]⟩)⟩, mB.of ht hP⟩, hS.F ht⟩) hS.2.2 dX12_readLine_65
set_option maxHeartbeats 4000000 in
set_option maxRecDepth 100000 in
theorem f_take (l : Launch) (dC : Nat → ClassId) (dI : Nat → Nat → Nat) (ar : Nat → Nat) (cy : Nat → ClassId) (sz : Nat) (hN : MN ar) (st : Nat → Nat → Int32) (sl : Nat → Nat → Int64) (gt : Nat) (hI : MI st) (hgt : st 0 2 = nI gt) (hgt2 : gt < 941) : Met l yX12_take wsX12_take ({ frames := 0, cells := 0, slots := 0, locals := 0 }) (va_Pc [.ref (ar 0)] (mPre dC dI ar cy sz st sl)) (va_Qi (fun (r : Int32) (x : MT) => MG [2, 3, 4, 5, 6, 7, 8, 9, 10, 11, 12, 13, 14, 15, 16, 17, 19, 20, 21, 22] st x.1 ∧ (∃ n : Nat, r = nI n ∧ n = gt ∧ x.1 = up2 st 0 2 0 ∧ x.2 = sl)) (mB dC dI ar cy) (MA ar sz)) 0 0 (MA ar sz) := by
  refine Met.ofW (cc := cX12_take) (maxL := 2) (ret := (some .int)) (by decide) rfl ?_
  intro p9 e s m9 args below meth c9 s₁ B9 hml hv
  obtain ⟨rfl, hsz, hP, hK⟩ := hv
  have hx := B9.exec
  have hb := B9.bytes
  have hr := B9.returns
  have hts := atoms_spec (ws := wsX12_take) B9.pre
  have hown : s.vm.findClass RX12 = some m9.cls := findClass_of_methodNamed B9.named
  subst hsz
  have hS : va_S (MA ar s.heap.size) s.heap s.heap [] := va_S.rf
  have hG : MG [2, 3, 4, 5, 6, 7, 8, 9, 10, 11, 12, 13, 14, 15, 16, 17, 19, 20, 21, 22] st st := MG.rf hI
  have hl := lv_entry ([.ref (ar 0)]) (n := 2) (Nat.le_of_ble_eq_true rfl)
  rw [lg_entry_eq]
  generalize (lg_sl ([.ref (ar 0)]) ++ List.replicate (2 - (lg_sl ([.ref (ar 0)])).length) Slot.unset).toArray = ls at hl ⊢
  have hl : lv_has ls 2 [(0, .ref (ar 0))] := hl
  clear hI
  refine lv_aload_n hx hb dX12_take_0 rfl (lv_at hl 0 rfl) ?_
  refine va_get (D := (dC, dI)) (ci := 11) (v := .int (st 0 2)) (C := RX12) (T := TX12) (N := 47) hx hb hts ii_X12_take hown hK hP 0 rfl rfl 2 (by decide) (hts _ mm_X12_take_1) (fun _ hh => hh) rfl dX12_take_1 ?_
  refine zz_top (v := (nI gt)) (by show st 0 2 = _; rw [hgt]) ?_
  refine lv_istore_n (lv' := [(1, .int (nI gt)), (0, .ref (ar 0))]) hx hb dX12_take_4 rfl hl (by decide) rfl (fun ls hl => ?_)
  refine lv_aload_n hx hb dX12_take_5 rfl (lv_at hl 1 rfl) ?_
  refine lv_iconst (v := 0) hx hb dX12_take_6 (by decide) ?_
  refine va_put (D := (dC, dI)) (ci := 11) (v := .int 0) (ty := .int) (C := RX12) (T := TX12) (N := 47) hx hb hts ii_X12_take tyX12 tyX12_ok nmX12 hown hK hP (mD hN _ _ _ _) hS 0 rfl rfl 2 (by decide) (hts _ mm_X12_take_1) (fun _ hh => hh) rfl (by decide +kernel) rfl rfl (Nat.le_of_ble_eq_true rfl) dX12_take_7 (fun H locs hP _ hS => ?_)
  have hP : va_P (dC, dI) vwCl (mw ar cy (up2 st 0 2 0) sl) H := hP
  obtain ⟨st1, est1⟩ : ∃ y, y = up2 st 0 2 0 := ⟨_, rfl⟩
  have hG : MG [2, 3, 4, 5, 6, 7, 8, 9, 10, 11, 12, 13, 14, 15, 16, 17, 19, 20, 21, 22] st st1 := by rw [est1]; exact hG.up (r0) (pn (by decide : pcl 0 2 = 1) (by decide))
  rw [← est1] at hP
  refine lv_iload_n hx hb dX12_take_10 rfl (lv_at hl 0 rfl) ?_
  exact W.iret (v := (nI gt)) hx hb hr (fun t ht hW => ⟨⟨(nI gt), (st1, sl), rfl, ⟨hG, ⟨gt, rfl, by omega, est1, rfl⟩⟩, mB.of ht hP⟩, hS.F ht⟩) hS.2.2 dX12_take_11
set_option maxHeartbeats 4000000 in
set_option maxRecDepth 100000 in
theorem f_begin (l : Launch) (dC : Nat → ClassId) (dI : Nat → Nat → Nat) (ar : Nat → Nat) (cy : Nat → ClassId) (sz : Nat) (hN : MN ar) (st : Nat → Nat → Int32) (sl : Nat → Nat → Int64) (B : Nat → Nat) (g : Nat) (hI : MI st) (ht : st 0 2 = nI g) (hg : g < 941) (hbt : ∀ j, j < g → st 1 j = nI (B j) ∧ B j < 256) : Met l yX12_begin wsX12_begin ({ frames := 2, cells := 0, slots := 0, locals := 45 }) (va_Pc [.ref (ar 0), .int 900] (mPre dC dI ar cy sz st sl)) (va_Qv (fun (x : MT) => MG [2, 6, 7, 8, 9, 10, 11, 12, 13, 14, 15, 20, 21, 22] st x.1 ∧ (MBt B g 900 x.1 ∧ TM B g 900 0 x.1 x.2 ∧ x.1 0 10 = 0 ∧ x.1 0 2 = 0 ∧ LQ [7, 9] sl x.2)) (mB dC dI ar cy) (MA ar sz)) 0 0 (MA ar sz) := by
  refine Met.ofW (cc := cX12_begin) (maxL := 2) (ret := none) (by decide) rfl ?_
  intro p9 e s m9 args below meth c9 s₁ B9 hml hv
  obtain ⟨rfl, hsz, hP, hK⟩ := hv
  have hx := B9.exec
  have hb := B9.bytes
  have hr := B9.returns
  have hts := atoms_spec (ws := wsX12_begin) B9.pre
  have hown : s.vm.findClass RX12 = some m9.cls := findClass_of_methodNamed B9.named
  subst hsz
  have hS : va_S (MA ar s.heap.size) s.heap s.heap [] := va_S.rf
  have hG : MG [2, 6, 7, 8, 9, 10, 11, 12, 13, 14, 15, 20, 21, 22] st st := MG.rf hI
  have hl := lv_entry ([.ref (ar 0), .int 900]) (n := 2) (Nat.le_of_ble_eq_true rfl)
  rw [lg_entry_eq]
  generalize (lg_sl ([.ref (ar 0), .int 900]) ++ List.replicate (2 - (lg_sl ([.ref (ar 0), .int 900])).length) Slot.unset).toArray = ls at hl ⊢
  have hl : lv_has ls 2 [(0, .ref (ar 0)), (1, .int 900)] := hl
  clear hI
  obtain ⟨m, hm⟩ : ∃ m : Nat, m = 900 := ⟨_, rfl⟩
  refine lv_aload_n hx hb dX12_begin_0 rfl (lv_at hl 0 rfl) ?_
  refine lv_iconst (v := 0) hx hb dX12_begin_1 (by decide) ?_
  refine va_put (D := (dC, dI)) (ci := 11) (v := .int 0) (ty := .int) (C := RX12) (T := TX12) (N := 47) hx hb hts ii_X12_begin tyX12 tyX12_ok nmX12 hown hK hP (mD hN _ _ _ _) hS 0 rfl rfl 0 (by decide) (hts _ mm_X12_begin_1) (fun _ hh => hh) rfl (by decide +kernel) rfl rfl (Nat.le_of_ble_eq_true rfl) dX12_begin_2 (fun H locs hP _ hS => ?_)
  have hP : va_P (dC, dI) vwCl (mw ar cy (up2 st 0 0 0) sl) H := hP
  obtain ⟨st1, est1⟩ : ∃ y, y = up2 st 0 0 0 := ⟨_, rfl⟩
  have hG : MG [2, 6, 7, 8, 9, 10, 11, 12, 13, 14, 15, 20, 21, 22] st st1 := by rw [est1]; exact hG.up (rz (by decide : mr 0 0 = 0)) (pn (by decide : pcl 0 0 = 0) (by decide))
  rw [← est1] at hP
  refine lv_aload_n hx hb dX12_begin_5 rfl (lv_at hl 0 rfl) ?_
  refine lv_aload_n hx hb dX12_begin_6 rfl (lv_at hl 0 rfl) ?_
  refine va_calli (va_runV (As := []) (rest := [.ref (ar 0)]) ⟨hx, hb, hml, hown, hts⟩ (f_take l dC dI ar cy _ hN st1 sl g hG.1 (by show st1 0 2 = _; rw [est1, up2_ne (r := 0) (k := 0) (a := 0) (j := 2) _ _ (by omega), ht]) (hg)) (cwV 0 hts gX12_begin_X12_take rfl rfl rfl (by decide +kernel) ⟨Nat.le_of_ble_eq_true rfl, Nat.le_of_ble_eq_true rfl⟩) ⟨fun a U g mk q => ⟨q.1, mPre.blind q.2⟩, va_recv hK hP (ci := 11) (q0 := 0) rfl rfl, fun U hU hW => ⟨rfl, mPre.of hP hK hU hW⟩⟩ rfl rfl hl.1 rfl (lv_room (Nat.le_of_ble_eq_true rfl)) dX12_begin_7 ⟨Nat.le_of_ble_eq_true rfl, Nat.le_of_ble_eq_true rfl⟩) hS (fun q _ h => MA.le hS.1 q h) (MA.le hS.1) (fun r2 x t H locs ht hvm hw hB9 _ _ hS => ?_)
  have hP := mB.at ht hB9
  clear hB9 ht hvm
  obtain ⟨st3, sl4⟩ := x
  obtain ⟨hG2, hw⟩ := hw
  dsimp only at hG2 hw
  have hP : va_P (dC, dI) vwCl (mw ar cy st3 sl4) _ := hP
  have hG : MG [2, 6, 7, 8, 9, 10, 11, 12, 13, 14, 15, 20, 21, 22] st st3 := hG.tr hG2 (by decide)
  have hMst3 : MG [2, 3, 4, 5, 6, 7, 8, 9, 10, 11, 12, 13, 14, 15, 16, 17, 19, 20, 21, 22] st1 st3 := hG2
  clear hG2
  obtain ⟨n5, rfl, hf6, hf7, hf8⟩ := hw
  refine va_put (D := (dC, dI)) (ci := 11) (v := .int (nI n5)) (ty := .int) (C := RX12) (T := TX12) (N := 47) hx hb hts ii_X12_begin tyX12 tyX12_ok nmX12 hown hK hP (mD hN _ _ _ _) hS 0 rfl rfl 3 (by decide) (hts _ mm_X12_begin_2) (fun _ hh => hh) rfl (by decide +kernel) rfl rfl (Nat.le_of_ble_eq_true rfl) dX12_begin_10 (fun H locs hP _ hS => ?_)
  have hP : va_P (dC, dI) vwCl (mw ar cy (up2 st3 0 3 (nI n5)) sl4) H := hP
  obtain ⟨st9, est9⟩ : ∃ y, y = up2 st3 0 3 (nI n5) := ⟨_, rfl⟩
  have hG : MG [2, 6, 7, 8, 9, 10, 11, 12, 13, 14, 15, 20, 21, 22] st st9 := by rw [est9]; exact hG.up (rn (n := n5) (by decide : mr 0 3 = 941) (by omega)) (pn (by decide : pcl 0 3 = 3) (by decide))
  rw [← est9] at hP
  refine lv_aload_n hx hb dX12_begin_13 rfl (lv_at hl 0 rfl) ?_
  refine lv_iload_n hx hb dX12_begin_14 rfl (lv_at hl 1 rfl) ?_
  refine va_put (D := (dC, dI)) (ci := 11) (v := .int 900) (ty := .int) (C := RX12) (T := TX12) (N := 47) hx hb hts ii_X12_begin tyX12 tyX12_ok nmX12 hown hK hP (mD hN _ _ _ _) hS 0 rfl rfl 4 (by decide) (hts _ mm_X12_begin_3) (fun _ hh => hh) rfl (by decide +kernel) rfl rfl (Nat.le_of_ble_eq_true rfl) dX12_begin_15 (fun H locs hP _ hS => ?_)
  have hP : va_P (dC, dI) vwCl (mw ar cy (up2 st9 0 4 900) sl4) H := hP
  obtain ⟨st10, est10⟩ : ∃ y, y = up2 st9 0 4 900 := ⟨_, rfl⟩
  have hG : MG [2, 6, 7, 8, 9, 10, 11, 12, 13, 14, 15, 20, 21, 22] st st10 := by rw [est10]; exact hG.up (rz (by decide : mr 0 4 = 0)) (pn (by decide : pcl 0 4 = 0) (by decide))
  rw [← est10] at hP
  refine lv_aload_n hx hb dX12_begin_18 rfl (lv_at hl 0 rfl) ?_
  refine lv_iconst (v := 0) hx hb dX12_begin_19 (by decide) ?_
  refine va_put (D := (dC, dI)) (ci := 11) (v := .int 0) (ty := .int) (C := RX12) (T := TX12) (N := 47) hx hb hts ii_X12_begin tyX12 tyX12_ok nmX12 hown hK hP (mD hN _ _ _ _) hS 0 rfl rfl 10 (by decide) (hts _ mm_X12_begin_4) (fun _ hh => hh) rfl (by decide +kernel) rfl rfl (Nat.le_of_ble_eq_true rfl) dX12_begin_20 (fun H locs hP _ hS => ?_)
  have hP : va_P (dC, dI) vwCl (mw ar cy (up2 st10 0 10 0) sl4) H := hP
  obtain ⟨st11, est11⟩ : ∃ y, y = up2 st10 0 10 0 := ⟨_, rfl⟩
  have hG : MG [2, 6, 7, 8, 9, 10, 11, 12, 13, 14, 15, 20, 21, 22] st st11 := by rw [est11]; exact hG.up (rz (by decide : mr 0 10 = 0)) (pn (by decide : pcl 0 10 = 0) (by decide))
  rw [← est11] at hP
  refine lv_aload_n hx hb dX12_begin_23 rfl (lv_at hl 0 rfl) ?_
  refine lv_iconst (v := 0) hx hb dX12_begin_24 (by decide) ?_
  refine va_put (D := (dC, dI)) (ci := 11) (v := .int 0) (ty := .int) (C := RX12) (T := TX12) (N := 47) hx hb hts ii_X12_begin tyX12 tyX12_ok nmX12 hown hK hP (mD hN _ _ _ _) hS 0 rfl rfl 5 (by decide) (hts _ mm_X12_begin_5) (fun _ hh => hh) rfl (by decide +kernel) rfl rfl (Nat.le_of_ble_eq_true rfl) dX12_begin_25 (fun H locs hP _ hS => ?_)
  have hP : va_P (dC, dI) vwCl (mw ar cy (up2 st11 0 5 0) sl4) H := hP
  obtain ⟨st12, est12⟩ : ∃ y, y = up2 st11 0 5 0 := ⟨_, rfl⟩
  have hG : MG [2, 6, 7, 8, 9, 10, 11, 12, 13, 14, 15, 20, 21, 22] st st12 := by rw [est12]; exact hG.up (r0) (pn (by decide : pcl 0 5 = 4) (by decide))
  rw [← est12] at hP
  have hB : MBt B g m st12 := ⟨by show st12 0 3 = _; rw [est12, up2_ne (r := 0) (k := 5) (a := 0) (j := 3) _ _ (by omega), est11, up2_ne (r := 0) (k := 10) (a := 0) (j := 3) _ _ (by omega), est10, up2_ne (r := 0) (k := 4) (a := 0) (j := 3) _ _ (by omega), est9, up2_same, hf6], by show st12 0 4 = _; rw [est12, up2_ne (r := 0) (k := 5) (a := 0) (j := 4) _ _ (by omega), est11, up2_ne (r := 0) (k := 10) (a := 0) (j := 4) _ _ (by omega), est10, up2_same, hm]; rfl, hg, by omega, fun j hj => ⟨by show st12 1 j = _; rw [est12, up2_ne (r := 0) (k := 5) (a := 1) (j := j) _ _ (by omega), est11, up2_ne (r := 0) (k := 10) (a := 1) (j := j) _ _ (by omega), est10, up2_ne (r := 0) (k := 4) (a := 1) (j := j) _ _ (by omega), est9, up2_ne (r := 0) (k := 3) (a := 1) (j := j) _ _ (by omega), hf7, up2_ne (r := 0) (k := 2) (a := 1) (j := j) _ _ (by omega), est1, up2_ne (r := 0) (k := 0) (a := 1) (j := j) _ _ (by omega)]; exact (hbt j hj).1, (hbt j hj).2⟩⟩
  refine lv_aload_n hx hb dX12_begin_28 rfl (lv_at hl 0 rfl) ?_
  refine va_callv (va_runV (As := []) (rest := []) ⟨hx, hb, hml, hown, hts⟩ (f_go l dC dI ar cy _ hN st12 sl4 B g m 0 hG.1 hB (by show st12 0 5 = _; rw [est12, up2_same]; rfl) (Nat.zero_le _)) (cwV 0 hts gX12_begin_X12_go rfl rfl rfl (by decide +kernel) ⟨Nat.le_of_ble_eq_true rfl, Nat.le_of_ble_eq_true rfl⟩) ⟨fun a U g mk q => ⟨q.1, mPre.blind q.2⟩, va_recv hK hP (ci := 11) (q0 := 0) rfl rfl, fun U hU hW => ⟨rfl, mPre.of hP hK hU hW⟩⟩ rfl rfl hl.1 rfl (lv_room (Nat.le_of_ble_eq_true rfl)) dX12_begin_29 ⟨Nat.le_of_ble_eq_true rfl, Nat.le_of_ble_eq_true rfl⟩) hS (fun q _ h => MA.le hS.1 q h) (MA.le hS.1) (fun x t H locs ht hvm hw hB9 _ _ hS => ?_)
  have hP := mB.at ht hB9
  clear hB9 ht hvm
  obtain ⟨st14, sl15⟩ := x
  obtain ⟨hG2, hF2, hw⟩ := hw
  dsimp only at hG2 hF2 hw
  have hP : va_P (dC, dI) vwCl (mw ar cy st14 sl15) _ := hP
  have hG : MG [2, 6, 7, 8, 9, 10, 11, 12, 13, 14, 15, 20, 21, 22] st st14 := hG.tr hG2 (by decide)
  have hFst14 : FM 1 st12 sl4 st14 sl15 := hF2
  clear hG2 hF2
  have hT := hw
  have hp9 := hT.2.2.2.2.2.2
  have hk1 := tkd_lt (B := B) (g := g) (m := m) (p := 0)
  have hk2 := tkx_le (B := B) (g := g) (m := m) (p := 0) hp9
  have hk3 := tka_le (B := B) (g := g) (m := m) (p := 0) hp9 hB.2.2.1
  have hk4 := tkv_lt (p := 0) hB hp9
  have hk5 := tkw_lt (B := B) (g := g) (m := m) (p := 0)
  have hB7 := MBt.fr hB hFst14
  have h10 : st14 0 10 = 0 := by rw [(hFst14 0 10 (by decide)).1, est12, up2_ne (r := 0) (k := 5) (a := 0) (j := 10) _ _ (by omega), est11, up2_same]
  have h2 : st14 0 2 = 0 := by rw [(hFst14 0 2 (by decide)).1, est12, up2_ne (r := 0) (k := 5) (a := 0) (j := 2) _ _ (by omega), est11, up2_ne (r := 0) (k := 10) (a := 0) (j := 2) _ _ (by omega), est10, up2_ne (r := 0) (k := 4) (a := 0) (j := 2) _ _ (by omega), est9, up2_ne (r := 0) (k := 3) (a := 0) (j := 2) _ _ (by omega), hf7, up2_same]
  have hlk9 : LQ [7, 9] sl sl15 := by have hq := FM.lk hFst14; rw [hf8] at hq; exact hq
  subst hm
  exact W.vret hx hb hr (fun t ht hW => ⟨⟨(st14, sl15), rfl, ⟨hG, ⟨hB7, hT, h10, h2, hlk9⟩⟩, mB.of ht hP⟩, hS.F ht⟩) hS.2.2 dX12_begin_32
set_option maxHeartbeats 4000000 in
set_option maxRecDepth 100000 in
theorem f_begin200 (l : Launch) (dC : Nat → ClassId) (dI : Nat → Nat → Nat) (ar : Nat → Nat) (cy : Nat → ClassId) (sz : Nat) (hN : MN ar) (st : Nat → Nat → Int32) (sl : Nat → Nat → Int64) (B : Nat → Nat) (g : Nat) (hI : MI st) (ht : st 0 2 = nI g) (hg : g < 941) (hbt : ∀ j, j < g → st 1 j = nI (B j) ∧ B j < 256) : Met l yX12_begin wsX12_begin ({ frames := 2, cells := 0, slots := 0, locals := 45 }) (va_Pc [.ref (ar 0), .int 200] (mPre dC dI ar cy sz st sl)) (va_Qv (fun (x : MT) => MG [2, 6, 7, 8, 9, 10, 11, 12, 13, 14, 15, 20, 21, 22] st x.1 ∧ (MBt B g 200 x.1 ∧ TM B g 200 0 x.1 x.2 ∧ x.1 0 10 = 0 ∧ x.1 0 2 = 0 ∧ LQ [7, 9] sl x.2)) (mB dC dI ar cy) (MA ar sz)) 0 0 (MA ar sz) := by
  refine Met.ofW (cc := cX12_begin) (maxL := 2) (ret := none) (by decide) rfl ?_
  intro p9 e s m9 args below meth c9 s₁ B9 hml hv
  obtain ⟨rfl, hsz, hP, hK⟩ := hv
  have hx := B9.exec
  have hb := B9.bytes
  have hr := B9.returns
  have hts := atoms_spec (ws := wsX12_begin) B9.pre
  have hown : s.vm.findClass RX12 = some m9.cls := findClass_of_methodNamed B9.named
  subst hsz
  have hS : va_S (MA ar s.heap.size) s.heap s.heap [] := va_S.rf
  have hG : MG [2, 6, 7, 8, 9, 10, 11, 12, 13, 14, 15, 20, 21, 22] st st := MG.rf hI
  have hl := lv_entry ([.ref (ar 0), .int 200]) (n := 2) (Nat.le_of_ble_eq_true rfl)
  rw [lg_entry_eq]
  generalize (lg_sl ([.ref (ar 0), .int 200]) ++ List.replicate (2 - (lg_sl ([.ref (ar 0), .int 200])).length) Slot.unset).toArray = ls at hl ⊢
  have hl : lv_has ls 2 [(0, .ref (ar 0)), (1, .int 200)] := hl
  clear hI
  obtain ⟨m, hm⟩ : ∃ m : Nat, m = 200 := ⟨_, rfl⟩
  refine lv_aload_n hx hb dX12_begin_0 rfl (lv_at hl 0 rfl) ?_
  refine lv_iconst (v := 0) hx hb dX12_begin_1 (by decide) ?_
  refine va_put (D := (dC, dI)) (ci := 11) (v := .int 0) (ty := .int) (C := RX12) (T := TX12) (N := 47) hx hb hts ii_X12_begin tyX12 tyX12_ok nmX12 hown hK hP (mD hN _ _ _ _) hS 0 rfl rfl 0 (by decide) (hts _ mm_X12_begin_1) (fun _ hh => hh) rfl (by decide +kernel) rfl rfl (Nat.le_of_ble_eq_true rfl) dX12_begin_2 (fun H locs hP _ hS => ?_)
  have hP : va_P (dC, dI) vwCl (mw ar cy (up2 st 0 0 0) sl) H := hP
  obtain ⟨st1, est1⟩ : ∃ y, y = up2 st 0 0 0 := ⟨_, rfl⟩
  have hG : MG [2, 6, 7, 8, 9, 10, 11, 12, 13, 14, 15, 20, 21, 22] st st1 := by rw [est1]; exact hG.up (rz (by decide : mr 0 0 = 0)) (pn (by decide : pcl 0 0 = 0) (by decide))
  rw [← est1] at hP
  refine lv_aload_n hx hb dX12_begin_5 rfl (lv_at hl 0 rfl) ?_
  refine lv_aload_n hx hb dX12_begin_6 rfl (lv_at hl 0 rfl) ?_
  refine va_calli (va_runV (As := []) (rest := [.ref (ar 0)]) ⟨hx, hb, hml, hown, hts⟩ (f_take l dC dI ar cy _ hN st1 sl g hG.1 (by show st1 0 2 = _; rw [est1, up2_ne (r := 0) (k := 0) (a := 0) (j := 2) _ _ (by omega), ht]) (hg)) (cwV 0 hts gX12_begin_X12_take rfl rfl rfl (by decide +kernel) ⟨Nat.le_of_ble_eq_true rfl, Nat.le_of_ble_eq_true rfl⟩) ⟨fun a U g mk q => ⟨q.1, mPre.blind q.2⟩, va_recv hK hP (ci := 11) (q0 := 0) rfl rfl, fun U hU hW => ⟨rfl, mPre.of hP hK hU hW⟩⟩ rfl rfl hl.1 rfl (lv_room (Nat.le_of_ble_eq_true rfl)) dX12_begin_7 ⟨Nat.le_of_ble_eq_true rfl, Nat.le_of_ble_eq_true rfl⟩) hS (fun q _ h => MA.le hS.1 q h) (MA.le hS.1) (fun r2 x t H locs ht hvm hw hB9 _ _ hS => ?_)
  have hP := mB.at ht hB9
  clear hB9 ht hvm
  obtain ⟨st3, sl4⟩ := x
  obtain ⟨hG2, hw⟩ := hw
  dsimp only at hG2 hw
  have hP : va_P (dC, dI) vwCl (mw ar cy st3 sl4) _ := hP
  have hG : MG [2, 6, 7, 8, 9, 10, 11, 12, 13, 14, 15, 20, 21, 22] st st3 := hG.tr hG2 (by decide)
  have hMst3 : MG [2, 3, 4, 5, 6, 7, 8, 9, 10, 11, 12, 13, 14, 15, 16, 17, 19, 20, 21, 22] st1 st3 := hG2
  clear hG2
  obtain ⟨n5, rfl, hf6, hf7, hf8⟩ := hw
  refine va_put (D := (dC, dI)) (ci := 11) (v := .int (nI n5)) (ty := .int) (C := RX12) (T := TX12) (N := 47) hx hb hts ii_X12_begin tyX12 tyX12_ok nmX12 hown hK hP (mD hN _ _ _ _) hS 0 rfl rfl 3 (by decide) (hts _ mm_X12_begin_2) (fun _ hh => hh) rfl (by decide +kernel) rfl rfl (Nat.le_of_ble_eq_true rfl) dX12_begin_10 (fun H locs hP _ hS => ?_)
  have hP : va_P (dC, dI) vwCl (mw ar cy (up2 st3 0 3 (nI n5)) sl4) H := hP
  obtain ⟨st9, est9⟩ : ∃ y, y = up2 st3 0 3 (nI n5) := ⟨_, rfl⟩
  have hG : MG [2, 6, 7, 8, 9, 10, 11, 12, 13, 14, 15, 20, 21, 22] st st9 := by rw [est9]; exact hG.up (rn (n := n5) (by decide : mr 0 3 = 941) (by omega)) (pn (by decide : pcl 0 3 = 3) (by decide))
  rw [← est9] at hP
  refine lv_aload_n hx hb dX12_begin_13 rfl (lv_at hl 0 rfl) ?_
  refine lv_iload_n hx hb dX12_begin_14 rfl (lv_at hl 1 rfl) ?_
  refine va_put (D := (dC, dI)) (ci := 11) (v := .int 200) (ty := .int) (C := RX12) (T := TX12) (N := 47) hx hb hts ii_X12_begin tyX12 tyX12_ok nmX12 hown hK hP (mD hN _ _ _ _) hS 0 rfl rfl 4 (by decide) (hts _ mm_X12_begin_3) (fun _ hh => hh) rfl (by decide +kernel) rfl rfl (Nat.le_of_ble_eq_true rfl) dX12_begin_15 (fun H locs hP _ hS => ?_)
  have hP : va_P (dC, dI) vwCl (mw ar cy (up2 st9 0 4 200) sl4) H := hP
  obtain ⟨st10, est10⟩ : ∃ y, y = up2 st9 0 4 200 := ⟨_, rfl⟩
  have hG : MG [2, 6, 7, 8, 9, 10, 11, 12, 13, 14, 15, 20, 21, 22] st st10 := by rw [est10]; exact hG.up (rz (by decide : mr 0 4 = 0)) (pn (by decide : pcl 0 4 = 0) (by decide))
  rw [← est10] at hP
  refine lv_aload_n hx hb dX12_begin_18 rfl (lv_at hl 0 rfl) ?_
  refine lv_iconst (v := 0) hx hb dX12_begin_19 (by decide) ?_
  refine va_put (D := (dC, dI)) (ci := 11) (v := .int 0) (ty := .int) (C := RX12) (T := TX12) (N := 47) hx hb hts ii_X12_begin tyX12 tyX12_ok nmX12 hown hK hP (mD hN _ _ _ _) hS 0 rfl rfl 10 (by decide) (hts _ mm_X12_begin_4) (fun _ hh => hh) rfl (by decide +kernel) rfl rfl (Nat.le_of_ble_eq_true rfl) dX12_begin_20 (fun H locs hP _ hS => ?_)
  have hP : va_P (dC, dI) vwCl (mw ar cy (up2 st10 0 10 0) sl4) H := hP
  obtain ⟨st11, est11⟩ : ∃ y, y = up2 st10 0 10 0 := ⟨_, rfl⟩
  have hG : MG [2, 6, 7, 8, 9, 10, 11, 12, 13, 14, 15, 20, 21, 22] st st11 := by rw [est11]; exact hG.up (rz (by decide : mr 0 10 = 0)) (pn (by decide : pcl 0 10 = 0) (by decide))
  rw [← est11] at hP
  refine lv_aload_n hx hb dX12_begin_23 rfl (lv_at hl 0 rfl) ?_
  refine lv_iconst (v := 0) hx hb dX12_begin_24 (by decide) ?_
  refine va_put (D := (dC, dI)) (ci := 11) (v := .int 0) (ty := .int) (C := RX12) (T := TX12) (N := 47) hx hb hts ii_X12_begin tyX12 tyX12_ok nmX12 hown hK hP (mD hN _ _ _ _) hS 0 rfl rfl 5 (by decide) (hts _ mm_X12_begin_5) (fun _ hh => hh) rfl (by decide +kernel) rfl rfl (Nat.le_of_ble_eq_true rfl) dX12_begin_25 (fun H locs hP _ hS => ?_)
  have hP : va_P (dC, dI) vwCl (mw ar cy (up2 st11 0 5 0) sl4) H := hP
  obtain ⟨st12, est12⟩ : ∃ y, y = up2 st11 0 5 0 := ⟨_, rfl⟩
  have hG : MG [2, 6, 7, 8, 9, 10, 11, 12, 13, 14, 15, 20, 21, 22] st st12 := by rw [est12]; exact hG.up (r0) (pn (by decide : pcl 0 5 = 4) (by decide))
  rw [← est12] at hP
  have hB : MBt B g m st12 := ⟨by show st12 0 3 = _; rw [est12, up2_ne (r := 0) (k := 5) (a := 0) (j := 3) _ _ (by omega), est11, up2_ne (r := 0) (k := 10) (a := 0) (j := 3) _ _ (by omega), est10, up2_ne (r := 0) (k := 4) (a := 0) (j := 3) _ _ (by omega), est9, up2_same, hf6], by show st12 0 4 = _; rw [est12, up2_ne (r := 0) (k := 5) (a := 0) (j := 4) _ _ (by omega), est11, up2_ne (r := 0) (k := 10) (a := 0) (j := 4) _ _ (by omega), est10, up2_same, hm]; rfl, hg, by omega, fun j hj => ⟨by show st12 1 j = _; rw [est12, up2_ne (r := 0) (k := 5) (a := 1) (j := j) _ _ (by omega), est11, up2_ne (r := 0) (k := 10) (a := 1) (j := j) _ _ (by omega), est10, up2_ne (r := 0) (k := 4) (a := 1) (j := j) _ _ (by omega), est9, up2_ne (r := 0) (k := 3) (a := 1) (j := j) _ _ (by omega), hf7, up2_ne (r := 0) (k := 2) (a := 1) (j := j) _ _ (by omega), est1, up2_ne (r := 0) (k := 0) (a := 1) (j := j) _ _ (by omega)]; exact (hbt j hj).1, (hbt j hj).2⟩⟩
  refine lv_aload_n hx hb dX12_begin_28 rfl (lv_at hl 0 rfl) ?_
  refine va_callv (va_runV (As := []) (rest := []) ⟨hx, hb, hml, hown, hts⟩ (f_go l dC dI ar cy _ hN st12 sl4 B g m 0 hG.1 hB (by show st12 0 5 = _; rw [est12, up2_same]; rfl) (Nat.zero_le _)) (cwV 0 hts gX12_begin_X12_go rfl rfl rfl (by decide +kernel) ⟨Nat.le_of_ble_eq_true rfl, Nat.le_of_ble_eq_true rfl⟩) ⟨fun a U g mk q => ⟨q.1, mPre.blind q.2⟩, va_recv hK hP (ci := 11) (q0 := 0) rfl rfl, fun U hU hW => ⟨rfl, mPre.of hP hK hU hW⟩⟩ rfl rfl hl.1 rfl (lv_room (Nat.le_of_ble_eq_true rfl)) dX12_begin_29 ⟨Nat.le_of_ble_eq_true rfl, Nat.le_of_ble_eq_true rfl⟩) hS (fun q _ h => MA.le hS.1 q h) (MA.le hS.1) (fun x t H locs ht hvm hw hB9 _ _ hS => ?_)
  have hP := mB.at ht hB9
  clear hB9 ht hvm
  obtain ⟨st14, sl15⟩ := x
  obtain ⟨hG2, hF2, hw⟩ := hw
  dsimp only at hG2 hF2 hw
  have hP : va_P (dC, dI) vwCl (mw ar cy st14 sl15) _ := hP
  have hG : MG [2, 6, 7, 8, 9, 10, 11, 12, 13, 14, 15, 20, 21, 22] st st14 := hG.tr hG2 (by decide)
  have hFst14 : FM 1 st12 sl4 st14 sl15 := hF2
  clear hG2 hF2
  have hT := hw
  have hp9 := hT.2.2.2.2.2.2
  have hk1 := tkd_lt (B := B) (g := g) (m := m) (p := 0)
  have hk2 := tkx_le (B := B) (g := g) (m := m) (p := 0) hp9
  have hk3 := tka_le (B := B) (g := g) (m := m) (p := 0) hp9 hB.2.2.1
  have hk4 := tkv_lt (p := 0) hB hp9
  have hk5 := tkw_lt (B := B) (g := g) (m := m) (p := 0)
  have hB7 := MBt.fr hB hFst14
  have h10 : st14 0 10 = 0 := by rw [(hFst14 0 10 (by decide)).1, est12, up2_ne (r := 0) (k := 5) (a := 0) (j := 10) _ _ (by omega), est11, up2_same]
  have h2 : st14 0 2 = 0 := by rw [(hFst14 0 2 (by decide)).1, est12, up2_ne (r := 0) (k := 5) (a := 0) (j := 2) _ _ (by omega), est11, up2_ne (r := 0) (k := 10) (a := 0) (j := 2) _ _ (by omega), est10, up2_ne (r := 0) (k := 4) (a := 0) (j := 2) _ _ (by omega), est9, up2_ne (r := 0) (k := 3) (a := 0) (j := 2) _ _ (by omega), hf7, up2_same]
  have hlk9 : LQ [7, 9] sl sl15 := by have hq := FM.lk hFst14; rw [hf8] at hq; exact hq
  subst hm
  exact W.vret hx hb hr (fun t ht hW => ⟨⟨(st14, sl15), rfl, ⟨hG, ⟨hB7, hT, h10, h2, hlk9⟩⟩, mB.of ht hP⟩, hS.F ht⟩) hS.2.2 dX12_begin_32
set_option maxHeartbeats 4000000 in
set_option maxRecDepth 100000 in
theorem f_begin400 (l : Launch) (dC : Nat → ClassId) (dI : Nat → Nat → Nat) (ar : Nat → Nat) (cy : Nat → ClassId) (sz : Nat) (hN : MN ar) (st : Nat → Nat → Int32) (sl : Nat → Nat → Int64) (B : Nat → Nat) (g : Nat) (hI : MI st) (ht : st 0 2 = nI g) (hg : g < 941) (hbt : ∀ j, j < g → st 1 j = nI (B j) ∧ B j < 256) : Met l yX12_begin wsX12_begin ({ frames := 2, cells := 0, slots := 0, locals := 45 }) (va_Pc [.ref (ar 0), .int 400] (mPre dC dI ar cy sz st sl)) (va_Qv (fun (x : MT) => MG [2, 6, 7, 8, 9, 10, 11, 12, 13, 14, 15, 20, 21, 22] st x.1 ∧ (MBt B g 400 x.1 ∧ TM B g 400 0 x.1 x.2 ∧ x.1 0 10 = 0 ∧ x.1 0 2 = 0 ∧ LQ [7, 9] sl x.2)) (mB dC dI ar cy) (MA ar sz)) 0 0 (MA ar sz) := by
  refine Met.ofW (cc := cX12_begin) (maxL := 2) (ret := none) (by decide) rfl ?_
  intro p9 e s m9 args below meth c9 s₁ B9 hml hv
  obtain ⟨rfl, hsz, hP, hK⟩ := hv
  have hx := B9.exec
  have hb := B9.bytes
  have hr := B9.returns
  have hts := atoms_spec (ws := wsX12_begin) B9.pre
  have hown : s.vm.findClass RX12 = some m9.cls := findClass_of_methodNamed B9.named
  subst hsz
  have hS : va_S (MA ar s.heap.size) s.heap s.heap [] := va_S.rf
  have hG : MG [2, 6, 7, 8, 9, 10, 11, 12, 13, 14, 15, 20, 21, 22] st st := MG.rf hI
  have hl := lv_entry ([.ref (ar 0), .int 400]) (n := 2) (Nat.le_of_ble_eq_true rfl)
  rw [lg_entry_eq]
  generalize (lg_sl ([.ref (ar 0), .int 400]) ++ List.replicate (2 - (lg_sl ([.ref (ar 0), .int 400])).length) Slot.unset).toArray = ls at hl ⊢
  have hl : lv_has ls 2 [(0, .ref (ar 0)), (1, .int 400)] := hl
  clear hI
  obtain ⟨m, hm⟩ : ∃ m : Nat, m = 400 := ⟨_, rfl⟩
  refine lv_aload_n hx hb dX12_begin_0 rfl (lv_at hl 0 rfl) ?_
  refine lv_iconst (v := 0) hx hb dX12_begin_1 (by decide) ?_
  refine va_put (D := (dC, dI)) (ci := 11) (v := .int 0) (ty := .int) (C := RX12) (T := TX12) (N := 47) hx hb hts ii_X12_begin tyX12 tyX12_ok nmX12 hown hK hP (mD hN _ _ _ _) hS 0 rfl rfl 0 (by decide) (hts _ mm_X12_begin_1) (fun _ hh => hh) rfl (by decide +kernel) rfl rfl (Nat.le_of_ble_eq_true rfl) dX12_begin_2 (fun H locs hP _ hS => ?_)
  have hP : va_P (dC, dI) vwCl (mw ar cy (up2 st 0 0 0) sl) H := hP
  obtain ⟨st1, est1⟩ : ∃ y, y = up2 st 0 0 0 := ⟨_, rfl⟩
  have hG : MG [2, 6, 7, 8, 9, 10, 11, 12, 13, 14, 15, 20, 21, 22] st st1 := by rw [est1]; exact hG.up (rz (by decide : mr 0 0 = 0)) (pn (by decide : pcl 0 0 = 0) (by decide))
  rw [← est1] at hP
  refine lv_aload_n hx hb dX12_begin_5 rfl (lv_at hl 0 rfl) ?_
  refine lv_aload_n hx hb dX12_begin_6 rfl (lv_at hl 0 rfl) ?_
  refine va_calli (va_runV (As := []) (rest := [.ref (ar 0)]) ⟨hx, hb, hml, hown, hts⟩ (f_take l dC dI ar cy _ hN st1 sl g hG.1 (by show st1 0 2 = _; rw [est1, up2_ne (r := 0) (k := 0) (a := 0) (j := 2) _ _ (by omega), ht]) (hg)) (cwV 0 hts gX12_begin_X12_take rfl rfl rfl (by decide +kernel) ⟨Nat.le_of_ble_eq_true rfl, Nat.le_of_ble_eq_true rfl⟩) ⟨fun a U g mk q => ⟨q.1, mPre.blind q.2⟩, va_recv hK hP (ci := 11) (q0 := 0) rfl rfl, fun U hU hW => ⟨rfl, mPre.of hP hK hU hW⟩⟩ rfl rfl hl.1 rfl (lv_room (Nat.le_of_ble_eq_true rfl)) dX12_begin_7 ⟨Nat.le_of_ble_eq_true rfl, Nat.le_of_ble_eq_true rfl⟩) hS (fun q _ h => MA.le hS.1 q h) (MA.le hS.1) (fun r2 x t H locs ht hvm hw hB9 _ _ hS => ?_)
  have hP := mB.at ht hB9
  clear hB9 ht hvm
  obtain ⟨st3, sl4⟩ := x
  obtain ⟨hG2, hw⟩ := hw
  dsimp only at hG2 hw
  have hP : va_P (dC, dI) vwCl (mw ar cy st3 sl4) _ := hP
  have hG : MG [2, 6, 7, 8, 9, 10, 11, 12, 13, 14, 15, 20, 21, 22] st st3 := hG.tr hG2 (by decide)
  have hMst3 : MG [2, 3, 4, 5, 6, 7, 8, 9, 10, 11, 12, 13, 14, 15, 16, 17, 19, 20, 21, 22] st1 st3 := hG2
  clear hG2
  obtain ⟨n5, rfl, hf6, hf7, hf8⟩ := hw
  refine va_put (D := (dC, dI)) (ci := 11) (v := .int (nI n5)) (ty := .int) (C := RX12) (T := TX12) (N := 47) hx hb hts ii_X12_begin tyX12 tyX12_ok nmX12 hown hK hP (mD hN _ _ _ _) hS 0 rfl rfl 3 (by decide) (hts _ mm_X12_begin_2) (fun _ hh => hh) rfl (by decide +kernel) rfl rfl (Nat.le_of_ble_eq_true rfl) dX12_begin_10 (fun H locs hP _ hS => ?_)
  have hP : va_P (dC, dI) vwCl (mw ar cy (up2 st3 0 3 (nI n5)) sl4) H := hP
  obtain ⟨st9, est9⟩ : ∃ y, y = up2 st3 0 3 (nI n5) := ⟨_, rfl⟩
  have hG : MG [2, 6, 7, 8, 9, 10, 11, 12, 13, 14, 15, 20, 21, 22] st st9 := by rw [est9]; exact hG.up (rn (n := n5) (by decide : mr 0 3 = 941) (by omega)) (pn (by decide : pcl 0 3 = 3) (by decide))
  rw [← est9] at hP
  refine lv_aload_n hx hb dX12_begin_13 rfl (lv_at hl 0 rfl) ?_
  refine lv_iload_n hx hb dX12_begin_14 rfl (lv_at hl 1 rfl) ?_
  refine va_put (D := (dC, dI)) (ci := 11) (v := .int 400) (ty := .int) (C := RX12) (T := TX12) (N := 47) hx hb hts ii_X12_begin tyX12 tyX12_ok nmX12 hown hK hP (mD hN _ _ _ _) hS 0 rfl rfl 4 (by decide) (hts _ mm_X12_begin_3) (fun _ hh => hh) rfl (by decide +kernel) rfl rfl (Nat.le_of_ble_eq_true rfl) dX12_begin_15 (fun H locs hP _ hS => ?_)
  have hP : va_P (dC, dI) vwCl (mw ar cy (up2 st9 0 4 400) sl4) H := hP
  obtain ⟨st10, est10⟩ : ∃ y, y = up2 st9 0 4 400 := ⟨_, rfl⟩
  have hG : MG [2, 6, 7, 8, 9, 10, 11, 12, 13, 14, 15, 20, 21, 22] st st10 := by rw [est10]; exact hG.up (rz (by decide : mr 0 4 = 0)) (pn (by decide : pcl 0 4 = 0) (by decide))
  rw [← est10] at hP
  refine lv_aload_n hx hb dX12_begin_18 rfl (lv_at hl 0 rfl) ?_
  refine lv_iconst (v := 0) hx hb dX12_begin_19 (by decide) ?_
  refine va_put (D := (dC, dI)) (ci := 11) (v := .int 0) (ty := .int) (C := RX12) (T := TX12) (N := 47) hx hb hts ii_X12_begin tyX12 tyX12_ok nmX12 hown hK hP (mD hN _ _ _ _) hS 0 rfl rfl 10 (by decide) (hts _ mm_X12_begin_4) (fun _ hh => hh) rfl (by decide +kernel) rfl rfl (Nat.le_of_ble_eq_true rfl) dX12_begin_20 (fun H locs hP _ hS => ?_)
  have hP : va_P (dC, dI) vwCl (mw ar cy (up2 st10 0 10 0) sl4) H := hP
  obtain ⟨st11, est11⟩ : ∃ y, y = up2 st10 0 10 0 := ⟨_, rfl⟩
  have hG : MG [2, 6, 7, 8, 9, 10, 11, 12, 13, 14, 15, 20, 21, 22] st st11 := by rw [est11]; exact hG.up (rz (by decide : mr 0 10 = 0)) (pn (by decide : pcl 0 10 = 0) (by decide))
  rw [← est11] at hP
  refine lv_aload_n hx hb dX12_begin_23 rfl (lv_at hl 0 rfl) ?_
  refine lv_iconst (v := 0) hx hb dX12_begin_24 (by decide) ?_
  refine va_put (D := (dC, dI)) (ci := 11) (v := .int 0) (ty := .int) (C := RX12) (T := TX12) (N := 47) hx hb hts ii_X12_begin tyX12 tyX12_ok nmX12 hown hK hP (mD hN _ _ _ _) hS 0 rfl rfl 5 (by decide) (hts _ mm_X12_begin_5) (fun _ hh => hh) rfl (by decide +kernel) rfl rfl (Nat.le_of_ble_eq_true rfl) dX12_begin_25 (fun H locs hP _ hS => ?_)
  have hP : va_P (dC, dI) vwCl (mw ar cy (up2 st11 0 5 0) sl4) H := hP
  obtain ⟨st12, est12⟩ : ∃ y, y = up2 st11 0 5 0 := ⟨_, rfl⟩
  have hG : MG [2, 6, 7, 8, 9, 10, 11, 12, 13, 14, 15, 20, 21, 22] st st12 := by rw [est12]; exact hG.up (r0) (pn (by decide : pcl 0 5 = 4) (by decide))
  rw [← est12] at hP
  have hB : MBt B g m st12 := ⟨by show st12 0 3 = _; rw [est12, up2_ne (r := 0) (k := 5) (a := 0) (j := 3) _ _ (by omega), est11, up2_ne (r := 0) (k := 10) (a := 0) (j := 3) _ _ (by omega), est10, up2_ne (r := 0) (k := 4) (a := 0) (j := 3) _ _ (by omega), est9, up2_same, hf6], by show st12 0 4 = _; rw [est12, up2_ne (r := 0) (k := 5) (a := 0) (j := 4) _ _ (by omega), est11, up2_ne (r := 0) (k := 10) (a := 0) (j := 4) _ _ (by omega), est10, up2_same, hm]; rfl, hg, by omega, fun j hj => ⟨by show st12 1 j = _; rw [est12, up2_ne (r := 0) (k := 5) (a := 1) (j := j) _ _ (by omega), est11, up2_ne (r := 0) (k := 10) (a := 1) (j := j) _ _ (by omega), est10, up2_ne (r := 0) (k := 4) (a := 1) (j := j) _ _ (by omega), est9, up2_ne (r := 0) (k := 3) (a := 1) (j := j) _ _ (by omega), hf7, up2_ne (r := 0) (k := 2) (a := 1) (j := j) _ _ (by omega), est1, up2_ne (r := 0) (k := 0) (a := 1) (j := j) _ _ (by omega)]; exact (hbt j hj).1, (hbt j hj).2⟩⟩
  refine lv_aload_n hx hb dX12_begin_28 rfl (lv_at hl 0 rfl) ?_
  refine va_callv (va_runV (As := []) (rest := []) ⟨hx, hb, hml, hown, hts⟩ (f_go l dC dI ar cy _ hN st12 sl4 B g m 0 hG.1 hB (by show st12 0 5 = _; rw [est12, up2_same]; rfl) (Nat.zero_le _)) (cwV 0 hts gX12_begin_X12_go rfl rfl rfl (by decide +kernel) ⟨Nat.le_of_ble_eq_true rfl, Nat.le_of_ble_eq_true rfl⟩) ⟨fun a U g mk q => ⟨q.1, mPre.blind q.2⟩, va_recv hK hP (ci := 11) (q0 := 0) rfl rfl, fun U hU hW => ⟨rfl, mPre.of hP hK hU hW⟩⟩ rfl rfl hl.1 rfl (lv_room (Nat.le_of_ble_eq_true rfl)) dX12_begin_29 ⟨Nat.le_of_ble_eq_true rfl, Nat.le_of_ble_eq_true rfl⟩) hS (fun q _ h => MA.le hS.1 q h) (MA.le hS.1) (fun x t H locs ht hvm hw hB9 _ _ hS => ?_)
  have hP := mB.at ht hB9
  clear hB9 ht hvm
  obtain ⟨st14, sl15⟩ := x
  obtain ⟨hG2, hF2, hw⟩ := hw
  dsimp only at hG2 hF2 hw
  have hP : va_P (dC, dI) vwCl (mw ar cy st14 sl15) _ := hP
  have hG : MG [2, 6, 7, 8, 9, 10, 11, 12, 13, 14, 15, 20, 21, 22] st st14 := hG.tr hG2 (by decide)
  have hFst14 : FM 1 st12 sl4 st14 sl15 := hF2
  clear hG2 hF2
  have hT := hw
  have hp9 := hT.2.2.2.2.2.2
  have hk1 := tkd_lt (B := B) (g := g) (m := m) (p := 0)
  have hk2 := tkx_le (B := B) (g := g) (m := m) (p := 0) hp9
  have hk3 := tka_le (B := B) (g := g) (m := m) (p := 0) hp9 hB.2.2.1
  have hk4 := tkv_lt (p := 0) hB hp9
  have hk5 := tkw_lt (B := B) (g := g) (m := m) (p := 0)
  have hB7 := MBt.fr hB hFst14
  have h10 : st14 0 10 = 0 := by rw [(hFst14 0 10 (by decide)).1, est12, up2_ne (r := 0) (k := 5) (a := 0) (j := 10) _ _ (by omega), est11, up2_same]
  have h2 : st14 0 2 = 0 := by rw [(hFst14 0 2 (by decide)).1, est12, up2_ne (r := 0) (k := 5) (a := 0) (j := 2) _ _ (by omega), est11, up2_ne (r := 0) (k := 10) (a := 0) (j := 2) _ _ (by omega), est10, up2_ne (r := 0) (k := 4) (a := 0) (j := 2) _ _ (by omega), est9, up2_ne (r := 0) (k := 3) (a := 0) (j := 2) _ _ (by omega), hf7, up2_same]
  have hlk9 : LQ [7, 9] sl sl15 := by have hq := FM.lk hFst14; rw [hf8] at hq; exact hq
  subst hm
  exact W.vret hx hb hr (fun t ht hW => ⟨⟨(st14, sl15), rfl, ⟨hG, ⟨hB7, hT, h10, h2, hlk9⟩⟩, mB.of ht hP⟩, hS.F ht⟩) hS.2.2 dX12_begin_32
