set_option maxHeartbeats 4000000 in
set_option maxRecDepth 100000 in
theorem f_readFree (l : Launch) (dC : Nat → ClassId) (dI : Nat → Nat → Nat) (ar : Nat → Nat) (cy : Nat → ClassId) (sz : Nat) (hN : MN ar) (st : Nat → Nat → Int32) (sl : Nat → Nat → Int64) (B : Nat → Nat) (g m : Nat) (p : Nat) (c : Nat → Nat) (nm : Nat → Nat → Nat) (hI : MI st) (hB : MBt B g m st) (hT : TM B g m p st sl) (hR : RT c nm st sl) (hw : tkw B g m p = 4) : Met l yX12_readFree wsX12_readFree ({ frames := 4, cells := 0, slots := 0, locals := 91 }) (va_Pc [.ref (ar 0)] (mPre dC dI ar cy sz st sl)) (va_Qi (fun (r : Int32) (x : MT) => MG [1, 2, 3, 6, 7, 8, 9, 10, 11, 12, 13, 14, 15, 20, 21, 22] st x.1 ∧ FM 4 st sl x.1 x.2 ∧ ((∃ c1 : Nat → Nat, ∃ n1 : Nat → Nat → Nat, ∃ q : Nat, r = 1 ∧ RT c1 n1 x.1 x.2 ∧ TM B g m q x.1 x.2 ∧ c1 0 + c1 1 + c1 2 + c1 3 + c1 4 = c 0 + c 1 + c 2 + c 3 + c 4 + 1 ∧ lFree B g m p c nm = eEnd B g m q (fun p2 => (0, p2, c1, n1)) ∧ x.1 0 10 = st 0 10) ∨ (∃ f : Nat, ∃ a : Nat, r = 0 ∧ x.1 0 10 = nI f ∧ x.1 0 11 = nI a ∧ 1 ≤ f ∧ lFree B g m p c nm = fl f a))) (mB dC dI ar cy) (MA ar sz)) 0 0 (MA ar sz) := by
  refine Met.ofW (cc := cX12_readFree) (maxL := 3) (ret := (some .boolean)) (by decide) rfl ?_
  intro p9 e s m9 args below meth c9 s₁ B9 hml hv
  obtain ⟨rfl, hsz, hP, hK⟩ := hv
  have hx := B9.exec
  have hb := B9.bytes
  have hr := B9.returns
  have hts := atoms_spec (ws := wsX12_readFree) B9.pre
  have hown : s.vm.findClass RX12 = some m9.cls := findClass_of_methodNamed B9.named
  subst hsz
  have hS : va_S (MA ar s.heap.size) s.heap s.heap [] := va_S.rf
  have hG : MG [1, 2, 3, 6, 7, 8, 9, 10, 11, 12, 13, 14, 15, 20, 21, 22] st st := MG.rf hI
  have hl := lv_entry ([.ref (ar 0)]) (n := 3) (Nat.le_of_ble_eq_true rfl)
  rw [lg_entry_eq]
  generalize (lg_sl ([.ref (ar 0)]) ++ List.replicate (3 - (lg_sl ([.ref (ar 0)])).length) Slot.unset).toArray = ls at hl ⊢
  have hl : lv_has ls 3 [(0, .ref (ar 0))] := hl
  clear hI
  have hB1 := hB.2.2.1
  have hB2 := hB.2.2.2.1
  have hF : FM 4 st sl st sl := FM.rf
  have hp9 := hT.2.2.2.2.2.2
  have hk1 := tkd_lt (B := B) (g := g) (m := m) (p := p)
  have hk2 := tkx_le (B := B) (g := g) (m := m) (p := p) hp9
  have hk3 := tka_le (B := B) (g := g) (m := m) (p := p) hp9 hB.2.2.1
  have hk4 := tkv_lt (p := p) hB hp9
  have hk5 := tkw_lt (B := B) (g := g) (m := m) (p := p)
  have hR9 := hR.2.2.2.2.2.1
  refine lv_aload_n hx hb dX12_readFree_0 rfl (lv_at hl 0 rfl) ?_
  refine lv_iconst (v := 3) hx hb dX12_readFree_1 (by decide) ?_
  refine lv_bipush (v := 12) hx hb dX12_readFree_2 (by decide) ?_
  refine va_calli (va_runV (As := [.int 3, .int 12]) (rest := []) ⟨hx, hb, hml, hown, hts⟩ (f_readFirst3 l dC dI ar cy _ hN st sl B g m p c nm hG.1 (MBt.fr hB hF) hT hR (by have h9 := @tkw_d B g m p; omega)) (cwV 2 hts gX12_readFree_X12_readFirst rfl rfl rfl (by decide +kernel) ⟨Nat.le_of_ble_eq_true rfl, Nat.le_of_ble_eq_true rfl⟩) ⟨fun a U g mk q => ⟨q.1, mPre.blind q.2⟩, va_recv hK hP (ci := 11) (q0 := 0) rfl rfl, fun U hU hW => ⟨rfl, mPre.of hP hK hU hW⟩⟩ rfl rfl hl.1 rfl (lv_room (Nat.le_of_ble_eq_true rfl)) dX12_readFree_4 ⟨Nat.le_of_ble_eq_true rfl, Nat.le_of_ble_eq_true rfl⟩) hS (fun q _ h => MA.le hS.1 q h) (MA.le hS.1) (fun r1 x t H locs ht hvm hw hB9 _ _ hS => ?_)
  have hP := mB.at ht hB9
  clear hB9 ht hvm
  obtain ⟨st2, sl3⟩ := x
  obtain ⟨hG2, hF2, hw⟩ := hw
  dsimp only at hG2 hF2 hw
  have hP : va_P (dC, dI) vwCl (mw ar cy st2 sl3) _ := hP
  have hG : MG [1, 2, 3, 6, 7, 8, 9, 10, 11, 12, 13, 14, 15, 20, 21, 22] st st2 := hG.tr hG2 (by decide)
  have hFst2 : FM 2 st sl st2 sl3 := hF2
  have hF : FM 4 st sl st2 sl3 := hF.tr hFst2 (by omega) (by omega)
  clear hG2 hF2
  have hR : RT c nm st2 sl3 := hR.fr hFst2 (by omega)
  rcases hw with ⟨rfl, hf4, hT, hkx5⟩ | ⟨rfl, hf6, hf7, hf8⟩
  · have hp9 := hT.2.2.2.2.2.2
    have hk1 := tkd_lt (B := B) (g := g) (m := m) (p := (tkx B g m p))
    have hk2 := tkx_le (B := B) (g := g) (m := m) (p := (tkx B g m p)) hp9
    have hk3 := tka_le (B := B) (g := g) (m := m) (p := (tkx B g m p)) hp9 hB.2.2.1
    have hk4 := tkv_lt (p := (tkx B g m p)) hB hp9
    have hk5 := tkw_lt (B := B) (g := g) (m := m) (p := (tkx B g m p))
    refine lv_if_eq (tgt := 24) hx hb dX12_readFree_7 (by decide) (fun cc => absurd cc (by decide)) (fun _ => ?_)
    refine lv_aload_n hx hb dX12_readFree_10 rfl (lv_at hl 0 rfl) ?_
    refine lv_iconst (v := 0) hx hb dX12_readFree_11 (by decide) ?_
    refine lv_aload_n hx hb dX12_readFree_12 rfl (lv_at hl 0 rfl) ?_
    refine va_get (D := (dC, dI)) (ci := 11) (v := .ref (ar 3)) (C := RX12) (T := TX12) (N := 47) hx hb hts ii_X12_readFree hown hK hP 0 rfl rfl 15 (by decide) (hts _ mm_X12_readFree_1) (fun _ hh => hh) rfl dX12_readFree_13 ?_
    refine lv_iconst (v := 0) hx hb dX12_readFree_16 (by decide) ?_
    refine va_iald hx hb hK hP 3 2 rfl rfl (i := 0) (zz_in (by decide)) dX12_readFree_17 ?_
    refine zz_top (v := (nI (c 0))) (by show st2 3 0 = _; rw [hR.1]) ?_
    refine va_calli (va_runV (As := [.int 0, .int (nI (c 0))]) (rest := []) ⟨hx, hb, hml, hown, hts⟩ (f_readOne0 l dC dI ar cy _ hN st2 sl3 (c 0) B g m (tkx B g m p) c nm (by omega) hG.1 (MBt.fr hB hF) hT hR (by omega)) (cwV 2 hts gX12_readFree_X12_readOne rfl rfl rfl (by decide +kernel) ⟨Nat.le_of_ble_eq_true rfl, Nat.le_of_ble_eq_true rfl⟩) ⟨fun a U g mk q => ⟨q.1, mPre.blind q.2⟩, va_recv hK hP (ci := 11) (q0 := 0) rfl rfl, fun U hU hW => ⟨rfl, mPre.of hP hK hU hW⟩⟩ rfl rfl hl.1 rfl (lv_room (Nat.le_of_ble_eq_true rfl)) dX12_readFree_18 ⟨Nat.le_of_ble_eq_true rfl, Nat.le_of_ble_eq_true rfl⟩) hS (fun q _ h => MA.le hS.1 q h) (MA.le hS.1) (fun r9 x t H locs ht hvm hw hB9 _ _ hS => ?_)
    have hP := mB.at ht hB9
    clear hB9 ht hvm
    obtain ⟨st10, sl11⟩ := x
    obtain ⟨hG2, hF2, hw⟩ := hw
    dsimp only at hG2 hF2 hw
    have hP : va_P (dC, dI) vwCl (mw ar cy st10 sl11) _ := hP
    have hG : MG [1, 2, 3, 6, 7, 8, 9, 10, 11, 12, 13, 14, 15, 20, 21, 22] st st10 := hG.tr hG2 (by decide)
    have hFst10 : FM 2 st2 sl3 st10 sl11 := hF2
    have hF : FM 4 st sl st10 sl11 := hF.tr hFst10 (by omega) (by omega)
    clear hG2 hF2
    have hR : RT c nm st10 sl11 := hR.fr hFst10 (by omega)
    rcases hw with ⟨n12, rfl, hf13, hf14, hT, hf15, hk16⟩ | ⟨n17, n18, rfl, hf19, hf20, hf21, hf22⟩
    · have hp9 := hT.2.2.2.2.2.2
      have hk1 := tkd_lt (B := B) (g := g) (m := m) (p := (tkx B g m (tkx B g m p)))
      have hk2 := tkx_le (B := B) (g := g) (m := m) (p := (tkx B g m (tkx B g m p))) hp9
      have hk3 := tka_le (B := B) (g := g) (m := m) (p := (tkx B g m (tkx B g m p))) hp9 hB.2.2.1
      have hk4 := tkv_lt (p := (tkx B g m (tkx B g m p))) hB hp9
      have hk5 := tkw_lt (B := B) (g := g) (m := m) (p := (tkx B g m (tkx B g m p)))
      refine lv_if_ne (tgt := 26) hx hb dX12_readFree_21 (by decide) (fun _ => ?_) (fun cc => absurd cc (by decide))
      refine lv_aload_n hx hb dX12_readFree_26 rfl (lv_at hl 0 rfl) ?_
      refine va_get (D := (dC, dI)) (ci := 11) (v := .int (st10 0 13)) (C := RX12) (T := TX12) (N := 47) hx hb hts ii_X12_readFree hown hK hP 0 rfl rfl 13 (by decide) (hts _ mm_X12_readFree_2) (fun _ hh => hh) rfl dX12_readFree_27 ?_
      refine zz_top (v := (nI n12)) (by show st10 0 13 = _; rw [hf14]) ?_
      refine lv_istore_n (lv' := [(1, .int (nI n12)), (0, .ref (ar 0))]) hx hb dX12_readFree_30 rfl hl (by decide) rfl (fun ls hl => ?_)
      refine lv_aload_n hx hb dX12_readFree_31 rfl (lv_at hl 1 rfl) ?_
      refine lv_iconst (v := 0) hx hb dX12_readFree_32 (by decide) ?_
      refine lv_bipush (v := 23) hx hb dX12_readFree_33 (by decide) ?_
      refine va_calli (va_runV (As := [.int 0, .int 23]) (rest := []) ⟨hx, hb, hml, hown, hts⟩ (f_readNumber l dC dI ar cy _ hN st10 sl11 0 23 B g m (tkx B g m (tkx B g m p)) (by omega) (by omega) hG.1 (MBt.fr hB hF) hT) (cwV 2 hts gX12_readFree_X12_readNumber rfl rfl rfl (by decide +kernel) ⟨Nat.le_of_ble_eq_true rfl, Nat.le_of_ble_eq_true rfl⟩) ⟨fun a U g mk q => ⟨q.1, mPre.blind q.2⟩, va_recv hK hP (ci := 11) (q0 := 0) rfl rfl, fun U hU hW => ⟨rfl, mPre.of hP hK hU hW⟩⟩ rfl rfl hl.1 rfl (lv_room (Nat.le_of_ble_eq_true rfl)) dX12_readFree_35 ⟨Nat.le_of_ble_eq_true rfl, Nat.le_of_ble_eq_true rfl⟩) hS (fun q _ h => MA.le hS.1 q h) (MA.le hS.1) (fun r23 x t H locs ht hvm hw hB9 _ _ hS => ?_)
      have hP := mB.at ht hB9
      clear hB9 ht hvm
      obtain ⟨st24, sl25⟩ := x
      obtain ⟨hG2, hF2, hw⟩ := hw
      dsimp only at hG2 hF2 hw
      have hP : va_P (dC, dI) vwCl (mw ar cy st24 sl25) _ := hP
      have hG : MG [1, 2, 3, 6, 7, 8, 9, 10, 11, 12, 13, 14, 15, 20, 21, 22] st st24 := hG.tr hG2 (by decide)
      have hFst24 : FM 2 st10 sl11 st24 sl25 := hF2
      have hF : FM 4 st sl st24 sl25 := hF.tr hFst24 (by omega) (by omega)
      clear hG2 hF2
      have hR : RT c nm st24 sl25 := hR.fr hFst24 (by omega)
      rcases hw with ⟨rfl, hf26, hf27, hf28, hf29, hT, hf30, hk31⟩ | ⟨n32, n33, rfl, hf34, hf35, hf36, hf37⟩
      · have hp9 := hT.2.2.2.2.2.2
        have hk1 := tkd_lt (B := B) (g := g) (m := m) (p := (tkx B g m (tkx B g m (tkx B g m p))))
        have hk2 := tkx_le (B := B) (g := g) (m := m) (p := (tkx B g m (tkx B g m (tkx B g m p)))) hp9
        have hk3 := tka_le (B := B) (g := g) (m := m) (p := (tkx B g m (tkx B g m (tkx B g m p)))) hp9 hB.2.2.1
        have hk4 := tkv_lt (p := (tkx B g m (tkx B g m (tkx B g m p)))) hB hp9
        have hk5 := tkw_lt (B := B) (g := g) (m := m) (p := (tkx B g m (tkx B g m (tkx B g m p))))
        refine lv_if_ne (tgt := 43) hx hb dX12_readFree_38 (by decide) (fun _ => ?_) (fun cc => absurd cc (by decide))
        refine lv_aload_n hx hb dX12_readFree_43 rfl (lv_at hl 1 rfl) ?_
        refine va_get (D := (dC, dI)) (ci := 11) (v := .int (st24 0 13)) (C := RX12) (T := TX12) (N := 47) hx hb hts ii_X12_readFree hown hK hP 0 rfl rfl 13 (by decide) (hts _ mm_X12_readFree_2) (fun _ hh => hh) rfl dX12_readFree_44 ?_
        refine zz_top (v := (nI (tkv B g (tkx B g m (tkx B g m p))))) (by show st24 0 13 = _; rw [hf29]) ?_
        refine lv_istore_n (lv' := [(2, .int (nI (tkv B g (tkx B g m (tkx B g m p))))), (1, .int (nI n12)), (0, .ref (ar 0))]) hx hb dX12_readFree_47 rfl hl (by decide) rfl (fun ls hl => ?_)
        refine lv_aload_n hx hb dX12_readFree_48 rfl (lv_at hl 2 rfl) ?_
        refine lv_iload_n hx hb dX12_readFree_49 rfl (lv_at hl 0 rfl) ?_
        refine lv_bipush (v := 23) hx hb dX12_readFree_50 (by decide) ?_
        refine va_calli (va_runV (As := [.int (nI (tkv B g (tkx B g m (tkx B g m p)))), .int 23]) (rest := []) ⟨hx, hb, hml, hown, hts⟩ (f_readNumber l dC dI ar cy _ hN st24 sl25 (tkv B g (tkx B g m (tkx B g m p))) 23 B g m (tkx B g m (tkx B g m (tkx B g m p))) (by omega) (by omega) hG.1 (MBt.fr hB hF) hT) (cwV 2 hts gX12_readFree_X12_readNumber rfl rfl rfl (by decide +kernel) ⟨Nat.le_of_ble_eq_true rfl, Nat.le_of_ble_eq_true rfl⟩) ⟨fun a U g mk q => ⟨q.1, mPre.blind q.2⟩, va_recv hK hP (ci := 11) (q0 := 0) rfl rfl, fun U hU hW => ⟨rfl, mPre.of hP hK hU hW⟩⟩ rfl rfl hl.1 rfl (lv_room (Nat.le_of_ble_eq_true rfl)) dX12_readFree_52 ⟨Nat.le_of_ble_eq_true rfl, Nat.le_of_ble_eq_true rfl⟩) hS (fun q _ h => MA.le hS.1 q h) (MA.le hS.1) (fun r38 x t H locs ht hvm hw hB9 _ _ hS => ?_)
        have hP := mB.at ht hB9
        clear hB9 ht hvm
        obtain ⟨st39, sl40⟩ := x
        obtain ⟨hG2, hF2, hw⟩ := hw
        dsimp only at hG2 hF2 hw
        have hP : va_P (dC, dI) vwCl (mw ar cy st39 sl40) _ := hP
        have hG : MG [1, 2, 3, 6, 7, 8, 9, 10, 11, 12, 13, 14, 15, 20, 21, 22] st st39 := hG.tr hG2 (by decide)
        have hFst39 : FM 2 st24 sl25 st39 sl40 := hF2
        have hF : FM 4 st sl st39 sl40 := hF.tr hFst39 (by omega) (by omega)
        clear hG2 hF2
        have hR : RT c nm st39 sl40 := hR.fr hFst39 (by omega)
        rcases hw with ⟨rfl, hf41, hf42, hf43, hf44, hT, hf45, hk46⟩ | ⟨n47, n48, rfl, hf49, hf50, hf51, hf52⟩
        · have hp9 := hT.2.2.2.2.2.2
          have hk1 := tkd_lt (B := B) (g := g) (m := m) (p := (tkx B g m (tkx B g m (tkx B g m (tkx B g m p)))))
          have hk2 := tkx_le (B := B) (g := g) (m := m) (p := (tkx B g m (tkx B g m (tkx B g m (tkx B g m p))))) hp9
          have hk3 := tka_le (B := B) (g := g) (m := m) (p := (tkx B g m (tkx B g m (tkx B g m (tkx B g m p))))) hp9 hB.2.2.1
          have hk4 := tkv_lt (p := (tkx B g m (tkx B g m (tkx B g m (tkx B g m p))))) hB hp9
          have hk5 := tkw_lt (B := B) (g := g) (m := m) (p := (tkx B g m (tkx B g m (tkx B g m (tkx B g m p)))))
          refine lv_if_ne (tgt := 60) hx hb dX12_readFree_55 (by decide) (fun _ => ?_) (fun cc => absurd cc (by decide))
          refine lv_aload_n hx hb dX12_readFree_60 rfl (lv_at hl 2 rfl) ?_
          refine va_get (D := (dC, dI)) (ci := 11) (v := .ref (ar 3)) (C := RX12) (T := TX12) (N := 47) hx hb hts ii_X12_readFree hown hK hP 0 rfl rfl 15 (by decide) (hts _ mm_X12_readFree_1) (fun _ hh => hh) rfl dX12_readFree_61 ?_
          refine lv_iconst (v := 4) hx hb dX12_readFree_64 (by decide) ?_
          refine lv_iload_n hx hb dX12_readFree_65 rfl (lv_at hl 1 rfl) ?_
          refine lv_iadd hx hb dX12_readFree_66 ?_
          refine zz_top (v := nI (4 + n12)) (nI_add 4 n12) ?_
          refine lv_dup2_11 hx hb dX12_readFree_67 rfl rfl ?_
          refine va_iald hx hb hK hP 3 2 rfl rfl (i := (nI (4 + n12))) (vp_in_nI (by omega) (by decide)) dX12_readFree_68 ?_
          obtain ⟨n53, hn53, en53⟩ := hG.1.at (r := 3) (k := (4 + n12)) (mr_3_4_9 (4 + n12) (by omega) (by omega)) (by decide)
          refine zz_top (v := nI n53) (by rw [nI_clamp (by omega)]; exact en53) ?_
          refine lv_iload_n hx hb dX12_readFree_69 rfl (lv_at hl 0 rfl) ?_
          refine lv_aload_n hx hb dX12_readFree_70 rfl (lv_at hl 2 rfl) ?_
          refine va_get (D := (dC, dI)) (ci := 11) (v := .int (st39 0 13)) (C := RX12) (T := TX12) (N := 47) hx hb hts ii_X12_readFree hown hK hP 0 rfl rfl 13 (by decide) (hts _ mm_X12_readFree_2) (fun _ hh => hh) rfl dX12_readFree_71 ?_
          refine zz_top (v := (nI (tkv B g (tkx B g m (tkx B g m (tkx B g m p)))))) (by show st39 0 13 = _; rw [hf44]) ?_
          refine va_calli (va_runS (As := [.int (nI (tkv B g (tkx B g m (tkx B g m p)))), .int (nI (tkv B g (tkx B g m (tkx B g m (tkx B g m p)))))]) (rest := [.int (nI n53), .int (nI (4 + n12)), .ref (ar 3)]) ⟨hx, hb, hml, hown, hts⟩ (m_hoursInN l dC dI ar cy _ hN st39 sl40 (tkv B g (tkx B g m (tkx B g m p))) (tkv B g (tkx B g m (tkx B g m (tkx B g m p)))) (by omega) (by omega) hG.1 (by omega)) (va_cwS 2 hts gX12_readFree_X12_hoursIn rfl rfl rfl (by decide +kernel) ⟨Nat.le_of_ble_eq_true rfl, Nat.le_of_ble_eq_true rfl⟩) ⟨fun a U g mk q => ⟨q.1, mPre.blind q.2⟩, fun U hU hW => ⟨rfl, mPre.of hP hK hU hW⟩⟩ rfl rfl hl.1 rfl (lv_room (Nat.le_of_ble_eq_true rfl)) dX12_readFree_74 ⟨Nat.le_of_ble_eq_true rfl, Nat.le_of_ble_eq_true rfl⟩) hS (fun q _ h => MA.le hS.1 q h) (MA.le hS.1) (fun r54 x t H locs ht hvm hw hB9 _ _ hS => ?_)
          have hP := mB.at ht hB9
          clear hB9 ht hvm
          obtain ⟨rfl, hw⟩ := hw
          have hP : va_P (dC, dI) vwCl (mw ar cy st39 sl40) _ := hP
          obtain ⟨n55, rfl, hf56⟩ := hw
          refine lv_ior hx hb dX12_readFree_77 ?_
          have ho57 : (n53 ||| n55) < 2 ^ 31 := Nat.or_lt_two_pow (by omega) (by omega)
          refine zz_top (v := nI (n53 ||| n55)) (nI_orN n53 n55) ?_
          refine va_iast hx hb hK hP (mD hN _ _ _ _) hS 3 2 rfl rfl (i := (nI (4 + n12))) (vp_in_nI (by omega) (by decide)) dX12_readFree_78 (fun H locs hP _ hS => ?_)
          rw [nI_clamp (by omega)] at hP
          have hP : va_P (dC, dI) vwCl (mw ar cy (up2 st39 3 (4 + n12) (nI (n53 ||| n55))) sl40) H := hP
          obtain ⟨st58, est58⟩ : ∃ y, y = up2 st39 3 (4 + n12) (nI (n53 ||| n55)) := ⟨_, rfl⟩
          have hG : MG [1, 2, 3, 6, 7, 8, 9, 10, 11, 12, 13, 14, 15, 20, 21, 22] st st58 := by rw [est58]; exact hG.up (rn (n := (n53 ||| n55)) (mr_3_4_9 (4 + n12) (by omega) (by omega)) (by omega)) (pn (pcl_3_4_9 (4 + n12) (by omega) (by omega)) (by decide))
          rw [← est58] at hP
          have hF : FM 4 st sl st58 sl40 := by rw [est58]; exact hF.up (dm_read _)
          have hT : TM B g m (tkx B g m (tkx B g m (tkx B g m (tkx B g m p)))) st58 sl40 := by rw [est58]; exact hT.up (by omega)
          have hR : RT c nm st58 sl40 := by rw [est58]; exact hR.up3 (by omega)
          refine lv_aload_n hx hb dX12_readFree_79 rfl (lv_at hl 2 rfl) ?_
          refine va_get (D := (dC, dI)) (ci := 11) (v := .ref (ar 3)) (C := RX12) (T := TX12) (N := 47) hx hb hts ii_X12_readFree hown hK hP 0 rfl rfl 15 (by decide) (hts _ mm_X12_readFree_1) (fun _ hh => hh) rfl dX12_readFree_80 ?_
          refine lv_iconst (v := 3) hx hb dX12_readFree_83 (by decide) ?_
          refine lv_dup2_11 hx hb dX12_readFree_84 rfl rfl ?_
          refine va_iald hx hb hK hP 3 2 rfl rfl (i := 3) (zz_in (by decide)) dX12_readFree_85 ?_
          refine zz_top (v := (nI (c 3))) (by show st58 3 3 = _; rw [hR.2.2.2.1]) ?_
          refine lv_iconst (v := 1) hx hb dX12_readFree_86 (by decide) ?_
          refine lv_iadd hx hb dX12_readFree_87 ?_
          refine zz_top (v := nI ((c 3) + 1)) (nI_add (c 3) 1) ?_
          refine va_iast hx hb hK hP (mD hN _ _ _ _) hS 3 2 rfl rfl (i := 3) (zz_in (by decide)) dX12_readFree_88 (fun H locs hP _ hS => ?_)
          have hP : va_P (dC, dI) vwCl (mw ar cy (up2 st58 3 3 (nI ((c 3) + 1))) sl40) H := hP
          obtain ⟨st59, est59⟩ : ∃ y, y = up2 st58 3 3 (nI ((c 3) + 1)) := ⟨_, rfl⟩
          have hG : MG [1, 2, 3, 6, 7, 8, 9, 10, 11, 12, 13, 14, 15, 20, 21, 22] st st59 := by rw [est59]; exact hG.up (rz (by decide : mr 3 3 = 0)) (pn (by decide : pcl 3 3 = 19) (by decide))
          rw [← est59] at hP
          have hF : FM 4 st sl st59 sl40 := by rw [est59]; exact hF.up (by decide)
          have hT : TM B g m (tkx B g m (tkx B g m (tkx B g m (tkx B g m p)))) st59 sl40 := by rw [est59]; exact hT.up (by omega)
          have hR : RT (uN c 3 (c 3 + 1)) nm st59 sl40 := by rw [est59]; exact hR.inc3 (by omega)
          refine lv_iconst (v := 1) hx hb dX12_readFree_89 (by decide) ?_
          exact W.zret (v := 1) hx hb hr rfl (fun t ht hW => ⟨⟨1, (st59, sl40), rfl, ⟨hG, hF, Or.inl (⟨(uN c 3 (c 3 + 1)), nm, (tkx B g m (tkx B g m (tkx B g m (tkx B g m p)))), rfl, hR, hT, uN_sum (a := 3) (by decide) rfl, by unfold lFree; rw [if_neg hf4, hf15, hf30, hf45], by show st59 0 10 = st 0 10; rw [est59, up2_ne (r := 3) (k := 3) (a := 0) (j := 10) _ _ (by omega), est58, up2_ne (r := 3) (k := (4 + n12)) (a := 0) (j := 10) _ _ (by omega), hk46, hk31, hk16, hkx5]⟩)⟩, mB.of ht hP⟩, hS.F ht⟩) hS.2.2 dX12_readFree_90
        · refine lv_if_ne (tgt := 60) hx hb dX12_readFree_55 (by decide) (fun cc => absurd (by decide) cc) (fun _ => ?_)
          refine lv_iconst (v := 0) hx hb dX12_readFree_58 (by decide) ?_
          exact W.zret (v := 0) hx hb hr rfl (fun t ht hW => ⟨⟨0, (st39, sl40), rfl, ⟨hG, hF, Or.inr (⟨n47, n48, rfl, by show st39 0 10 = _; rw [hf49], by show st39 0 11 = _; rw [hf50], by omega, by unfold lFree; rw [if_neg hf4, hf15, hf30, hf52]⟩)⟩, mB.of ht hP⟩, hS.F ht⟩) hS.2.2 dX12_readFree_59
      · refine lv_if_ne (tgt := 43) hx hb dX12_readFree_38 (by decide) (fun cc => absurd (by decide) cc) (fun _ => ?_)
        refine lv_iconst (v := 0) hx hb dX12_readFree_41 (by decide) ?_
        exact W.zret (v := 0) hx hb hr rfl (fun t ht hW => ⟨⟨0, (st24, sl25), rfl, ⟨hG, hF, Or.inr (⟨n32, n33, rfl, by show st24 0 10 = _; rw [hf34], by show st24 0 11 = _; rw [hf35], by omega, by unfold lFree; rw [if_neg hf4, hf15, hf37]⟩)⟩, mB.of ht hP⟩, hS.F ht⟩) hS.2.2 dX12_readFree_42
    · refine lv_if_ne (tgt := 26) hx hb dX12_readFree_21 (by decide) (fun cc => absurd (by decide) cc) (fun _ => ?_)
      refine lv_iconst (v := 0) hx hb dX12_readFree_24 (by decide) ?_
      exact W.zret (v := 0) hx hb hr rfl (fun t ht hW => ⟨⟨0, (st10, sl11), rfl, ⟨hG, hF, Or.inr (⟨n17, n18, rfl, by show st10 0 10 = _; rw [hf19], by show st10 0 11 = _; rw [hf20], by omega, by unfold lFree; rw [if_neg hf4, hf22]⟩)⟩, mB.of ht hP⟩, hS.F ht⟩) hS.2.2 dX12_readFree_25
  · refine lv_if_eq (tgt := 24) hx hb dX12_readFree_7 (by decide) (fun _ => ?_) (fun cc => absurd (by decide) cc)
    refine lv_iconst (v := 0) hx hb dX12_readFree_24 (by decide) ?_
    exact W.zret (v := 0) hx hb hr rfl (fun t ht hW => ⟨⟨0, (st2, sl3), rfl, ⟨hG, hF, Or.inr (⟨4, (tka B g m p), rfl, by show st2 0 10 = _; rw [hf7], by show st2 0 11 = _; rw [hf8], by omega, by unfold lFree; rw [if_pos hf6]⟩)⟩, mB.of ht hP⟩, hS.F ht⟩) hS.2.2 dX12_readFree_25
set_option maxHeartbeats 4000000 in
set_option maxRecDepth 100000 in
theorem f_readLine (l : Launch) (dC : Nat → ClassId) (dI : Nat → Nat → Nat) (ar : Nat → Nat) (cy : Nat → ClassId) (sz : Nat) (hN : MN ar) (st : Nat → Nat → Int32) (sl : Nat → Nat → Int64) (B : Nat → Nat) (g m : Nat) (p : Nat) (c : Nat → Nat) (nm : Nat → Nat → Nat) (hI : MI st) (hB : MBt B g m st) (hT : TM B g m p st sl) (hR : RT c nm st sl) : Met l yX12_readLine wsX12_readLine ({ frames := 5, cells := 0, slots := 0, locals := 113 }) (va_Pc [.ref (ar 0)] (mPre dC dI ar cy sz st sl)) (va_Qi (fun (r : Int32) (x : MT) => MG [1, 2, 3, 6, 7, 8, 9, 10, 11, 12, 13, 14, 15, 20, 21, 22] st x.1 ∧ FM 4 st sl x.1 x.2 ∧ ((∃ c1 : Nat → Nat, ∃ n1 : Nat → Nat → Nat, ∃ q : Nat, r = 1 ∧ RT c1 n1 x.1 x.2 ∧ TM B g m q x.1 x.2 ∧ c1 0 + c1 1 + c1 2 + c1 3 + c1 4 = c 0 + c 1 + c 2 + c 3 + c 4 + 1 ∧ lAny B g m p c nm = eEnd B g m q (fun p2 => (0, p2, c1, n1)) ∧ x.1 0 10 = st 0 10) ∨ (∃ f : Nat, ∃ a : Nat, r = 0 ∧ x.1 0 10 = nI f ∧ x.1 0 11 = nI a ∧ 1 ≤ f ∧ lAny B g m p c nm = fl f a))) (mB dC dI ar cy) (MA ar sz)) 0 0 (MA ar sz) := by
  refine Met.ofW (cc := cX12_readLine) (maxL := 1) (ret := (some .boolean)) (by decide) rfl ?_
  intro p9 e s m9 args below meth c9 s₁ B9 hml hv
  obtain ⟨rfl, hsz, hP, hK⟩ := hv
  have hx := B9.exec
  have hb := B9.bytes
  have hr := B9.returns
  have hts := atoms_spec (ws := wsX12_readLine) B9.pre
  have hown : s.vm.findClass RX12 = some m9.cls := findClass_of_methodNamed B9.named
  subst hsz
  have hS : va_S (MA ar s.heap.size) s.heap s.heap [] := va_S.rf
  have hG : MG [1, 2, 3, 6, 7, 8, 9, 10, 11, 12, 13, 14, 15, 20, 21, 22] st st := MG.rf hI
  have hl := lv_entry ([.ref (ar 0)]) (n := 1) (Nat.le_of_ble_eq_true rfl)
  rw [lg_entry_eq]
  generalize (lg_sl ([.ref (ar 0)]) ++ List.replicate (1 - (lg_sl ([.ref (ar 0)])).length) Slot.unset).toArray = ls at hl ⊢
  have hl : lv_has ls 1 [(0, .ref (ar 0))] := hl
  clear hI
  have hB1 := hB.2.2.1
  have hB2 := hB.2.2.2.1
  have hF : FM 4 st sl st sl := FM.rf
  have hp9 := hT.2.2.2.2.2.2
  have hk1 := tkd_lt (B := B) (g := g) (m := m) (p := p)
  have hk2 := tkx_le (B := B) (g := g) (m := m) (p := p) hp9
  have hk3 := tka_le (B := B) (g := g) (m := m) (p := p) hp9 hB.2.2.1
  have hk4 := tkv_lt (p := p) hB hp9
  have hk5 := tkw_lt (B := B) (g := g) (m := m) (p := p)
  have hR9 := hR.2.2.2.2.2.1
  refine lv_aload_n hx hb dX12_readLine_0 rfl (lv_at hl 0 rfl) ?_
  refine lv_iconst (v := 0) hx hb dX12_readLine_1 (by decide) ?_
  refine va_calli (va_runV (As := [.int 0]) (rest := []) ⟨hx, hb, hml, hown, hts⟩ (f_isWord0 l dC dI ar cy _ hN st sl B g m p hG.1 (MBt.fr hB hF) hT) (cwV 1 hts gX12_readLine_X12_isWord rfl rfl rfl (by decide +kernel) ⟨Nat.le_of_ble_eq_true rfl, Nat.le_of_ble_eq_true rfl⟩) ⟨fun a U g mk q => ⟨q.1, mPre.blind q.2⟩, va_recv hK hP (ci := 11) (q0 := 0) rfl rfl, fun U hU hW => ⟨rfl, mPre.of hP hK hU hW⟩⟩ rfl rfl hl.1 rfl (lv_room (Nat.le_of_ble_eq_true rfl)) dX12_readLine_2 ⟨Nat.le_of_ble_eq_true rfl, Nat.le_of_ble_eq_true rfl⟩) hS (fun q _ h => MA.le hS.1 q h) (MA.le hS.1) (fun r1 x t H locs ht hvm hw hB9 _ _ hS => ?_)
  have hP := mB.at ht hB9
  clear hB9 ht hvm
  obtain ⟨rfl, hw⟩ := hw
  have hP : va_P (dC, dI) vwCl (mw ar cy st sl) _ := hP
  rcases hw with ⟨rfl, hf2⟩ | ⟨rfl, hf3⟩
  · refine lv_if_eq (tgt := 13) hx hb dX12_readLine_5 (by decide) (fun cc => absurd cc (by decide)) (fun _ => ?_)
    refine lv_aload_n hx hb dX12_readLine_8 rfl (lv_at hl 0 rfl) ?_
    refine va_calli (va_runV (As := []) (rest := []) ⟨hx, hb, hml, hown, hts⟩ (f_readPlace l dC dI ar cy _ hN st sl B g m p c nm hG.1 (MBt.fr hB hF) hT hR (by omega)) (cwV 0 hts gX12_readLine_X12_readPlace rfl rfl rfl (by decide +kernel) ⟨Nat.le_of_ble_eq_true rfl, Nat.le_of_ble_eq_true rfl⟩) ⟨fun a U g mk q => ⟨q.1, mPre.blind q.2⟩, va_recv hK hP (ci := 11) (q0 := 0) rfl rfl, fun U hU hW => ⟨rfl, mPre.of hP hK hU hW⟩⟩ rfl rfl hl.1 rfl (lv_room (Nat.le_of_ble_eq_true rfl)) dX12_readLine_9 ⟨Nat.le_of_ble_eq_true rfl, Nat.le_of_ble_eq_true rfl⟩) hS (fun q _ h => MA.le hS.1 q h) (MA.le hS.1) (fun r4 x t H locs ht hvm hw hB9 _ _ hS => ?_)
    have hP := mB.at ht hB9
    clear hB9 ht hvm
    obtain ⟨st5, sl6⟩ := x
    obtain ⟨hG2, hF2, hw⟩ := hw
    dsimp only at hG2 hF2 hw
    have hP : va_P (dC, dI) vwCl (mw ar cy st5 sl6) _ := hP
    have hG : MG [1, 2, 3, 6, 7, 8, 9, 10, 11, 12, 13, 14, 15, 20, 21, 22] st st5 := hG.tr hG2 (by decide)
    have hFst5 : FM 4 st sl st5 sl6 := hF2
    have hF : FM 4 st sl st5 sl6 := hF.tr hFst5 (by omega) (by omega)
    clear hG2 hF2
    rcases hw with ⟨n7, n8, n9, rfl, hR, hT, hf10, hf11, hk12⟩ | ⟨n13, n14, rfl, hf15, hf16, hf17, hf18⟩
    · have hp9 := hT.2.2.2.2.2.2
      have hk1 := tkd_lt (B := B) (g := g) (m := m) (p := n9)
      have hk2 := tkx_le (B := B) (g := g) (m := m) (p := n9) hp9
      have hk3 := tka_le (B := B) (g := g) (m := m) (p := n9) hp9 hB.2.2.1
      have hk4 := tkv_lt (p := n9) hB hp9
      have hk5 := tkw_lt (B := B) (g := g) (m := m) (p := n9)
      exact W.zret (v := 1) hx hb hr rfl (fun t ht hW => ⟨⟨1, (st5, sl6), rfl, ⟨hG, hF, Or.inl (⟨n7, n8, n9, rfl, hR, hT, hf10, by unfold lAny; rw [if_pos hf2, hf11], by show st5 0 10 = st 0 10; rw [hk12]⟩)⟩, mB.of ht hP⟩, hS.F ht⟩) hS.2.2 dX12_readLine_12
    · exact W.zret (v := 0) hx hb hr rfl (fun t ht hW => ⟨⟨0, (st5, sl6), rfl, ⟨hG, hF, Or.inr (⟨n13, n14, rfl, by show st5 0 10 = _; rw [hf15], by show st5 0 11 = _; rw [hf16], by omega, by unfold lAny; rw [if_pos hf2, hf18]⟩)⟩, mB.of ht hP⟩, hS.F ht⟩) hS.2.2 dX12_readLine_12
  · refine lv_if_eq (tgt := 13) hx hb dX12_readLine_5 (by decide) (fun _ => ?_) (fun cc => absurd (by decide) cc)
    refine lv_aload_n hx hb dX12_readLine_13 rfl (lv_at hl 0 rfl) ?_
    refine lv_iconst (v := 2) hx hb dX12_readLine_14 (by decide) ?_
    refine va_calli (va_runV (As := [.int 2]) (rest := []) ⟨hx, hb, hml, hown, hts⟩ (f_isWord2 l dC dI ar cy _ hN st sl B g m p hG.1 (MBt.fr hB hF) hT) (cwV 1 hts gX12_readLine_X12_isWord rfl rfl rfl (by decide +kernel) ⟨Nat.le_of_ble_eq_true rfl, Nat.le_of_ble_eq_true rfl⟩) ⟨fun a U g mk q => ⟨q.1, mPre.blind q.2⟩, va_recv hK hP (ci := 11) (q0 := 0) rfl rfl, fun U hU hW => ⟨rfl, mPre.of hP hK hU hW⟩⟩ rfl rfl hl.1 rfl (lv_room (Nat.le_of_ble_eq_true rfl)) dX12_readLine_15 ⟨Nat.le_of_ble_eq_true rfl, Nat.le_of_ble_eq_true rfl⟩) hS (fun q _ h => MA.le hS.1 q h) (MA.le hS.1) (fun r19 x t H locs ht hvm hw hB9 _ _ hS => ?_)
    have hP := mB.at ht hB9
    clear hB9 ht hvm
    obtain ⟨rfl, hw⟩ := hw
    have hP : va_P (dC, dI) vwCl (mw ar cy st sl) _ := hP
    rcases hw with ⟨rfl, hf20⟩ | ⟨rfl, hf21⟩
    · refine lv_if_eq (tgt := 26) hx hb dX12_readLine_18 (by decide) (fun cc => absurd cc (by decide)) (fun _ => ?_)
      refine lv_aload_n hx hb dX12_readLine_21 rfl (lv_at hl 0 rfl) ?_
      refine va_calli (va_runV (As := []) (rest := []) ⟨hx, hb, hml, hown, hts⟩ (f_readPerson l dC dI ar cy _ hN st sl B g m p c nm hG.1 (MBt.fr hB hF) hT hR (by omega)) (cwV 0 hts gX12_readLine_X12_readPerson rfl rfl rfl (by decide +kernel) ⟨Nat.le_of_ble_eq_true rfl, Nat.le_of_ble_eq_true rfl⟩) ⟨fun a U g mk q => ⟨q.1, mPre.blind q.2⟩, va_recv hK hP (ci := 11) (q0 := 0) rfl rfl, fun U hU hW => ⟨rfl, mPre.of hP hK hU hW⟩⟩ rfl rfl hl.1 rfl (lv_room (Nat.le_of_ble_eq_true rfl)) dX12_readLine_22 ⟨Nat.le_of_ble_eq_true rfl, Nat.le_of_ble_eq_true rfl⟩) hS (fun q _ h => MA.le hS.1 q h) (MA.le hS.1) (fun r22 x t H locs ht hvm hw hB9 _ _ hS => ?_)
      have hP := mB.at ht hB9
      clear hB9 ht hvm
      obtain ⟨st23, sl24⟩ := x
      obtain ⟨hG2, hF2, hw⟩ := hw
      dsimp only at hG2 hF2 hw
      have hP : va_P (dC, dI) vwCl (mw ar cy st23 sl24) _ := hP
      have hG : MG [1, 2, 3, 6, 7, 8, 9, 10, 11, 12, 13, 14, 15, 20, 21, 22] st st23 := hG.tr hG2 (by decide)
      have hFst23 : FM 4 st sl st23 sl24 := hF2
      have hF : FM 4 st sl st23 sl24 := hF.tr hFst23 (by omega) (by omega)
      clear hG2 hF2
      rcases hw with ⟨n25, n26, n27, rfl, hR, hT, hf28, hf29, hk30⟩ | ⟨n31, n32, rfl, hf33, hf34, hf35, hf36⟩
      · have hp9 := hT.2.2.2.2.2.2
        have hk1 := tkd_lt (B := B) (g := g) (m := m) (p := n27)
        have hk2 := tkx_le (B := B) (g := g) (m := m) (p := n27) hp9
        have hk3 := tka_le (B := B) (g := g) (m := m) (p := n27) hp9 hB.2.2.1
        have hk4 := tkv_lt (p := n27) hB hp9
        have hk5 := tkw_lt (B := B) (g := g) (m := m) (p := n27)
        exact W.zret (v := 1) hx hb hr rfl (fun t ht hW => ⟨⟨1, (st23, sl24), rfl, ⟨hG, hF, Or.inl (⟨n25, n26, n27, rfl, hR, hT, hf28, by unfold lAny; rw [if_neg hf3, if_pos hf20, hf29], by show st23 0 10 = st 0 10; rw [hk30]⟩)⟩, mB.of ht hP⟩, hS.F ht⟩) hS.2.2 dX12_readLine_25
      · exact W.zret (v := 0) hx hb hr rfl (fun t ht hW => ⟨⟨0, (st23, sl24), rfl, ⟨hG, hF, Or.inr (⟨n31, n32, rfl, by show st23 0 10 = _; rw [hf33], by show st23 0 11 = _; rw [hf34], by omega, by unfold lAny; rw [if_neg hf3, if_pos hf20, hf36]⟩)⟩, mB.of ht hP⟩, hS.F ht⟩) hS.2.2 dX12_readLine_25
    · refine lv_if_eq (tgt := 26) hx hb dX12_readLine_18 (by decide) (fun _ => ?_) (fun cc => absurd (by decide) cc)
      refine lv_aload_n hx hb dX12_readLine_26 rfl (lv_at hl 0 rfl) ?_
      refine lv_iconst (v := 3) hx hb dX12_readLine_27 (by decide) ?_
      refine va_calli (va_runV (As := [.int 3]) (rest := []) ⟨hx, hb, hml, hown, hts⟩ (f_isWord3 l dC dI ar cy _ hN st sl B g m p hG.1 (MBt.fr hB hF) hT) (cwV 1 hts gX12_readLine_X12_isWord rfl rfl rfl (by decide +kernel) ⟨Nat.le_of_ble_eq_true rfl, Nat.le_of_ble_eq_true rfl⟩) ⟨fun a U g mk q => ⟨q.1, mPre.blind q.2⟩, va_recv hK hP (ci := 11) (q0 := 0) rfl rfl, fun U hU hW => ⟨rfl, mPre.of hP hK hU hW⟩⟩ rfl rfl hl.1 rfl (lv_room (Nat.le_of_ble_eq_true rfl)) dX12_readLine_28 ⟨Nat.le_of_ble_eq_true rfl, Nat.le_of_ble_eq_true rfl⟩) hS (fun q _ h => MA.le hS.1 q h) (MA.le hS.1) (fun r37 x t H locs ht hvm hw hB9 _ _ hS => ?_)
      have hP := mB.at ht hB9
      clear hB9 ht hvm
      obtain ⟨rfl, hw⟩ := hw
      have hP : va_P (dC, dI) vwCl (mw ar cy st sl) _ := hP
      rcases hw with ⟨rfl, hf38⟩ | ⟨rfl, hf39⟩
      · refine lv_if_eq (tgt := 39) hx hb dX12_readLine_31 (by decide) (fun cc => absurd cc (by decide)) (fun _ => ?_)
        refine lv_aload_n hx hb dX12_readLine_34 rfl (lv_at hl 0 rfl) ?_
        refine va_calli (va_runV (As := []) (rest := []) ⟨hx, hb, hml, hown, hts⟩ (f_readDog l dC dI ar cy _ hN st sl B g m p c nm hG.1 (MBt.fr hB hF) hT hR (by omega)) (cwV 0 hts gX12_readLine_X12_readDog rfl rfl rfl (by decide +kernel) ⟨Nat.le_of_ble_eq_true rfl, Nat.le_of_ble_eq_true rfl⟩) ⟨fun a U g mk q => ⟨q.1, mPre.blind q.2⟩, va_recv hK hP (ci := 11) (q0 := 0) rfl rfl, fun U hU hW => ⟨rfl, mPre.of hP hK hU hW⟩⟩ rfl rfl hl.1 rfl (lv_room (Nat.le_of_ble_eq_true rfl)) dX12_readLine_35 ⟨Nat.le_of_ble_eq_true rfl, Nat.le_of_ble_eq_true rfl⟩) hS (fun q _ h => MA.le hS.1 q h) (MA.le hS.1) (fun r40 x t H locs ht hvm hw hB9 _ _ hS => ?_)
        have hP := mB.at ht hB9
        clear hB9 ht hvm
        obtain ⟨st41, sl42⟩ := x
        obtain ⟨hG2, hF2, hw⟩ := hw
        dsimp only at hG2 hF2 hw
        have hP : va_P (dC, dI) vwCl (mw ar cy st41 sl42) _ := hP
        have hG : MG [1, 2, 3, 6, 7, 8, 9, 10, 11, 12, 13, 14, 15, 20, 21, 22] st st41 := hG.tr hG2 (by decide)
        have hFst41 : FM 4 st sl st41 sl42 := hF2
        have hF : FM 4 st sl st41 sl42 := hF.tr hFst41 (by omega) (by omega)
        clear hG2 hF2
        rcases hw with ⟨n43, n44, n45, rfl, hR, hT, hf46, hf47, hk48⟩ | ⟨n49, n50, rfl, hf51, hf52, hf53, hf54⟩
        · have hp9 := hT.2.2.2.2.2.2
          have hk1 := tkd_lt (B := B) (g := g) (m := m) (p := n45)
          have hk2 := tkx_le (B := B) (g := g) (m := m) (p := n45) hp9
          have hk3 := tka_le (B := B) (g := g) (m := m) (p := n45) hp9 hB.2.2.1
          have hk4 := tkv_lt (p := n45) hB hp9
          have hk5 := tkw_lt (B := B) (g := g) (m := m) (p := n45)
          exact W.zret (v := 1) hx hb hr rfl (fun t ht hW => ⟨⟨1, (st41, sl42), rfl, ⟨hG, hF, Or.inl (⟨n43, n44, n45, rfl, hR, hT, hf46, by unfold lAny; rw [if_neg hf3, if_neg hf21, if_pos hf38, hf47], by show st41 0 10 = st 0 10; rw [hk48]⟩)⟩, mB.of ht hP⟩, hS.F ht⟩) hS.2.2 dX12_readLine_38
        · exact W.zret (v := 0) hx hb hr rfl (fun t ht hW => ⟨⟨0, (st41, sl42), rfl, ⟨hG, hF, Or.inr (⟨n49, n50, rfl, by show st41 0 10 = _; rw [hf51], by show st41 0 11 = _; rw [hf52], by omega, by unfold lAny; rw [if_neg hf3, if_neg hf21, if_pos hf38, hf54]⟩)⟩, mB.of ht hP⟩, hS.F ht⟩) hS.2.2 dX12_readLine_38
      · refine lv_if_eq (tgt := 39) hx hb dX12_readLine_31 (by decide) (fun _ => ?_) (fun cc => absurd (by decide) cc)
        refine lv_aload_n hx hb dX12_readLine_39 rfl (lv_at hl 0 rfl) ?_
        refine lv_iconst (v := 4) hx hb dX12_readLine_40 (by decide) ?_
        refine va_calli (va_runV (As := [.int 4]) (rest := []) ⟨hx, hb, hml, hown, hts⟩ (f_isWord4 l dC dI ar cy _ hN st sl B g m p hG.1 (MBt.fr hB hF) hT) (cwV 1 hts gX12_readLine_X12_isWord rfl rfl rfl (by decide +kernel) ⟨Nat.le_of_ble_eq_true rfl, Nat.le_of_ble_eq_true rfl⟩) ⟨fun a U g mk q => ⟨q.1, mPre.blind q.2⟩, va_recv hK hP (ci := 11) (q0 := 0) rfl rfl, fun U hU hW => ⟨rfl, mPre.of hP hK hU hW⟩⟩ rfl rfl hl.1 rfl (lv_room (Nat.le_of_ble_eq_true rfl)) dX12_readLine_41 ⟨Nat.le_of_ble_eq_true rfl, Nat.le_of_ble_eq_true rfl⟩) hS (fun q _ h => MA.le hS.1 q h) (MA.le hS.1) (fun r55 x t H locs ht hvm hw hB9 _ _ hS => ?_)
        have hP := mB.at ht hB9
        clear hB9 ht hvm
        obtain ⟨rfl, hw⟩ := hw
        have hP : va_P (dC, dI) vwCl (mw ar cy st sl) _ := hP
        rcases hw with ⟨rfl, hf56⟩ | ⟨rfl, hf57⟩
        · refine lv_if_eq (tgt := 52) hx hb dX12_readLine_44 (by decide) (fun cc => absurd cc (by decide)) (fun _ => ?_)
          refine lv_aload_n hx hb dX12_readLine_47 rfl (lv_at hl 0 rfl) ?_
          refine va_calli (va_runV (As := []) (rest := []) ⟨hx, hb, hml, hown, hts⟩ (f_readFree l dC dI ar cy _ hN st sl B g m p c nm hG.1 (MBt.fr hB hF) hT hR (by omega)) (cwV 0 hts gX12_readLine_X12_readFree rfl rfl rfl (by decide +kernel) ⟨Nat.le_of_ble_eq_true rfl, Nat.le_of_ble_eq_true rfl⟩) ⟨fun a U g mk q => ⟨q.1, mPre.blind q.2⟩, va_recv hK hP (ci := 11) (q0 := 0) rfl rfl, fun U hU hW => ⟨rfl, mPre.of hP hK hU hW⟩⟩ rfl rfl hl.1 rfl (lv_room (Nat.le_of_ble_eq_true rfl)) dX12_readLine_48 ⟨Nat.le_of_ble_eq_true rfl, Nat.le_of_ble_eq_true rfl⟩) hS (fun q _ h => MA.le hS.1 q h) (MA.le hS.1) (fun r58 x t H locs ht hvm hw hB9 _ _ hS => ?_)
          have hP := mB.at ht hB9
          clear hB9 ht hvm
          obtain ⟨st59, sl60⟩ := x
          obtain ⟨hG2, hF2, hw⟩ := hw
          dsimp only at hG2 hF2 hw
          have hP : va_P (dC, dI) vwCl (mw ar cy st59 sl60) _ := hP
          have hG : MG [1, 2, 3, 6, 7, 8, 9, 10, 11, 12, 13, 14, 15, 20, 21, 22] st st59 := hG.tr hG2 (by decide)
          have hFst59 : FM 4 st sl st59 sl60 := hF2
          have hF : FM 4 st sl st59 sl60 := hF.tr hFst59 (by omega) (by omega)
          clear hG2 hF2
          rcases hw with ⟨n61, n62, n63, rfl, hR, hT, hf64, hf65, hk66⟩ | ⟨n67, n68, rfl, hf69, hf70, hf71, hf72⟩
          · have hp9 := hT.2.2.2.2.2.2
            have hk1 := tkd_lt (B := B) (g := g) (m := m) (p := n63)
            have hk2 := tkx_le (B := B) (g := g) (m := m) (p := n63) hp9
            have hk3 := tka_le (B := B) (g := g) (m := m) (p := n63) hp9 hB.2.2.1
            have hk4 := tkv_lt (p := n63) hB hp9
            have hk5 := tkw_lt (B := B) (g := g) (m := m) (p := n63)
            exact W.zret (v := 1) hx hb hr rfl (fun t ht hW => ⟨⟨1, (st59, sl60), rfl, ⟨hG, hF, Or.inl (⟨n61, n62, n63, rfl, hR, hT, hf64, by unfold lAny; rw [if_neg hf3, if_neg hf21, if_neg hf39, if_pos hf56, hf65], by show st59 0 10 = st 0 10; rw [hk66]⟩)⟩, mB.of ht hP⟩, hS.F ht⟩) hS.2.2 dX12_readLine_51
          · exact W.zret (v := 0) hx hb hr rfl (fun t ht hW => ⟨⟨0, (st59, sl60), rfl, ⟨hG, hF, Or.inr (⟨n67, n68, rfl, by show st59 0 10 = _; rw [hf69], by show st59 0 11 = _; rw [hf70], by omega, by unfold lAny; rw [if_neg hf3, if_neg hf21, if_neg hf39, if_pos hf56, hf72]⟩)⟩, mB.of ht hP⟩, hS.F ht⟩) hS.2.2 dX12_readLine_51
        · refine lv_if_eq (tgt := 52) hx hb dX12_readLine_44 (by decide) (fun _ => ?_) (fun cc => absurd (by decide) cc)
          refine lv_aload_n hx hb dX12_readLine_52 rfl (lv_at hl 0 rfl) ?_
          refine lv_iconst (v := 5) hx hb dX12_readLine_53 (by decide) ?_
          refine va_calli (va_runV (As := [.int 5]) (rest := []) ⟨hx, hb, hml, hown, hts⟩ (f_isWord5 l dC dI ar cy _ hN st sl B g m p hG.1 (MBt.fr hB hF) hT) (cwV 1 hts gX12_readLine_X12_isWord rfl rfl rfl (by decide +kernel) ⟨Nat.le_of_ble_eq_true rfl, Nat.le_of_ble_eq_true rfl⟩) ⟨fun a U g mk q => ⟨q.1, mPre.blind q.2⟩, va_recv hK hP (ci := 11) (q0 := 0) rfl rfl, fun U hU hW => ⟨rfl, mPre.of hP hK hU hW⟩⟩ rfl rfl hl.1 rfl (lv_room (Nat.le_of_ble_eq_true rfl)) dX12_readLine_54 ⟨Nat.le_of_ble_eq_true rfl, Nat.le_of_ble_eq_true rfl⟩) hS (fun q _ h => MA.le hS.1 q h) (MA.le hS.1) (fun r73 x t H locs ht hvm hw hB9 _ _ hS => ?_)
          have hP := mB.at ht hB9
          clear hB9 ht hvm
          obtain ⟨rfl, hw⟩ := hw
          have hP : va_P (dC, dI) vwCl (mw ar cy st sl) _ := hP
          rcases hw with ⟨rfl, hf74⟩ | ⟨rfl, hf75⟩
          · refine lv_if_ne (tgt := 66) hx hb dX12_readLine_57 (by decide) (fun _ => ?_) (fun cc => absurd cc (by decide))
            refine lv_aload_n hx hb dX12_readLine_66 rfl (lv_at hl 0 rfl) ?_
            refine va_get (D := (dC, dI)) (ci := 11) (v := .int (st 0 24)) (C := RX12) (T := TX12) (N := 47) hx hb hts ii_X12_readLine hown hK hP 0 rfl rfl 24 (by decide) (hts _ mm_X12_readLine_1) (fun _ hh => hh) rfl dX12_readLine_67 ?_
            refine zz_top (v := (nI (c 4))) (by show st 0 24 = _; rw [hR.2.2.2.2.1]) ?_
            refine lv_if_eq (tgt := 79) hx hb dX12_readLine_70 (by decide) (fun c10 => ?_) (fun c10 => ?_)
            · have c10 : (c 4) = 0 := (nI_eq (a := (c 4)) (b := 0) (by omega) (by omega)).mp c10
              refine lv_aload_n hx hb dX12_readLine_79 rfl (lv_at hl 0 rfl) ?_
              refine lv_iconst (v := 1) hx hb dX12_readLine_80 (by decide) ?_
              refine va_put (D := (dC, dI)) (ci := 11) (v := .int 1) (ty := .boolean) (C := RX12) (T := TX12) (N := 47) hx hb hts ii_X12_readLine tyX12 tyX12_ok nmX12 hown hK hP (mD hN _ _ _ _) hS 0 rfl rfl 24 (by decide) (hts _ mm_X12_readLine_1) (fun _ hh => hh) rfl (by decide +kernel) rfl rfl (Nat.le_of_ble_eq_true rfl) dX12_readLine_81 (fun H locs hP _ hS => ?_)
              have hP : va_P (dC, dI) vwCl (mw ar cy (up2 st 0 24 1) sl) H := hP
              obtain ⟨st76, est76⟩ : ∃ y, y = up2 st 0 24 1 := ⟨_, rfl⟩
              have hG : MG [1, 2, 3, 6, 7, 8, 9, 10, 11, 12, 13, 14, 15, 20, 21, 22] st st76 := by rw [est76]; exact hG.up (rz (by decide : mr 0 24 = 0)) (pn (by decide : pcl 0 24 = 0) (by decide))
              rw [← est76] at hP
              have hF : FM 4 st sl st76 sl := by rw [est76]; exact hF.up (by decide)
              have hT : TM B g m p st76 sl := by rw [est76]; exact hT.up (by omega)
              have hR : RT (uN c 4 1) nm st76 sl := by rw [est76]; exact hR.sgn
              refine lv_aload_n hx hb dX12_readLine_84 rfl (lv_at hl 0 rfl) ?_
              refine va_callv (va_runV (As := []) (rest := []) ⟨hx, hb, hml, hown, hts⟩ (f_go l dC dI ar cy _ hN st76 sl B g m (tkx B g m p) hG.1 (MBt.fr hB hF) hT.1 hk2.2) (cwV 0 hts gX12_readLine_X12_go rfl rfl rfl (by decide +kernel) ⟨Nat.le_of_ble_eq_true rfl, Nat.le_of_ble_eq_true rfl⟩) ⟨fun a U g mk q => ⟨q.1, mPre.blind q.2⟩, va_recv hK hP (ci := 11) (q0 := 0) rfl rfl, fun U hU hW => ⟨rfl, mPre.of hP hK hU hW⟩⟩ rfl rfl hl.1 rfl (lv_room (Nat.le_of_ble_eq_true rfl)) dX12_readLine_85 ⟨Nat.le_of_ble_eq_true rfl, Nat.le_of_ble_eq_true rfl⟩) hS (fun q _ h => MA.le hS.1 q h) (MA.le hS.1) (fun x t H locs ht hvm hw hB9 _ _ hS => ?_)
              have hP := mB.at ht hB9
              clear hB9 ht hvm
              obtain ⟨st78, sl79⟩ := x
              obtain ⟨hG2, hF2, hw⟩ := hw
              dsimp only at hG2 hF2 hw
              have hP : va_P (dC, dI) vwCl (mw ar cy st78 sl79) _ := hP
              have hG : MG [1, 2, 3, 6, 7, 8, 9, 10, 11, 12, 13, 14, 15, 20, 21, 22] st st78 := hG.tr hG2 (by decide)
              have hFst78 : FM 1 st76 sl st78 sl79 := hF2
              have hF : FM 4 st sl st78 sl79 := hF.tr hFst78 (by omega) (by omega)
              clear hG2 hF2
              have hR : RT (uN c 4 1) nm st78 sl79 := hR.fr hFst78 (by omega)
              have hT := hw
              have hp9 := hT.2.2.2.2.2.2
              have hk1 := tkd_lt (B := B) (g := g) (m := m) (p := (tkx B g m p))
              have hk2 := tkx_le (B := B) (g := g) (m := m) (p := (tkx B g m p)) hp9
              have hk3 := tka_le (B := B) (g := g) (m := m) (p := (tkx B g m p)) hp9 hB.2.2.1
              have hk4 := tkv_lt (p := (tkx B g m p)) hB hp9
              have hk5 := tkw_lt (B := B) (g := g) (m := m) (p := (tkx B g m p))
              refine lv_aload_n hx hb dX12_readLine_88 rfl (lv_at hl 0 rfl) ?_
              refine lv_bipush (v := 60) hx hb dX12_readLine_89 (by decide) ?_
              refine lv_aload_n hx hb dX12_readLine_91 rfl (lv_at hl 0 rfl) ?_
              refine lv_iconst (v := 0) hx hb dX12_readLine_92 (by decide) ?_
              refine lv_bipush (v := 12) hx hb dX12_readLine_93 (by decide) ?_
              refine va_calli (va_runV (As := [.int 0, .int 12]) (rest := [.int 60, .ref (ar 0)]) ⟨hx, hb, hml, hown, hts⟩ (f_readNumber l dC dI ar cy _ hN st78 sl79 0 12 B g m (tkx B g m p) (by omega) (by omega) hG.1 (MBt.fr hB hF) hT) (cwV 2 hts gX12_readLine_X12_readNumber rfl rfl rfl (by decide +kernel) ⟨Nat.le_of_ble_eq_true rfl, Nat.le_of_ble_eq_true rfl⟩) ⟨fun a U g mk q => ⟨q.1, mPre.blind q.2⟩, va_recv hK hP (ci := 11) (q0 := 0) rfl rfl, fun U hU hW => ⟨rfl, mPre.of hP hK hU hW⟩⟩ rfl rfl hl.1 rfl (lv_room (Nat.le_of_ble_eq_true rfl)) dX12_readLine_95 ⟨Nat.le_of_ble_eq_true rfl, Nat.le_of_ble_eq_true rfl⟩) hS (fun q _ h => MA.le hS.1 q h) (MA.le hS.1) (fun r80 x t H locs ht hvm hw hB9 _ _ hS => ?_)
              have hP := mB.at ht hB9
              clear hB9 ht hvm
              obtain ⟨st81, sl82⟩ := x
              obtain ⟨hG2, hF2, hw⟩ := hw
              dsimp only at hG2 hF2 hw
              have hP : va_P (dC, dI) vwCl (mw ar cy st81 sl82) _ := hP
              have hG : MG [1, 2, 3, 6, 7, 8, 9, 10, 11, 12, 13, 14, 15, 20, 21, 22] st st81 := hG.tr hG2 (by decide)
              have hFst81 : FM 2 st78 sl79 st81 sl82 := hF2
              have hF : FM 4 st sl st81 sl82 := hF.tr hFst81 (by omega) (by omega)
              clear hG2 hF2
              have hR : RT (uN c 4 1) nm st81 sl82 := hR.fr hFst81 (by omega)
              rcases hw with ⟨rfl, hf83, hf84, hf85, hf86, hT, hf87, hk88⟩ | ⟨n89, n90, rfl, hf91, hf92, hf93, hf94⟩
              · have hp9 := hT.2.2.2.2.2.2
                have hk1 := tkd_lt (B := B) (g := g) (m := m) (p := (tkx B g m (tkx B g m p)))
                have hk2 := tkx_le (B := B) (g := g) (m := m) (p := (tkx B g m (tkx B g m p))) hp9
                have hk3 := tka_le (B := B) (g := g) (m := m) (p := (tkx B g m (tkx B g m p))) hp9 hB.2.2.1
                have hk4 := tkv_lt (p := (tkx B g m (tkx B g m p))) hB hp9
                have hk5 := tkw_lt (B := B) (g := g) (m := m) (p := (tkx B g m (tkx B g m p)))
                refine va_calli (va_runV (As := [.int 60, .int 1]) (rest := []) ⟨hx, hb, hml, hown, hts⟩ (f_put60 l dC dI ar cy _ hN st81 sl82 60 B g m (tkx B g m (tkx B g m p)) (uN c 4 1) nm (tkv B g (tkx B g m p)) (by omega) (by omega) hG.1 (MBt.fr hB hF) hT hR (by rw [hf86]) (by omega)) (cwV 2 hts gX12_readLine_X12_put rfl rfl rfl (by decide +kernel) ⟨Nat.le_of_ble_eq_true rfl, Nat.le_of_ble_eq_true rfl⟩) ⟨fun a U g mk q => ⟨q.1, mPre.blind q.2⟩, va_recv hK hP (ci := 11) (q0 := 0) rfl rfl, fun U hU hW => ⟨rfl, mPre.of hP hK hU hW⟩⟩ rfl rfl hl.1 rfl (lv_room (Nat.le_of_ble_eq_true rfl)) dX12_readLine_98 ⟨Nat.le_of_ble_eq_true rfl, Nat.le_of_ble_eq_true rfl⟩) hS (fun q _ h => MA.le hS.1 q h) (MA.le hS.1) (fun r95 x t H locs ht hvm hw hB9 _ _ hS => ?_)
                have hP := mB.at ht hB9
                clear hB9 ht hvm
                obtain ⟨st96, sl97⟩ := x
                obtain ⟨hG2, hF2, hw⟩ := hw
                dsimp only at hG2 hF2 hw
                have hP : va_P (dC, dI) vwCl (mw ar cy st96 sl97) _ := hP
                have hG : MG [1, 2, 3, 6, 7, 8, 9, 10, 11, 12, 13, 14, 15, 20, 21, 22] st st96 := hG.tr hG2 (by decide)
                have hFst96 : FM 4 st81 sl82 st96 sl97 := hF2
                have hF : FM 4 st sl st96 sl97 := hF.tr hFst96 (by omega) (by omega)
                clear hG2 hF2
                obtain ⟨rfl, hf98, hf99, hR, hT, hk100⟩ := hw
                have hp9 := hT.2.2.2.2.2.2
                have hk1 := tkd_lt (B := B) (g := g) (m := m) (p := (tkx B g m (tkx B g m p)))
                have hk2 := tkx_le (B := B) (g := g) (m := m) (p := (tkx B g m (tkx B g m p))) hp9
                have hk3 := tka_le (B := B) (g := g) (m := m) (p := (tkx B g m (tkx B g m p))) hp9 hB.2.2.1
                have hk4 := tkv_lt (p := (tkx B g m (tkx B g m p))) hB hp9
                have hk5 := tkw_lt (B := B) (g := g) (m := m) (p := (tkx B g m (tkx B g m p)))
                exact W.zret (v := 1) hx hb hr rfl (fun t ht hW => ⟨⟨1, (st96, sl97), rfl, ⟨hG, hF, Or.inl (⟨(uN c 4 1), nm, (tkx B g m (tkx B g m p)), rfl, hR, hT, uN_sum (a := 4) (by decide) (by omega), by unfold lAny; rw [if_neg hf3, if_neg hf21, if_neg hf39, if_neg hf57, if_pos hf74]; unfold lSign; rw [if_neg (by omega), hf87], by show st96 0 10 = st 0 10; rw [hk100, hk88, (hFst78 0 10 (by decide)).1, est76, up2_ne (r := 0) (k := 24) (a := 0) (j := 10) _ _ (by omega)]⟩)⟩, mB.of ht hP⟩, hS.F ht⟩) hS.2.2 dX12_readLine_101
              · refine va_calli (va_runV (As := [.int 60, .int 0]) (rest := []) ⟨hx, hb, hml, hown, hts⟩ (f_putF l dC dI ar cy _ hN st81 sl82 60 (by omega) hG.1 ) (cwV 2 hts gX12_readLine_X12_put rfl rfl rfl (by decide +kernel) ⟨Nat.le_of_ble_eq_true rfl, Nat.le_of_ble_eq_true rfl⟩) ⟨fun a U g mk q => ⟨q.1, mPre.blind q.2⟩, va_recv hK hP (ci := 11) (q0 := 0) rfl rfl, fun U hU hW => ⟨rfl, mPre.of hP hK hU hW⟩⟩ rfl rfl hl.1 rfl (lv_room (Nat.le_of_ble_eq_true rfl)) dX12_readLine_98 ⟨Nat.le_of_ble_eq_true rfl, Nat.le_of_ble_eq_true rfl⟩) hS (fun q _ h => MA.le hS.1 q h) (MA.le hS.1) (fun r101 x t H locs ht hvm hw hB9 _ _ hS => ?_)
                have hP := mB.at ht hB9
                clear hB9 ht hvm
                obtain ⟨rfl, hw⟩ := hw
                have hP : va_P (dC, dI) vwCl (mw ar cy st81 sl82) _ := hP
                obtain rfl := hw
                exact W.zret (v := 0) hx hb hr rfl (fun t ht hW => ⟨⟨0, (st81, sl82), rfl, ⟨hG, hF, Or.inr (⟨n89, n90, rfl, by show st81 0 10 = _; rw [hf91], by show st81 0 11 = _; rw [hf92], by omega, by unfold lAny; rw [if_neg hf3, if_neg hf21, if_neg hf39, if_neg hf57, if_pos hf74]; unfold lSign; rw [if_neg (by omega), hf94]⟩)⟩, mB.of ht hP⟩, hS.F ht⟩) hS.2.2 dX12_readLine_101
            · have c10 : ¬ (c 4) = 0 := fun hh => c10 ((nI_eq (a := (c 4)) (b := 0) (by omega) (by omega)).mpr hh)
              refine lv_aload_n hx hb dX12_readLine_73 rfl (lv_at hl 0 rfl) ?_
              refine lv_iconst (v := 3) hx hb dX12_readLine_74 (by decide) ?_
              refine va_calli (va_runV (As := [.int 3]) (rest := []) ⟨hx, hb, hml, hown, hts⟩ (f_bad l dC dI ar cy _ hN st sl 3 B g m p (by omega) hG.1 (MBt.fr hB hF) hT) (cwV 1 hts gX12_readLine_X12_bad rfl rfl rfl (by decide +kernel) ⟨Nat.le_of_ble_eq_true rfl, Nat.le_of_ble_eq_true rfl⟩) ⟨fun a U g mk q => ⟨q.1, mPre.blind q.2⟩, va_recv hK hP (ci := 11) (q0 := 0) rfl rfl, fun U hU hW => ⟨rfl, mPre.of hP hK hU hW⟩⟩ rfl rfl hl.1 rfl (lv_room (Nat.le_of_ble_eq_true rfl)) dX12_readLine_75 ⟨Nat.le_of_ble_eq_true rfl, Nat.le_of_ble_eq_true rfl⟩) hS (fun q _ h => MA.le hS.1 q h) (MA.le hS.1) (fun r102 x t H locs ht hvm hw hB9 _ _ hS => ?_)
              have hP := mB.at ht hB9
              clear hB9 ht hvm
              obtain ⟨st103, sl104⟩ := x
              obtain ⟨hG2, hF2, hw⟩ := hw
              dsimp only at hG2 hF2 hw
              have hP : va_P (dC, dI) vwCl (mw ar cy st103 sl104) _ := hP
              have hG : MG [1, 2, 3, 6, 7, 8, 9, 10, 11, 12, 13, 14, 15, 20, 21, 22] st st103 := hG.tr hG2 (by decide)
              have hFst103 : FM 2 st sl st103 sl104 := hF2
              have hF : FM 4 st sl st103 sl104 := hF.tr hFst103 (by omega) (by omega)
              clear hG2 hF2
              have hR : RT c nm st103 sl104 := hR.fr hFst103 (by omega)
              obtain ⟨rfl, hf105, hf106, hT⟩ := hw
              have hp9 := hT.2.2.2.2.2.2
              have hk1 := tkd_lt (B := B) (g := g) (m := m) (p := p)
              have hk2 := tkx_le (B := B) (g := g) (m := m) (p := p) hp9
              have hk3 := tka_le (B := B) (g := g) (m := m) (p := p) hp9 hB.2.2.1
              have hk4 := tkv_lt (p := p) hB hp9
              have hk5 := tkw_lt (B := B) (g := g) (m := m) (p := p)
              exact W.zret (v := 0) hx hb hr rfl (fun t ht hW => ⟨⟨0, (st103, sl104), rfl, ⟨hG, hF, Or.inr (⟨3, (tka B g m p), rfl, by show st103 0 10 = _; rw [hf105, bdk_n (by have h9 := @tkw_d B g m p; omega)], by show st103 0 11 = _; rw [hf106], by omega, by unfold lAny; rw [if_neg hf3, if_neg hf21, if_neg hf39, if_neg hf57, if_pos hf74]; unfold lSign; rw [if_pos (by omega)]⟩)⟩, mB.of ht hP⟩, hS.F ht⟩) hS.2.2 dX12_readLine_78
          · refine lv_if_ne (tgt := 66) hx hb dX12_readLine_57 (by decide) (fun cc => absurd (by decide) cc) (fun _ => ?_)
            refine lv_aload_n hx hb dX12_readLine_60 rfl (lv_at hl 0 rfl) ?_
            refine lv_iconst (v := 1) hx hb dX12_readLine_61 (by decide) ?_
            refine va_calli (va_runV (As := [.int 1]) (rest := []) ⟨hx, hb, hml, hown, hts⟩ (f_bad l dC dI ar cy _ hN st sl 1 B g m p (by omega) hG.1 (MBt.fr hB hF) hT) (cwV 1 hts gX12_readLine_X12_bad rfl rfl rfl (by decide +kernel) ⟨Nat.le_of_ble_eq_true rfl, Nat.le_of_ble_eq_true rfl⟩) ⟨fun a U g mk q => ⟨q.1, mPre.blind q.2⟩, va_recv hK hP (ci := 11) (q0 := 0) rfl rfl, fun U hU hW => ⟨rfl, mPre.of hP hK hU hW⟩⟩ rfl rfl hl.1 rfl (lv_room (Nat.le_of_ble_eq_true rfl)) dX12_readLine_62 ⟨Nat.le_of_ble_eq_true rfl, Nat.le_of_ble_eq_true rfl⟩) hS (fun q _ h => MA.le hS.1 q h) (MA.le hS.1) (fun r107 x t H locs ht hvm hw hB9 _ _ hS => ?_)
            have hP := mB.at ht hB9
            clear hB9 ht hvm
            obtain ⟨st108, sl109⟩ := x
            obtain ⟨hG2, hF2, hw⟩ := hw
            dsimp only at hG2 hF2 hw
            have hP : va_P (dC, dI) vwCl (mw ar cy st108 sl109) _ := hP
            have hG : MG [1, 2, 3, 6, 7, 8, 9, 10, 11, 12, 13, 14, 15, 20, 21, 22] st st108 := hG.tr hG2 (by decide)
            have hFst108 : FM 2 st sl st108 sl109 := hF2
            have hF : FM 4 st sl st108 sl109 := hF.tr hFst108 (by omega) (by omega)
            clear hG2 hF2
            have hR : RT c nm st108 sl109 := hR.fr hFst108 (by omega)
            obtain ⟨rfl, hf110, hf111, hT⟩ := hw
            have hp9 := hT.2.2.2.2.2.2
            have hk1 := tkd_lt (B := B) (g := g) (m := m) (p := p)
            have hk2 := tkx_le (B := B) (g := g) (m := m) (p := p) hp9
            have hk3 := tka_le (B := B) (g := g) (m := m) (p := p) hp9 hB.2.2.1
            have hk4 := tkv_lt (p := p) hB hp9
            have hk5 := tkw_lt (B := B) (g := g) (m := m) (p := p)
            exact W.zret (v := 0) hx hb hr rfl (fun t ht hW => ⟨⟨0, (st108, sl109), rfl, ⟨hG, hF, Or.inr (⟨1, (tka B g m p), rfl, by show st108 0 10 = _; rw [hf110, bdk_1], by show st108 0 11 = _; rw [hf111], by omega, by unfold lAny; rw [if_neg hf3, if_neg hf21, if_neg hf39, if_neg hf57, if_neg hf75]⟩)⟩, mB.of ht hP⟩, hS.F ht⟩) hS.2.2 dX12_readLine_65
set_option maxHeartbeats 4000000 in
set_option maxRecDepth 100000 in
theorem f_take (l : Launch) (dC : Nat → ClassId) (dI : Nat → Nat → Nat) (ar : Nat → Nat) (cy : Nat → ClassId) (sz : Nat) (hN : MN ar) (st : Nat → Nat → Int32) (sl : Nat → Nat → Int64) (gt : Nat) (hI : MI st) (hgt : st 0 2 = nI gt) (hgt2 : gt < 941) : Met l yX12_take wsX12_take ({ frames := 0, cells := 0, slots := 0, locals := 0 }) (va_Pc [.ref (ar 0)] (mPre dC dI ar cy sz st sl)) (va_Qi (fun (r : Int32) (x : MT) => MG [2, 3, 4, 5, 6, 7, 8, 9, 10, 11, 12, 13, 14, 15, 16, 17, 19, 20, 21, 22, 23] st x.1 ∧ (∃ n : Nat, r = nI n ∧ n = gt ∧ x.1 = up2 st 0 2 0 ∧ x.2 = sl)) (mB dC dI ar cy) (MA ar sz)) 0 0 (MA ar sz) := by
  refine Met.ofW (cc := cX12_take) (maxL := 2) (ret := (some .int)) (by decide) rfl ?_
  intro p9 e s m9 args below meth c9 s₁ B9 hml hv
  obtain ⟨rfl, hsz, hP, hK⟩ := hv
  have hx := B9.exec
  have hb := B9.bytes
  have hr := B9.returns
  have hts := atoms_spec (ws := wsX12_take) B9.pre
  have hown : s.vm.findClass RX12 = some m9.cls := findClass_of_methodNamed B9.named
  subst hsz
  have hS : va_S (MA ar s.heap.size) s.heap s.heap [] := va_S.rf
  have hG : MG [2, 3, 4, 5, 6, 7, 8, 9, 10, 11, 12, 13, 14, 15, 16, 17, 19, 20, 21, 22, 23] st st := MG.rf hI
  have hl := lv_entry ([.ref (ar 0)]) (n := 2) (Nat.le_of_ble_eq_true rfl)
  rw [lg_entry_eq]
  generalize (lg_sl ([.ref (ar 0)]) ++ List.replicate (2 - (lg_sl ([.ref (ar 0)])).length) Slot.unset).toArray = ls at hl ⊢
  have hl : lv_has ls 2 [(0, .ref (ar 0))] := hl
  clear hI
  refine lv_aload_n hx hb dX12_take_0 rfl (lv_at hl 0 rfl) ?_
  refine va_get (D := (dC, dI)) (ci := 11) (v := .int (st 0 2)) (C := RX12) (T := TX12) (N := 47) hx hb hts ii_X12_take hown hK hP 0 rfl rfl 2 (by decide) (hts _ mm_X12_take_1) (fun _ hh => hh) rfl dX12_take_1 ?_
  refine zz_top (v := (nI gt)) (by show st 0 2 = _; rw [hgt]) ?_
  refine lv_istore_n (lv' := [(1, .int (nI gt)), (0, .ref (ar 0))]) hx hb dX12_take_4 rfl hl (by decide) rfl (fun ls hl => ?_)
  refine lv_aload_n hx hb dX12_take_5 rfl (lv_at hl 1 rfl) ?_
  refine lv_iconst (v := 0) hx hb dX12_take_6 (by decide) ?_
  refine va_put (D := (dC, dI)) (ci := 11) (v := .int 0) (ty := .int) (C := RX12) (T := TX12) (N := 47) hx hb hts ii_X12_take tyX12 tyX12_ok nmX12 hown hK hP (mD hN _ _ _ _) hS 0 rfl rfl 2 (by decide) (hts _ mm_X12_take_1) (fun _ hh => hh) rfl (by decide +kernel) rfl rfl (Nat.le_of_ble_eq_true rfl) dX12_take_7 (fun H locs hP _ hS => ?_)
  have hP : va_P (dC, dI) vwCl (mw ar cy (up2 st 0 2 0) sl) H := hP
  obtain ⟨st1, est1⟩ : ∃ y, y = up2 st 0 2 0 := ⟨_, rfl⟩
  have hG : MG [2, 3, 4, 5, 6, 7, 8, 9, 10, 11, 12, 13, 14, 15, 16, 17, 19, 20, 21, 22, 23] st st1 := by rw [est1]; exact hG.up (r0) (pn (by decide : pcl 0 2 = 1) (by decide))
  rw [← est1] at hP
  refine lv_iload_n hx hb dX12_take_10 rfl (lv_at hl 0 rfl) ?_
  exact W.iret (v := (nI gt)) hx hb hr (fun t ht hW => ⟨⟨(nI gt), (st1, sl), rfl, ⟨hG, ⟨gt, rfl, by omega, est1, rfl⟩⟩, mB.of ht hP⟩, hS.F ht⟩) hS.2.2 dX12_take_11
set_option maxHeartbeats 4000000 in
set_option maxRecDepth 100000 in
theorem f_begin (l : Launch) (dC : Nat → ClassId) (dI : Nat → Nat → Nat) (ar : Nat → Nat) (cy : Nat → ClassId) (sz : Nat) (hN : MN ar) (st : Nat → Nat → Int32) (sl : Nat → Nat → Int64) (B : Nat → Nat) (g : Nat) (hI : MI st) (ht : st 0 2 = nI g) (hg : g < 941) (hbt : ∀ j, j < g → st 1 j = nI (B j) ∧ B j < 256) : Met l yX12_begin wsX12_begin ({ frames := 2, cells := 0, slots := 0, locals := 45 }) (va_Pc [.ref (ar 0), .int 900] (mPre dC dI ar cy sz st sl)) (va_Qv (fun (x : MT) => MG [2, 6, 7, 8, 9, 10, 11, 12, 13, 14, 15, 20, 21, 22] st x.1 ∧ (MBt B g 900 x.1 ∧ TM B g 900 0 x.1 x.2 ∧ x.1 0 10 = 0 ∧ x.1 0 2 = 0 ∧ LQ [7, 9] sl x.2)) (mB dC dI ar cy) (MA ar sz)) 0 0 (MA ar sz) := by
  refine Met.ofW (cc := cX12_begin) (maxL := 2) (ret := none) (by decide) rfl ?_
  intro p9 e s m9 args below meth c9 s₁ B9 hml hv
  obtain ⟨rfl, hsz, hP, hK⟩ := hv
  have hx := B9.exec
  have hb := B9.bytes
  have hr := B9.returns
  have hts := atoms_spec (ws := wsX12_begin) B9.pre
  have hown : s.vm.findClass RX12 = some m9.cls := findClass_of_methodNamed B9.named
  subst hsz
  have hS : va_S (MA ar s.heap.size) s.heap s.heap [] := va_S.rf
  have hG : MG [2, 6, 7, 8, 9, 10, 11, 12, 13, 14, 15, 20, 21, 22] st st := MG.rf hI
  have hl := lv_entry ([.ref (ar 0), .int 900]) (n := 2) (Nat.le_of_ble_eq_true rfl)
  rw [lg_entry_eq]
  generalize (lg_sl ([.ref (ar 0), .int 900]) ++ List.replicate (2 - (lg_sl ([.ref (ar 0), .int 900])).length) Slot.unset).toArray = ls at hl ⊢
  have hl : lv_has ls 2 [(0, .ref (ar 0)), (1, .int 900)] := hl
  clear hI
  obtain ⟨m, hm⟩ : ∃ m : Nat, m = 900 := ⟨_, rfl⟩
  refine lv_aload_n hx hb dX12_begin_0 rfl (lv_at hl 0 rfl) ?_
  refine lv_iconst (v := 0) hx hb dX12_begin_1 (by decide) ?_
  refine va_put (D := (dC, dI)) (ci := 11) (v := .int 0) (ty := .int) (C := RX12) (T := TX12) (N := 47) hx hb hts ii_X12_begin tyX12 tyX12_ok nmX12 hown hK hP (mD hN _ _ _ _) hS 0 rfl rfl 0 (by decide) (hts _ mm_X12_begin_1) (fun _ hh => hh) rfl (by decide +kernel) rfl rfl (Nat.le_of_ble_eq_true rfl) dX12_begin_2 (fun H locs hP _ hS => ?_)
  have hP : va_P (dC, dI) vwCl (mw ar cy (up2 st 0 0 0) sl) H := hP
  obtain ⟨st1, est1⟩ : ∃ y, y = up2 st 0 0 0 := ⟨_, rfl⟩
  have hG : MG [2, 6, 7, 8, 9, 10, 11, 12, 13, 14, 15, 20, 21, 22] st st1 := by rw [est1]; exact hG.up (rz (by decide : mr 0 0 = 0)) (pn (by decide : pcl 0 0 = 0) (by decide))
  rw [← est1] at hP
  refine lv_aload_n hx hb dX12_begin_5 rfl (lv_at hl 0 rfl) ?_
  refine lv_aload_n hx hb dX12_begin_6 rfl (lv_at hl 0 rfl) ?_
  refine va_calli (va_runV (As := []) (rest := [.ref (ar 0)]) ⟨hx, hb, hml, hown, hts⟩ (f_take l dC dI ar cy _ hN st1 sl g hG.1 (by show st1 0 2 = _; rw [est1, up2_ne (r := 0) (k := 0) (a := 0) (j := 2) _ _ (by omega), ht]) (hg)) (cwV 0 hts gX12_begin_X12_take rfl rfl rfl (by decide +kernel) ⟨Nat.le_of_ble_eq_true rfl, Nat.le_of_ble_eq_true rfl⟩) ⟨fun a U g mk q => ⟨q.1, mPre.blind q.2⟩, va_recv hK hP (ci := 11) (q0 := 0) rfl rfl, fun U hU hW => ⟨rfl, mPre.of hP hK hU hW⟩⟩ rfl rfl hl.1 rfl (lv_room (Nat.le_of_ble_eq_true rfl)) dX12_begin_7 ⟨Nat.le_of_ble_eq_true rfl, Nat.le_of_ble_eq_true rfl⟩) hS (fun q _ h => MA.le hS.1 q h) (MA.le hS.1) (fun r2 x t H locs ht hvm hw hB9 _ _ hS => ?_)
  have hP := mB.at ht hB9
  clear hB9 ht hvm
  obtain ⟨st3, sl4⟩ := x
  obtain ⟨hG2, hw⟩ := hw
  dsimp only at hG2 hw
  have hP : va_P (dC, dI) vwCl (mw ar cy st3 sl4) _ := hP
  have hG : MG [2, 6, 7, 8, 9, 10, 11, 12, 13, 14, 15, 20, 21, 22] st st3 := hG.tr hG2 (by decide)
  have hMst3 : MG [2, 3, 4, 5, 6, 7, 8, 9, 10, 11, 12, 13, 14, 15, 16, 17, 19, 20, 21, 22, 23] st1 st3 := hG2
  clear hG2
  obtain ⟨n5, rfl, hf6, hf7, hf8⟩ := hw
  refine va_put (D := (dC, dI)) (ci := 11) (v := .int (nI n5)) (ty := .int) (C := RX12) (T := TX12) (N := 47) hx hb hts ii_X12_begin tyX12 tyX12_ok nmX12 hown hK hP (mD hN _ _ _ _) hS 0 rfl rfl 3 (by decide) (hts _ mm_X12_begin_2) (fun _ hh => hh) rfl (by decide +kernel) rfl rfl (Nat.le_of_ble_eq_true rfl) dX12_begin_10 (fun H locs hP _ hS => ?_)
  have hP : va_P (dC, dI) vwCl (mw ar cy (up2 st3 0 3 (nI n5)) sl4) H := hP
  obtain ⟨st9, est9⟩ : ∃ y, y = up2 st3 0 3 (nI n5) := ⟨_, rfl⟩
  have hG : MG [2, 6, 7, 8, 9, 10, 11, 12, 13, 14, 15, 20, 21, 22] st st9 := by rw [est9]; exact hG.up (rn (n := n5) (by decide : mr 0 3 = 941) (by omega)) (pn (by decide : pcl 0 3 = 3) (by decide))
  rw [← est9] at hP
  refine lv_aload_n hx hb dX12_begin_13 rfl (lv_at hl 0 rfl) ?_
  refine lv_iload_n hx hb dX12_begin_14 rfl (lv_at hl 1 rfl) ?_
  refine va_put (D := (dC, dI)) (ci := 11) (v := .int 900) (ty := .int) (C := RX12) (T := TX12) (N := 47) hx hb hts ii_X12_begin tyX12 tyX12_ok nmX12 hown hK hP (mD hN _ _ _ _) hS 0 rfl rfl 4 (by decide) (hts _ mm_X12_begin_3) (fun _ hh => hh) rfl (by decide +kernel) rfl rfl (Nat.le_of_ble_eq_true rfl) dX12_begin_15 (fun H locs hP _ hS => ?_)
  have hP : va_P (dC, dI) vwCl (mw ar cy (up2 st9 0 4 900) sl4) H := hP
  obtain ⟨st10, est10⟩ : ∃ y, y = up2 st9 0 4 900 := ⟨_, rfl⟩
  have hG : MG [2, 6, 7, 8, 9, 10, 11, 12, 13, 14, 15, 20, 21, 22] st st10 := by rw [est10]; exact hG.up (rz (by decide : mr 0 4 = 0)) (pn (by decide : pcl 0 4 = 0) (by decide))
  rw [← est10] at hP
  refine lv_aload_n hx hb dX12_begin_18 rfl (lv_at hl 0 rfl) ?_
  refine lv_iconst (v := 0) hx hb dX12_begin_19 (by decide) ?_
  refine va_put (D := (dC, dI)) (ci := 11) (v := .int 0) (ty := .int) (C := RX12) (T := TX12) (N := 47) hx hb hts ii_X12_begin tyX12 tyX12_ok nmX12 hown hK hP (mD hN _ _ _ _) hS 0 rfl rfl 10 (by decide) (hts _ mm_X12_begin_4) (fun _ hh => hh) rfl (by decide +kernel) rfl rfl (Nat.le_of_ble_eq_true rfl) dX12_begin_20 (fun H locs hP _ hS => ?_)
  have hP : va_P (dC, dI) vwCl (mw ar cy (up2 st10 0 10 0) sl4) H := hP
  obtain ⟨st11, est11⟩ : ∃ y, y = up2 st10 0 10 0 := ⟨_, rfl⟩
  have hG : MG [2, 6, 7, 8, 9, 10, 11, 12, 13, 14, 15, 20, 21, 22] st st11 := by rw [est11]; exact hG.up (rz (by decide : mr 0 10 = 0)) (pn (by decide : pcl 0 10 = 23) (by decide))
  rw [← est11] at hP
  refine lv_aload_n hx hb dX12_begin_23 rfl (lv_at hl 0 rfl) ?_
  refine lv_iconst (v := 0) hx hb dX12_begin_24 (by decide) ?_
  refine va_put (D := (dC, dI)) (ci := 11) (v := .int 0) (ty := .int) (C := RX12) (T := TX12) (N := 47) hx hb hts ii_X12_begin tyX12 tyX12_ok nmX12 hown hK hP (mD hN _ _ _ _) hS 0 rfl rfl 5 (by decide) (hts _ mm_X12_begin_5) (fun _ hh => hh) rfl (by decide +kernel) rfl rfl (Nat.le_of_ble_eq_true rfl) dX12_begin_25 (fun H locs hP _ hS => ?_)
  have hP : va_P (dC, dI) vwCl (mw ar cy (up2 st11 0 5 0) sl4) H := hP
  obtain ⟨st12, est12⟩ : ∃ y, y = up2 st11 0 5 0 := ⟨_, rfl⟩
  have hG : MG [2, 6, 7, 8, 9, 10, 11, 12, 13, 14, 15, 20, 21, 22] st st12 := by rw [est12]; exact hG.up (r0) (pn (by decide : pcl 0 5 = 4) (by decide))
  rw [← est12] at hP
  have hB : MBt B g m st12 := ⟨by show st12 0 3 = _; rw [est12, up2_ne (r := 0) (k := 5) (a := 0) (j := 3) _ _ (by omega), est11, up2_ne (r := 0) (k := 10) (a := 0) (j := 3) _ _ (by omega), est10, up2_ne (r := 0) (k := 4) (a := 0) (j := 3) _ _ (by omega), est9, up2_same, hf6], by show st12 0 4 = _; rw [est12, up2_ne (r := 0) (k := 5) (a := 0) (j := 4) _ _ (by omega), est11, up2_ne (r := 0) (k := 10) (a := 0) (j := 4) _ _ (by omega), est10, up2_same, hm]; rfl, hg, by omega, fun j hj => ⟨by show st12 1 j = _; rw [est12, up2_ne (r := 0) (k := 5) (a := 1) (j := j) _ _ (by omega), est11, up2_ne (r := 0) (k := 10) (a := 1) (j := j) _ _ (by omega), est10, up2_ne (r := 0) (k := 4) (a := 1) (j := j) _ _ (by omega), est9, up2_ne (r := 0) (k := 3) (a := 1) (j := j) _ _ (by omega), hf7, up2_ne (r := 0) (k := 2) (a := 1) (j := j) _ _ (by omega), est1, up2_ne (r := 0) (k := 0) (a := 1) (j := j) _ _ (by omega)]; exact (hbt j hj).1, (hbt j hj).2⟩⟩
  refine lv_aload_n hx hb dX12_begin_28 rfl (lv_at hl 0 rfl) ?_
  refine va_callv (va_runV (As := []) (rest := []) ⟨hx, hb, hml, hown, hts⟩ (f_go l dC dI ar cy _ hN st12 sl4 B g m 0 hG.1 hB (by show st12 0 5 = _; rw [est12, up2_same]; rfl) (Nat.zero_le _)) (cwV 0 hts gX12_begin_X12_go rfl rfl rfl (by decide +kernel) ⟨Nat.le_of_ble_eq_true rfl, Nat.le_of_ble_eq_true rfl⟩) ⟨fun a U g mk q => ⟨q.1, mPre.blind q.2⟩, va_recv hK hP (ci := 11) (q0 := 0) rfl rfl, fun U hU hW => ⟨rfl, mPre.of hP hK hU hW⟩⟩ rfl rfl hl.1 rfl (lv_room (Nat.le_of_ble_eq_true rfl)) dX12_begin_29 ⟨Nat.le_of_ble_eq_true rfl, Nat.le_of_ble_eq_true rfl⟩) hS (fun q _ h => MA.le hS.1 q h) (MA.le hS.1) (fun x t H locs ht hvm hw hB9 _ _ hS => ?_)
  have hP := mB.at ht hB9
  clear hB9 ht hvm
  obtain ⟨st14, sl15⟩ := x
  obtain ⟨hG2, hF2, hw⟩ := hw
  dsimp only at hG2 hF2 hw
  have hP : va_P (dC, dI) vwCl (mw ar cy st14 sl15) _ := hP
  have hG : MG [2, 6, 7, 8, 9, 10, 11, 12, 13, 14, 15, 20, 21, 22] st st14 := hG.tr hG2 (by decide)
  have hFst14 : FM 1 st12 sl4 st14 sl15 := hF2
  clear hG2 hF2
  have hT := hw
  have hp9 := hT.2.2.2.2.2.2
  have hk1 := tkd_lt (B := B) (g := g) (m := m) (p := 0)
  have hk2 := tkx_le (B := B) (g := g) (m := m) (p := 0) hp9
  have hk3 := tka_le (B := B) (g := g) (m := m) (p := 0) hp9 hB.2.2.1
  have hk4 := tkv_lt (p := 0) hB hp9
  have hk5 := tkw_lt (B := B) (g := g) (m := m) (p := 0)
  have hB7 := MBt.fr hB hFst14
  have h10 : st14 0 10 = 0 := by rw [(hFst14 0 10 (by decide)).1, est12, up2_ne (r := 0) (k := 5) (a := 0) (j := 10) _ _ (by omega), est11, up2_same]
  have h2 : st14 0 2 = 0 := by rw [(hFst14 0 2 (by decide)).1, est12, up2_ne (r := 0) (k := 5) (a := 0) (j := 2) _ _ (by omega), est11, up2_ne (r := 0) (k := 10) (a := 0) (j := 2) _ _ (by omega), est10, up2_ne (r := 0) (k := 4) (a := 0) (j := 2) _ _ (by omega), est9, up2_ne (r := 0) (k := 3) (a := 0) (j := 2) _ _ (by omega), hf7, up2_same]
  have hlk9 : LQ [7, 9] sl sl15 := by have hq := FM.lk hFst14; rw [hf8] at hq; exact hq
  subst hm
  exact W.vret hx hb hr (fun t ht hW => ⟨⟨(st14, sl15), rfl, ⟨hG, ⟨hB7, hT, h10, h2, hlk9⟩⟩, mB.of ht hP⟩, hS.F ht⟩) hS.2.2 dX12_begin_32
set_option maxHeartbeats 4000000 in
set_option maxRecDepth 100000 in
theorem f_begin200 (l : Launch) (dC : Nat → ClassId) (dI : Nat → Nat → Nat) (ar : Nat → Nat) (cy : Nat → ClassId) (sz : Nat) (hN : MN ar) (st : Nat → Nat → Int32) (sl : Nat → Nat → Int64) (B : Nat → Nat) (g : Nat) (hI : MI st) (ht : st 0 2 = nI g) (hg : g < 941) (hbt : ∀ j, j < g → st 1 j = nI (B j) ∧ B j < 256) : Met l yX12_begin wsX12_begin ({ frames := 2, cells := 0, slots := 0, locals := 45 }) (va_Pc [.ref (ar 0), .int 200] (mPre dC dI ar cy sz st sl)) (va_Qv (fun (x : MT) => MG [2, 6, 7, 8, 9, 10, 11, 12, 13, 14, 15, 20, 21, 22] st x.1 ∧ (MBt B g 200 x.1 ∧ TM B g 200 0 x.1 x.2 ∧ x.1 0 10 = 0 ∧ x.1 0 2 = 0 ∧ LQ [7, 9] sl x.2)) (mB dC dI ar cy) (MA ar sz)) 0 0 (MA ar sz) := by
  refine Met.ofW (cc := cX12_begin) (maxL := 2) (ret := none) (by decide) rfl ?_
  intro p9 e s m9 args below meth c9 s₁ B9 hml hv
  obtain ⟨rfl, hsz, hP, hK⟩ := hv
  have hx := B9.exec
  have hb := B9.bytes
  have hr := B9.returns
  have hts := atoms_spec (ws := wsX12_begin) B9.pre
  have hown : s.vm.findClass RX12 = some m9.cls := findClass_of_methodNamed B9.named
  subst hsz
  have hS : va_S (MA ar s.heap.size) s.heap s.heap [] := va_S.rf
  have hG : MG [2, 6, 7, 8, 9, 10, 11, 12, 13, 14, 15, 20, 21, 22] st st := MG.rf hI
  have hl := lv_entry ([.ref (ar 0), .int 200]) (n := 2) (Nat.le_of_ble_eq_true rfl)
  rw [lg_entry_eq]
  generalize (lg_sl ([.ref (ar 0), .int 200]) ++ List.replicate (2 - (lg_sl ([.ref (ar 0), .int 200])).length) Slot.unset).toArray = ls at hl ⊢
  have hl : lv_has ls 2 [(0, .ref (ar 0)), (1, .int 200)] := hl
  clear hI
  obtain ⟨m, hm⟩ : ∃ m : Nat, m = 200 := ⟨_, rfl⟩
  refine lv_aload_n hx hb dX12_begin_0 rfl (lv_at hl 0 rfl) ?_
  refine lv_iconst (v := 0) hx hb dX12_begin_1 (by decide) ?_
  refine va_put (D := (dC, dI)) (ci := 11) (v := .int 0) (ty := .int) (C := RX12) (T := TX12) (N := 47) hx hb hts ii_X12_begin tyX12 tyX12_ok nmX12 hown hK hP (mD hN _ _ _ _) hS 0 rfl rfl 0 (by decide) (hts _ mm_X12_begin_1) (fun _ hh => hh) rfl (by decide +kernel) rfl rfl (Nat.le_of_ble_eq_true rfl) dX12_begin_2 (fun H locs hP _ hS => ?_)
  have hP : va_P (dC, dI) vwCl (mw ar cy (up2 st 0 0 0) sl) H := hP
  obtain ⟨st1, est1⟩ : ∃ y, y = up2 st 0 0 0 := ⟨_, rfl⟩
  have hG : MG [2, 6, 7, 8, 9, 10, 11, 12, 13, 14, 15, 20, 21, 22] st st1 := by rw [est1]; exact hG.up (rz (by decide : mr 0 0 = 0)) (pn (by decide : pcl 0 0 = 0) (by decide))
  rw [← est1] at hP
  refine lv_aload_n hx hb dX12_begin_5 rfl (lv_at hl 0 rfl) ?_
  refine lv_aload_n hx hb dX12_begin_6 rfl (lv_at hl 0 rfl) ?_
  refine va_calli (va_runV (As := []) (rest := [.ref (ar 0)]) ⟨hx, hb, hml, hown, hts⟩ (f_take l dC dI ar cy _ hN st1 sl g hG.1 (by show st1 0 2 = _; rw [est1, up2_ne (r := 0) (k := 0) (a := 0) (j := 2) _ _ (by omega), ht]) (hg)) (cwV 0 hts gX12_begin_X12_take rfl rfl rfl (by decide +kernel) ⟨Nat.le_of_ble_eq_true rfl, Nat.le_of_ble_eq_true rfl⟩) ⟨fun a U g mk q => ⟨q.1, mPre.blind q.2⟩, va_recv hK hP (ci := 11) (q0 := 0) rfl rfl, fun U hU hW => ⟨rfl, mPre.of hP hK hU hW⟩⟩ rfl rfl hl.1 rfl (lv_room (Nat.le_of_ble_eq_true rfl)) dX12_begin_7 ⟨Nat.le_of_ble_eq_true rfl, Nat.le_of_ble_eq_true rfl⟩) hS (fun q _ h => MA.le hS.1 q h) (MA.le hS.1) (fun r2 x t H locs ht hvm hw hB9 _ _ hS => ?_)
  have hP := mB.at ht hB9
  clear hB9 ht hvm
  obtain ⟨st3, sl4⟩ := x
  obtain ⟨hG2, hw⟩ := hw
  dsimp only at hG2 hw
  have hP : va_P (dC, dI) vwCl (mw ar cy st3 sl4) _ := hP
  have hG : MG [2, 6, 7, 8, 9, 10, 11, 12, 13, 14, 15, 20, 21, 22] st st3 := hG.tr hG2 (by decide)
  have hMst3 : MG [2, 3, 4, 5, 6, 7, 8, 9, 10, 11, 12, 13, 14, 15, 16, 17, 19, 20, 21, 22, 23] st1 st3 := hG2
  clear hG2
  obtain ⟨n5, rfl, hf6, hf7, hf8⟩ := hw
  refine va_put (D := (dC, dI)) (ci := 11) (v := .int (nI n5)) (ty := .int) (C := RX12) (T := TX12) (N := 47) hx hb hts ii_X12_begin tyX12 tyX12_ok nmX12 hown hK hP (mD hN _ _ _ _) hS 0 rfl rfl 3 (by decide) (hts _ mm_X12_begin_2) (fun _ hh => hh) rfl (by decide +kernel) rfl rfl (Nat.le_of_ble_eq_true rfl) dX12_begin_10 (fun H locs hP _ hS => ?_)
  have hP : va_P (dC, dI) vwCl (mw ar cy (up2 st3 0 3 (nI n5)) sl4) H := hP
  obtain ⟨st9, est9⟩ : ∃ y, y = up2 st3 0 3 (nI n5) := ⟨_, rfl⟩
  have hG : MG [2, 6, 7, 8, 9, 10, 11, 12, 13, 14, 15, 20, 21, 22] st st9 := by rw [est9]; exact hG.up (rn (n := n5) (by decide : mr 0 3 = 941) (by omega)) (pn (by decide : pcl 0 3 = 3) (by decide))
  rw [← est9] at hP
  refine lv_aload_n hx hb dX12_begin_13 rfl (lv_at hl 0 rfl) ?_
  refine lv_iload_n hx hb dX12_begin_14 rfl (lv_at hl 1 rfl) ?_
  refine va_put (D := (dC, dI)) (ci := 11) (v := .int 200) (ty := .int) (C := RX12) (T := TX12) (N := 47) hx hb hts ii_X12_begin tyX12 tyX12_ok nmX12 hown hK hP (mD hN _ _ _ _) hS 0 rfl rfl 4 (by decide) (hts _ mm_X12_begin_3) (fun _ hh => hh) rfl (by decide +kernel) rfl rfl (Nat.le_of_ble_eq_true rfl) dX12_begin_15 (fun H locs hP _ hS => ?_)
  have hP : va_P (dC, dI) vwCl (mw ar cy (up2 st9 0 4 200) sl4) H := hP
  obtain ⟨st10, est10⟩ : ∃ y, y = up2 st9 0 4 200 := ⟨_, rfl⟩
  have hG : MG [2, 6, 7, 8, 9, 10, 11, 12, 13, 14, 15, 20, 21, 22] st st10 := by rw [est10]; exact hG.up (rz (by decide : mr 0 4 = 0)) (pn (by decide : pcl 0 4 = 0) (by decide))
  rw [← est10] at hP
  refine lv_aload_n hx hb dX12_begin_18 rfl (lv_at hl 0 rfl) ?_
  refine lv_iconst (v := 0) hx hb dX12_begin_19 (by decide) ?_
  refine va_put (D := (dC, dI)) (ci := 11) (v := .int 0) (ty := .int) (C := RX12) (T := TX12) (N := 47) hx hb hts ii_X12_begin tyX12 tyX12_ok nmX12 hown hK hP (mD hN _ _ _ _) hS 0 rfl rfl 10 (by decide) (hts _ mm_X12_begin_4) (fun _ hh => hh) rfl (by decide +kernel) rfl rfl (Nat.le_of_ble_eq_true rfl) dX12_begin_20 (fun H locs hP _ hS => ?_)
  have hP : va_P (dC, dI) vwCl (mw ar cy (up2 st10 0 10 0) sl4) H := hP
  obtain ⟨st11, est11⟩ : ∃ y, y = up2 st10 0 10 0 := ⟨_, rfl⟩
  have hG : MG [2, 6, 7, 8, 9, 10, 11, 12, 13, 14, 15, 20, 21, 22] st st11 := by rw [est11]; exact hG.up (rz (by decide : mr 0 10 = 0)) (pn (by decide : pcl 0 10 = 23) (by decide))
  rw [← est11] at hP
  refine lv_aload_n hx hb dX12_begin_23 rfl (lv_at hl 0 rfl) ?_
  refine lv_iconst (v := 0) hx hb dX12_begin_24 (by decide) ?_
  refine va_put (D := (dC, dI)) (ci := 11) (v := .int 0) (ty := .int) (C := RX12) (T := TX12) (N := 47) hx hb hts ii_X12_begin tyX12 tyX12_ok nmX12 hown hK hP (mD hN _ _ _ _) hS 0 rfl rfl 5 (by decide) (hts _ mm_X12_begin_5) (fun _ hh => hh) rfl (by decide +kernel) rfl rfl (Nat.le_of_ble_eq_true rfl) dX12_begin_25 (fun H locs hP _ hS => ?_)
  have hP : va_P (dC, dI) vwCl (mw ar cy (up2 st11 0 5 0) sl4) H := hP
  obtain ⟨st12, est12⟩ : ∃ y, y = up2 st11 0 5 0 := ⟨_, rfl⟩
  have hG : MG [2, 6, 7, 8, 9, 10, 11, 12, 13, 14, 15, 20, 21, 22] st st12 := by rw [est12]; exact hG.up (r0) (pn (by decide : pcl 0 5 = 4) (by decide))
  rw [← est12] at hP
  have hB : MBt B g m st12 := ⟨by show st12 0 3 = _; rw [est12, up2_ne (r := 0) (k := 5) (a := 0) (j := 3) _ _ (by omega), est11, up2_ne (r := 0) (k := 10) (a := 0) (j := 3) _ _ (by omega), est10, up2_ne (r := 0) (k := 4) (a := 0) (j := 3) _ _ (by omega), est9, up2_same, hf6], by show st12 0 4 = _; rw [est12, up2_ne (r := 0) (k := 5) (a := 0) (j := 4) _ _ (by omega), est11, up2_ne (r := 0) (k := 10) (a := 0) (j := 4) _ _ (by omega), est10, up2_same, hm]; rfl, hg, by omega, fun j hj => ⟨by show st12 1 j = _; rw [est12, up2_ne (r := 0) (k := 5) (a := 1) (j := j) _ _ (by omega), est11, up2_ne (r := 0) (k := 10) (a := 1) (j := j) _ _ (by omega), est10, up2_ne (r := 0) (k := 4) (a := 1) (j := j) _ _ (by omega), est9, up2_ne (r := 0) (k := 3) (a := 1) (j := j) _ _ (by omega), hf7, up2_ne (r := 0) (k := 2) (a := 1) (j := j) _ _ (by omega), est1, up2_ne (r := 0) (k := 0) (a := 1) (j := j) _ _ (by omega)]; exact (hbt j hj).1, (hbt j hj).2⟩⟩
  refine lv_aload_n hx hb dX12_begin_28 rfl (lv_at hl 0 rfl) ?_
  refine va_callv (va_runV (As := []) (rest := []) ⟨hx, hb, hml, hown, hts⟩ (f_go l dC dI ar cy _ hN st12 sl4 B g m 0 hG.1 hB (by show st12 0 5 = _; rw [est12, up2_same]; rfl) (Nat.zero_le _)) (cwV 0 hts gX12_begin_X12_go rfl rfl rfl (by decide +kernel) ⟨Nat.le_of_ble_eq_true rfl, Nat.le_of_ble_eq_true rfl⟩) ⟨fun a U g mk q => ⟨q.1, mPre.blind q.2⟩, va_recv hK hP (ci := 11) (q0 := 0) rfl rfl, fun U hU hW => ⟨rfl, mPre.of hP hK hU hW⟩⟩ rfl rfl hl.1 rfl (lv_room (Nat.le_of_ble_eq_true rfl)) dX12_begin_29 ⟨Nat.le_of_ble_eq_true rfl, Nat.le_of_ble_eq_true rfl⟩) hS (fun q _ h => MA.le hS.1 q h) (MA.le hS.1) (fun x t H locs ht hvm hw hB9 _ _ hS => ?_)
  have hP := mB.at ht hB9
  clear hB9 ht hvm
  obtain ⟨st14, sl15⟩ := x
  obtain ⟨hG2, hF2, hw⟩ := hw
  dsimp only at hG2 hF2 hw
  have hP : va_P (dC, dI) vwCl (mw ar cy st14 sl15) _ := hP
  have hG : MG [2, 6, 7, 8, 9, 10, 11, 12, 13, 14, 15, 20, 21, 22] st st14 := hG.tr hG2 (by decide)
  have hFst14 : FM 1 st12 sl4 st14 sl15 := hF2
  clear hG2 hF2
  have hT := hw
  have hp9 := hT.2.2.2.2.2.2
  have hk1 := tkd_lt (B := B) (g := g) (m := m) (p := 0)
  have hk2 := tkx_le (B := B) (g := g) (m := m) (p := 0) hp9
  have hk3 := tka_le (B := B) (g := g) (m := m) (p := 0) hp9 hB.2.2.1
  have hk4 := tkv_lt (p := 0) hB hp9
  have hk5 := tkw_lt (B := B) (g := g) (m := m) (p := 0)
  have hB7 := MBt.fr hB hFst14
  have h10 : st14 0 10 = 0 := by rw [(hFst14 0 10 (by decide)).1, est12, up2_ne (r := 0) (k := 5) (a := 0) (j := 10) _ _ (by omega), est11, up2_same]
  have h2 : st14 0 2 = 0 := by rw [(hFst14 0 2 (by decide)).1, est12, up2_ne (r := 0) (k := 5) (a := 0) (j := 2) _ _ (by omega), est11, up2_ne (r := 0) (k := 10) (a := 0) (j := 2) _ _ (by omega), est10, up2_ne (r := 0) (k := 4) (a := 0) (j := 2) _ _ (by omega), est9, up2_ne (r := 0) (k := 3) (a := 0) (j := 2) _ _ (by omega), hf7, up2_same]
  have hlk9 : LQ [7, 9] sl sl15 := by have hq := FM.lk hFst14; rw [hf8] at hq; exact hq
  subst hm
  exact W.vret hx hb hr (fun t ht hW => ⟨⟨(st14, sl15), rfl, ⟨hG, ⟨hB7, hT, h10, h2, hlk9⟩⟩, mB.of ht hP⟩, hS.F ht⟩) hS.2.2 dX12_begin_32
set_option maxHeartbeats 4000000 in
set_option maxRecDepth 100000 in
theorem f_begin400 (l : Launch) (dC : Nat → ClassId) (dI : Nat → Nat → Nat) (ar : Nat → Nat) (cy : Nat → ClassId) (sz : Nat) (hN : MN ar) (st : Nat → Nat → Int32) (sl : Nat → Nat → Int64) (B : Nat → Nat) (g : Nat) (hI : MI st) (ht : st 0 2 = nI g) (hg : g < 941) (hbt : ∀ j, j < g → st 1 j = nI (B j) ∧ B j < 256) : Met l yX12_begin wsX12_begin ({ frames := 2, cells := 0, slots := 0, locals := 45 }) (va_Pc [.ref (ar 0), .int 400] (mPre dC dI ar cy sz st sl)) (va_Qv (fun (x : MT) => MG [2, 6, 7, 8, 9, 10, 11, 12, 13, 14, 15, 20, 21, 22] st x.1 ∧ (MBt B g 400 x.1 ∧ TM B g 400 0 x.1 x.2 ∧ x.1 0 10 = 0 ∧ x.1 0 2 = 0 ∧ LQ [7, 9] sl x.2)) (mB dC dI ar cy) (MA ar sz)) 0 0 (MA ar sz) := by
  refine Met.ofW (cc := cX12_begin) (maxL := 2) (ret := none) (by decide) rfl ?_
  intro p9 e s m9 args below meth c9 s₁ B9 hml hv
  obtain ⟨rfl, hsz, hP, hK⟩ := hv
  have hx := B9.exec
  have hb := B9.bytes
  have hr := B9.returns
  have hts := atoms_spec (ws := wsX12_begin) B9.pre
  have hown : s.vm.findClass RX12 = some m9.cls := findClass_of_methodNamed B9.named
  subst hsz
  have hS : va_S (MA ar s.heap.size) s.heap s.heap [] := va_S.rf
  have hG : MG [2, 6, 7, 8, 9, 10, 11, 12, 13, 14, 15, 20, 21, 22] st st := MG.rf hI
  have hl := lv_entry ([.ref (ar 0), .int 400]) (n := 2) (Nat.le_of_ble_eq_true rfl)
  rw [lg_entry_eq]
  generalize (lg_sl ([.ref (ar 0), .int 400]) ++ List.replicate (2 - (lg_sl ([.ref (ar 0), .int 400])).length) Slot.unset).toArray = ls at hl ⊢
  have hl : lv_has ls 2 [(0, .ref (ar 0)), (1, .int 400)] := hl
  clear hI
  obtain ⟨m, hm⟩ : ∃ m : Nat, m = 400 := ⟨_, rfl⟩
  refine lv_aload_n hx hb dX12_begin_0 rfl (lv_at hl 0 rfl) ?_
  refine lv_iconst (v := 0) hx hb dX12_begin_1 (by decide) ?_
  refine va_put (D := (dC, dI)) (ci := 11) (v := .int 0) (ty := .int) (C := RX12) (T := TX12) (N := 47) hx hb hts ii_X12_begin tyX12 tyX12_ok nmX12 hown hK hP (mD hN _ _ _ _) hS 0 rfl rfl 0 (by decide) (hts _ mm_X12_begin_1) (fun _ hh => hh) rfl (by decide +kernel) rfl rfl (Nat.le_of_ble_eq_true rfl) dX12_begin_2 (fun H locs hP _ hS => ?_)
  have hP : va_P (dC, dI) vwCl (mw ar cy (up2 st 0 0 0) sl) H := hP
  obtain ⟨st1, est1⟩ : ∃ y, y = up2 st 0 0 0 := ⟨_, rfl⟩
  have hG : MG [2, 6, 7, 8, 9, 10, 11, 12, 13, 14, 15, 20, 21, 22] st st1 := by rw [est1]; exact hG.up (rz (by decide : mr 0 0 = 0)) (pn (by decide : pcl 0 0 = 0) (by decide))
  rw [← est1] at hP
  refine lv_aload_n hx hb dX12_begin_5 rfl (lv_at hl 0 rfl) ?_
  refine lv_aload_n hx hb dX12_begin_6 rfl (lv_at hl 0 rfl) ?_
  refine va_calli (va_runV (As := []) (rest := [.ref (ar 0)]) ⟨hx, hb, hml, hown, hts⟩ (f_take l dC dI ar cy _ hN st1 sl g hG.1 (by show st1 0 2 = _; rw [est1, up2_ne (r := 0) (k := 0) (a := 0) (j := 2) _ _ (by omega), ht]) (hg)) (cwV 0 hts gX12_begin_X12_take rfl rfl rfl (by decide +kernel) ⟨Nat.le_of_ble_eq_true rfl, Nat.le_of_ble_eq_true rfl⟩) ⟨fun a U g mk q => ⟨q.1, mPre.blind q.2⟩, va_recv hK hP (ci := 11) (q0 := 0) rfl rfl, fun U hU hW => ⟨rfl, mPre.of hP hK hU hW⟩⟩ rfl rfl hl.1 rfl (lv_room (Nat.le_of_ble_eq_true rfl)) dX12_begin_7 ⟨Nat.le_of_ble_eq_true rfl, Nat.le_of_ble_eq_true rfl⟩) hS (fun q _ h => MA.le hS.1 q h) (MA.le hS.1) (fun r2 x t H locs ht hvm hw hB9 _ _ hS => ?_)
  have hP := mB.at ht hB9
  clear hB9 ht hvm
  obtain ⟨st3, sl4⟩ := x
  obtain ⟨hG2, hw⟩ := hw
  dsimp only at hG2 hw
  have hP : va_P (dC, dI) vwCl (mw ar cy st3 sl4) _ := hP
  have hG : MG [2, 6, 7, 8, 9, 10, 11, 12, 13, 14, 15, 20, 21, 22] st st3 := hG.tr hG2 (by decide)
  have hMst3 : MG [2, 3, 4, 5, 6, 7, 8, 9, 10, 11, 12, 13, 14, 15, 16, 17, 19, 20, 21, 22, 23] st1 st3 := hG2
  clear hG2
  obtain ⟨n5, rfl, hf6, hf7, hf8⟩ := hw
  refine va_put (D := (dC, dI)) (ci := 11) (v := .int (nI n5)) (ty := .int) (C := RX12) (T := TX12) (N := 47) hx hb hts ii_X12_begin tyX12 tyX12_ok nmX12 hown hK hP (mD hN _ _ _ _) hS 0 rfl rfl 3 (by decide) (hts _ mm_X12_begin_2) (fun _ hh => hh) rfl (by decide +kernel) rfl rfl (Nat.le_of_ble_eq_true rfl) dX12_begin_10 (fun H locs hP _ hS => ?_)
  have hP : va_P (dC, dI) vwCl (mw ar cy (up2 st3 0 3 (nI n5)) sl4) H := hP
  obtain ⟨st9, est9⟩ : ∃ y, y = up2 st3 0 3 (nI n5) := ⟨_, rfl⟩
  have hG : MG [2, 6, 7, 8, 9, 10, 11, 12, 13, 14, 15, 20, 21, 22] st st9 := by rw [est9]; exact hG.up (rn (n := n5) (by decide : mr 0 3 = 941) (by omega)) (pn (by decide : pcl 0 3 = 3) (by decide))
  rw [← est9] at hP
  refine lv_aload_n hx hb dX12_begin_13 rfl (lv_at hl 0 rfl) ?_
  refine lv_iload_n hx hb dX12_begin_14 rfl (lv_at hl 1 rfl) ?_
  refine va_put (D := (dC, dI)) (ci := 11) (v := .int 400) (ty := .int) (C := RX12) (T := TX12) (N := 47) hx hb hts ii_X12_begin tyX12 tyX12_ok nmX12 hown hK hP (mD hN _ _ _ _) hS 0 rfl rfl 4 (by decide) (hts _ mm_X12_begin_3) (fun _ hh => hh) rfl (by decide +kernel) rfl rfl (Nat.le_of_ble_eq_true rfl) dX12_begin_15 (fun H locs hP _ hS => ?_)
  have hP : va_P (dC, dI) vwCl (mw ar cy (up2 st9 0 4 400) sl4) H := hP
  obtain ⟨st10, est10⟩ : ∃ y, y = up2 st9 0 4 400 := ⟨_, rfl⟩
  have hG : MG [2, 6, 7, 8, 9, 10, 11, 12, 13, 14, 15, 20, 21, 22] st st10 := by rw [est10]; exact hG.up (rz (by decide : mr 0 4 = 0)) (pn (by decide : pcl 0 4 = 0) (by decide))
  rw [← est10] at hP
  refine lv_aload_n hx hb dX12_begin_18 rfl (lv_at hl 0 rfl) ?_
  refine lv_iconst (v := 0) hx hb dX12_begin_19 (by decide) ?_
  refine va_put (D := (dC, dI)) (ci := 11) (v := .int 0) (ty := .int) (C := RX12) (T := TX12) (N := 47) hx hb hts ii_X12_begin tyX12 tyX12_ok nmX12 hown hK hP (mD hN _ _ _ _) hS 0 rfl rfl 10 (by decide) (hts _ mm_X12_begin_4) (fun _ hh => hh) rfl (by decide +kernel) rfl rfl (Nat.le_of_ble_eq_true rfl) dX12_begin_20 (fun H locs hP _ hS => ?_)
  have hP : va_P (dC, dI) vwCl (mw ar cy (up2 st10 0 10 0) sl4) H := hP
  obtain ⟨st11, est11⟩ : ∃ y, y = up2 st10 0 10 0 := ⟨_, rfl⟩
  have hG : MG [2, 6, 7, 8, 9, 10, 11, 12, 13, 14, 15, 20, 21, 22] st st11 := by rw [est11]; exact hG.up (rz (by decide : mr 0 10 = 0)) (pn (by decide : pcl 0 10 = 23) (by decide))
  rw [← est11] at hP
  refine lv_aload_n hx hb dX12_begin_23 rfl (lv_at hl 0 rfl) ?_
  refine lv_iconst (v := 0) hx hb dX12_begin_24 (by decide) ?_
  refine va_put (D := (dC, dI)) (ci := 11) (v := .int 0) (ty := .int) (C := RX12) (T := TX12) (N := 47) hx hb hts ii_X12_begin tyX12 tyX12_ok nmX12 hown hK hP (mD hN _ _ _ _) hS 0 rfl rfl 5 (by decide) (hts _ mm_X12_begin_5) (fun _ hh => hh) rfl (by decide +kernel) rfl rfl (Nat.le_of_ble_eq_true rfl) dX12_begin_25 (fun H locs hP _ hS => ?_)
  have hP : va_P (dC, dI) vwCl (mw ar cy (up2 st11 0 5 0) sl4) H := hP
  obtain ⟨st12, est12⟩ : ∃ y, y = up2 st11 0 5 0 := ⟨_, rfl⟩
  have hG : MG [2, 6, 7, 8, 9, 10, 11, 12, 13, 14, 15, 20, 21, 22] st st12 := by rw [est12]; exact hG.up (r0) (pn (by decide : pcl 0 5 = 4) (by decide))
  rw [← est12] at hP
  have hB : MBt B g m st12 := ⟨by show st12 0 3 = _; rw [est12, up2_ne (r := 0) (k := 5) (a := 0) (j := 3) _ _ (by omega), est11, up2_ne (r := 0) (k := 10) (a := 0) (j := 3) _ _ (by omega), est10, up2_ne (r := 0) (k := 4) (a := 0) (j := 3) _ _ (by omega), est9, up2_same, hf6], by show st12 0 4 = _; rw [est12, up2_ne (r := 0) (k := 5) (a := 0) (j := 4) _ _ (by omega), est11, up2_ne (r := 0) (k := 10) (a := 0) (j := 4) _ _ (by omega), est10, up2_same, hm]; rfl, hg, by omega, fun j hj => ⟨by show st12 1 j = _; rw [est12, up2_ne (r := 0) (k := 5) (a := 1) (j := j) _ _ (by omega), est11, up2_ne (r := 0) (k := 10) (a := 1) (j := j) _ _ (by omega), est10, up2_ne (r := 0) (k := 4) (a := 1) (j := j) _ _ (by omega), est9, up2_ne (r := 0) (k := 3) (a := 1) (j := j) _ _ (by omega), hf7, up2_ne (r := 0) (k := 2) (a := 1) (j := j) _ _ (by omega), est1, up2_ne (r := 0) (k := 0) (a := 1) (j := j) _ _ (by omega)]; exact (hbt j hj).1, (hbt j hj).2⟩⟩
  refine lv_aload_n hx hb dX12_begin_28 rfl (lv_at hl 0 rfl) ?_
  refine va_callv (va_runV (As := []) (rest := []) ⟨hx, hb, hml, hown, hts⟩ (f_go l dC dI ar cy _ hN st12 sl4 B g m 0 hG.1 hB (by show st12 0 5 = _; rw [est12, up2_same]; rfl) (Nat.zero_le _)) (cwV 0 hts gX12_begin_X12_go rfl rfl rfl (by decide +kernel) ⟨Nat.le_of_ble_eq_true rfl, Nat.le_of_ble_eq_true rfl⟩) ⟨fun a U g mk q => ⟨q.1, mPre.blind q.2⟩, va_recv hK hP (ci := 11) (q0 := 0) rfl rfl, fun U hU hW => ⟨rfl, mPre.of hP hK hU hW⟩⟩ rfl rfl hl.1 rfl (lv_room (Nat.le_of_ble_eq_true rfl)) dX12_begin_29 ⟨Nat.le_of_ble_eq_true rfl, Nat.le_of_ble_eq_true rfl⟩) hS (fun q _ h => MA.le hS.1 q h) (MA.le hS.1) (fun x t H locs ht hvm hw hB9 _ _ hS => ?_)
  have hP := mB.at ht hB9
  clear hB9 ht hvm
  obtain ⟨st14, sl15⟩ := x
  obtain ⟨hG2, hF2, hw⟩ := hw
  dsimp only at hG2 hF2 hw
  have hP : va_P (dC, dI) vwCl (mw ar cy st14 sl15) _ := hP
  have hG : MG [2, 6, 7, 8, 9, 10, 11, 12, 13, 14, 15, 20, 21, 22] st st14 := hG.tr hG2 (by decide)
  have hFst14 : FM 1 st12 sl4 st14 sl15 := hF2
  clear hG2 hF2
  have hT := hw
  have hp9 := hT.2.2.2.2.2.2
  have hk1 := tkd_lt (B := B) (g := g) (m := m) (p := 0)
  have hk2 := tkx_le (B := B) (g := g) (m := m) (p := 0) hp9
  have hk3 := tka_le (B := B) (g := g) (m := m) (p := 0) hp9 hB.2.2.1
  have hk4 := tkv_lt (p := 0) hB hp9
  have hk5 := tkw_lt (B := B) (g := g) (m := m) (p := 0)
  have hB7 := MBt.fr hB hFst14
  have h10 : st14 0 10 = 0 := by rw [(hFst14 0 10 (by decide)).1, est12, up2_ne (r := 0) (k := 5) (a := 0) (j := 10) _ _ (by omega), est11, up2_same]
  have h2 : st14 0 2 = 0 := by rw [(hFst14 0 2 (by decide)).1, est12, up2_ne (r := 0) (k := 5) (a := 0) (j := 2) _ _ (by omega), est11, up2_ne (r := 0) (k := 10) (a := 0) (j := 2) _ _ (by omega), est10, up2_ne (r := 0) (k := 4) (a := 0) (j := 2) _ _ (by omega), est9, up2_ne (r := 0) (k := 3) (a := 0) (j := 2) _ _ (by omega), hf7, up2_same]
  have hlk9 : LQ [7, 9] sl sl15 := by have hq := FM.lk hFst14; rw [hf8] at hq; exact hq
  subst hm
  exact W.vret hx hb hr (fun t ht hW => ⟨⟨(st14, sl15), rfl, ⟨hG, ⟨hB7, hT, h10, h2, hlk9⟩⟩, mB.of ht hP⟩, hS.F ht⟩) hS.2.2 dX12_begin_32
