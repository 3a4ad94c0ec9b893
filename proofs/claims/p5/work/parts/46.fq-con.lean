set_option maxHeartbeats 4000000 in
set_option maxRecDepth 100000 in
theorem f_readAnd_1 (l : Launch) (dC : Nat → ClassId) (dI : Nat → Nat → Nat) (ar : Nat → Nat) (cy : Nat → ClassId) (sz : Nat) (hN : MN ar) (st : Nat → Nat → Int32) (sl : Nat → Nat → Int64) (B : Nat → Nat) (g m : Nat) (p : Nat) (c : Nat → Nat) (nm : Nat → Nat → Nat) (gn : Nat) (go : Nat) (hI : MI st) (hB : MBt B g m st) (hT : TM B g m p st sl) (hR : RN c nm st sl) (h43 : st 0 43 = nI gn) (h44 : st 0 44 = nI go) (h45 : st 0 45 = 1) (hgn : gn ≤ 2 * go) (hgo : go ≤ 20) : Met l yX12_readAnd wsX12_readAnd ({ frames := 32, cells := 0, slots := 0, locals := 687 }) (va_Pc [.ref (ar 0)] (mPre dC dI ar cy sz st sl)) (va_Qi (fun (r : Int32) (x : MT) => MG [1, 2, 3, 6, 7, 13, 14, 15, 20, 21, 22] st x.1 ∧ FM 6 st sl x.1 x.2 ∧ ((∃ q : Nat, ∃ n1 : Nat, ∃ o1 : Nat, ∃ t1 : Nat, r = 1 ∧ TM B g m q x.1 x.2 ∧ x.1 0 43 = nI n1 ∧ x.1 0 44 = nI o1 ∧ x.1 0 45 = 1 ∧ x.1 0 46 = nI t1 ∧ t1 < n1 ∧ n1 + 2 * go + 1 ≤ gn + 2 * o1 ∧ go + 1 ≤ o1 ∧ o1 ≤ 20 ∧ gn ≤ n1 ∧ sCond B g m (sOne B g m c nm 7) p go = sLoop B g m (sOne B g m c nm 7) 21 q o1 ∧ ¬ tkw B g m q = 14 ∧ x.1 0 10 = st 0 10) ∨ (∃ f : Nat, ∃ a : Nat, r = 0 ∧ x.1 0 10 = nI f ∧ x.1 0 11 = nI a ∧ 1 ≤ f ∧ sCond B g m (sOne B g m c nm 7) p go = sf f a ∧ x.1 0 45 = 1))) (mB dC dI ar cy) (MA ar sz)) 0 0 (MA ar sz) := by
  refine Met.ofW (cc := cX12_readAnd) (maxL := 2) (ret := (some .boolean)) (by decide) rfl ?_
  intro p9 e s m9 args below meth c9 s₁ B9 hml hv
  obtain ⟨rfl, hsz, hP, hK⟩ := hv
  have hx := B9.exec
  have hb := B9.bytes
  have hr := B9.returns
  have hts := atoms_spec (ws := wsX12_readAnd) B9.pre
  have hown : s.vm.findClass RX12 = some m9.cls := findClass_of_methodNamed B9.named
  subst hsz
  have hS : va_S (MA ar s.heap.size) s.heap s.heap [] := va_S.rf
  have hG : MG [1, 2, 3, 6, 7, 13, 14, 15, 20, 21, 22] st st := MG.rf hI
  have hl := lv_entry ([.ref (ar 0)]) (n := 2) (Nat.le_of_ble_eq_true rfl)
  rw [lg_entry_eq]
  generalize (lg_sl ([.ref (ar 0)]) ++ List.replicate (2 - (lg_sl ([.ref (ar 0)])).length) Slot.unset).toArray = ls at hl ⊢
  have hl : lv_has ls 2 [(0, .ref (ar 0))] := hl
  clear hI
  have hB1 := hB.2.2.1
  have hB2 := hB.2.2.2.1
  have hF : FM 6 st sl st sl := FM.rf
  have hp9 := hT.2.2.2.2.2.2
  have hk1 := tkd_lt (B := B) (g := g) (m := m) (p := p)
  have hk2 := tkx_le (B := B) (g := g) (m := m) (p := p) hp9
  have hk3 := tka_le (B := B) (g := g) (m := m) (p := p) hp9 hB.2.2.1
  have hk4 := tkv_lt (p := p) hB hp9
  have hk5 := tkw_lt (B := B) (g := g) (m := m) (p := p)
  have hR9 := hR.2.1
  refine lv_aload_n hx hb dX12_readAnd_0 rfl (lv_at hl 0 rfl) ?_
  refine va_calli (va_runV (As := []) (rest := []) ⟨hx, hb, hml, hown, hts⟩ (f_readSaid_1 l dC dI ar cy _ hN st sl B g m p c nm gn go hG.1 (MBt.fr hB hF) hT hR (by rw [h43]) (by rw [h44]) (by rw [h45]) (by omega) (by omega)) (cwV 0 hts gX12_readAnd_X12_readSaid rfl rfl rfl (by decide +kernel) ⟨Nat.le_of_ble_eq_true rfl, Nat.le_of_ble_eq_true rfl⟩) ⟨fun a U g mk q => ⟨q.1, mPre.blind q.2⟩, va_recv hK hP (ci := 11) (q0 := 0) rfl rfl, fun U hU hW => ⟨rfl, mPre.of hP hK hU hW⟩⟩ rfl rfl hl.1 rfl (lv_room (Nat.le_of_ble_eq_true rfl)) dX12_readAnd_1 ⟨Nat.le_of_ble_eq_true rfl, Nat.le_of_ble_eq_true rfl⟩) hS (fun q _ h => MA.le hS.1 q h) (MA.le hS.1) (fun r1 x t H locs ht hvm hw hB9 _ _ hS => ?_)
  have hP := mB.at ht hB9
  clear hB9 ht hvm
  obtain ⟨st2, sl3⟩ := x
  obtain ⟨hG2, hF2, hw⟩ := hw
  dsimp only at hG2 hF2 hw
  have hP : va_P (dC, dI) vwCl (mw ar cy st2 sl3) _ := hP
  have hG : MG [1, 2, 3, 6, 7, 13, 14, 15, 20, 21, 22] st st2 := hG.tr hG2 (by decide)
  have hFst2 : FM 6 st sl st2 sl3 := hF2
  have hF : FM 6 st sl st2 sl3 := hF.tr hFst2 (by omega) (by omega)
  clear hG2 hF2
  have hR : RN c nm st2 sl3 := hR.fr hFst2
  rcases hw with ⟨n4, n5, n6, n7, rfl, hT, hf8, hf9, hf10, hf11, hf12, hf13, hf14, hf15, hf16, hf17, hk18⟩ | ⟨n19, n20, rfl, hf21, hf22, hf23, hf24, hf25⟩
  · have hp9 := hT.2.2.2.2.2.2
    have hk1 := tkd_lt (B := B) (g := g) (m := m) (p := n4)
    have hk2 := tkx_le (B := B) (g := g) (m := m) (p := n4) hp9
    have hk3 := tka_le (B := B) (g := g) (m := m) (p := n4) hp9 hB.2.2.1
    have hk4 := tkv_lt (p := n4) hB hp9
    have hk5 := tkw_lt (B := B) (g := g) (m := m) (p := n4)
    refine lv_if_ne (tgt := 9) hx hb dX12_readAnd_4 (by decide) (fun _ => ?_) (fun cc => absurd cc (by decide))
    refine lv_aload_n hx hb dX12_readAnd_9 rfl (lv_at hl 0 rfl) ?_
    refine va_get (D := (dC, dI)) (ci := 11) (v := .int (st2 0 46)) (C := RX12) (T := TX12) (N := 47) hx hb hts ii_X12_readAnd hown hK hP 0 rfl rfl 46 (by decide) (hts _ mm_X12_readAnd_1) (fun _ hh => hh) rfl dX12_readAnd_10 ?_
    refine zz_top (v := (nI n7)) (by show st2 0 46 = _; rw [hf11]) ?_
    refine lv_istore_n (lv' := [(1, .int (nI n7)), (0, .ref (ar 0))]) hx hb dX12_readAnd_13 rfl hl (by decide) rfl (fun ls hl => ?_)
    refine zz_wf (fun n stk H locs ls => ∃ k26 : Nat, ∃ st27 : Nat → Nat → Int32, ∃ sl28 : Nat → Nat → Int64, ∃ n29 : Nat, ∃ o30 : Nat, n = 21 - o30 ∧ 0 ≤ k26 ∧ k26 < 60 ∧ st27 0 43 = nI n29 ∧ st27 0 44 = nI o30 ∧ k26 < n29 ∧ n29 + 2 * go + 1 ≤ gn + 2 * o30 ∧ go + 1 ≤ o30 ∧ o30 ≤ 20 ∧ gn ≤ n29 ∧ st27 0 45 = 1 ∧ (∃ (p7 : Nat), TM B g m p7 st27 sl28 ∧ RN c nm st27 sl28 ∧ sCond B g m (sOne B g m c nm 7) p go = sLoop B g m (sOne B g m c nm 7) 21 p7 o30) ∧ FM 6 st sl st27 sl28 ∧ st27 0 10 = st 0 10 ∧ va_P (dC, dI) vwCl (mw ar cy st27 sl28) H ∧ MG [1, 2, 3, 6, 7, 13, 14, 15, 20, 21, 22] st st27 ∧ va_S (MA ar s.heap.size) s.heap H locs ∧ lv_has ls 2 [(1, .int (nI k26)), (0, .ref (ar 0))] ∧ stk = []) ?_ (21 - n6) _ _ _ _ ⟨n7, st2, sl3, n5, n6, rfl, by omega, by omega, by rw [hf8], by rw [hf9], by omega, by omega, by omega, by omega, by omega, by rw [hf10], ⟨n4, hT, hR, sC_y hf17⟩, hF, by show st2 0 10 = st 0 10; rw [hk18], hP, hG, hS, lv_sub hl [0, 1] rfl, rfl⟩
    rintro nn stk H locs ls ⟨k26, st27, sl28, n29, o30, hm41, hv31_0, hv32_1, en29, eo30, hv33_0, hv34_1, hv35_2, hv36_3, hv37_4, hv38_5, hv39_6, hv40_7, hv41_8, hP, hG, hS, hl, rfl⟩ ih42
    have hF := hv40_7
    have hK10 := hv41_8
    obtain ⟨p7, hT, hR, hco⟩ := hv39_6
    have hp9 := hT.2.2.2.2.2.2
    have hk1 := tkd_lt (B := B) (g := g) (m := m) (p := p7)
    have hk2 := tkx_le (B := B) (g := g) (m := m) (p := p7) hp9
    have hk3 := tka_le (B := B) (g := g) (m := m) (p := p7) hp9 hB.2.2.1
    have hk4 := tkv_lt (p := p7) hB hp9
    have hk5 := tkw_lt (B := B) (g := g) (m := m) (p := p7)
    refine lv_aload_n hx hb dX12_readAnd_14 rfl (lv_at hl 1 rfl) ?_
    refine lv_bipush (v := 14) hx hb dX12_readAnd_15 (by decide) ?_
    refine va_calli (va_runV (As := [.int 14]) (rest := []) ⟨hx, hb, hml, hown, hts⟩ (f_isWord14 l dC dI ar cy _ hN st27 sl28 B g m p7 hG.1 (MBt.fr hB hF) hT) (cwV 1 hts gX12_readAnd_X12_isWord rfl rfl rfl (by decide +kernel) ⟨Nat.le_of_ble_eq_true rfl, Nat.le_of_ble_eq_true rfl⟩) ⟨fun a U g mk q => ⟨q.1, mPre.blind q.2⟩, va_recv hK hP (ci := 11) (q0 := 0) rfl rfl, fun U hU hW => ⟨rfl, mPre.of hP hK hU hW⟩⟩ rfl rfl hl.1 rfl (lv_room (Nat.le_of_ble_eq_true rfl)) dX12_readAnd_17 ⟨Nat.le_of_ble_eq_true rfl, Nat.le_of_ble_eq_true rfl⟩) hS (fun q _ h => MA.le hS.1 q h) (MA.le hS.1) (fun r43 x t H locs ht hvm hw hB9 _ _ hS => ?_)
    have hP := mB.at ht hB9
    clear hB9 ht hvm
    obtain ⟨rfl, hw⟩ := hw
    have hP : va_P (dC, dI) vwCl (mw ar cy st27 sl28) _ := hP
    rcases hw with ⟨rfl, hf44⟩ | ⟨rfl, hf45⟩
    · refine lv_if_eq (tgt := 51) hx hb dX12_readAnd_20 (by decide) (fun cc => absurd cc (by decide)) (fun _ => ?_)
      refine lv_aload_n hx hb dX12_readAnd_23 rfl (lv_at hl 1 rfl) ?_
      refine va_callv (va_runV (As := []) (rest := []) ⟨hx, hb, hml, hown, hts⟩ (f_go l dC dI ar cy _ hN st27 sl28 B g m (tkx B g m p7) hG.1 (MBt.fr hB hF) hT.1 hk2.2) (cwV 0 hts gX12_readAnd_X12_go rfl rfl rfl (by decide +kernel) ⟨Nat.le_of_ble_eq_true rfl, Nat.le_of_ble_eq_true rfl⟩) ⟨fun a U g mk q => ⟨q.1, mPre.blind q.2⟩, va_recv hK hP (ci := 11) (q0 := 0) rfl rfl, fun U hU hW => ⟨rfl, mPre.of hP hK hU hW⟩⟩ rfl rfl hl.1 rfl (lv_room (Nat.le_of_ble_eq_true rfl)) dX12_readAnd_24 ⟨Nat.le_of_ble_eq_true rfl, Nat.le_of_ble_eq_true rfl⟩) hS (fun q _ h => MA.le hS.1 q h) (MA.le hS.1) (fun x t H locs ht hvm hw hB9 _ _ hS => ?_)
      have hP := mB.at ht hB9
      clear hB9 ht hvm
      obtain ⟨st47, sl48⟩ := x
      obtain ⟨hG2, hF2, hw⟩ := hw
      dsimp only at hG2 hF2 hw
      have hP : va_P (dC, dI) vwCl (mw ar cy st47 sl48) _ := hP
      have hG : MG [1, 2, 3, 6, 7, 13, 14, 15, 20, 21, 22] st st47 := hG.tr hG2 (by decide)
      have hFst47 : FM 1 st27 sl28 st47 sl48 := hF2
      have hF : FM 6 st sl st47 sl48 := hF.tr hFst47 (by omega) (by omega)
      clear hG2 hF2
      have hR : RN c nm st47 sl48 := hR.fr hFst47
      have hT := hw
      have hp9 := hT.2.2.2.2.2.2
      have hk1 := tkd_lt (B := B) (g := g) (m := m) (p := (tkx B g m p7))
      have hk2 := tkx_le (B := B) (g := g) (m := m) (p := (tkx B g m p7)) hp9
      have hk3 := tka_le (B := B) (g := g) (m := m) (p := (tkx B g m p7)) hp9 hB.2.2.1
      have hk4 := tkv_lt (p := (tkx B g m p7)) hB hp9
      have hk5 := tkw_lt (B := B) (g := g) (m := m) (p := (tkx B g m p7))
      refine lv_aload_n hx hb dX12_readAnd_27 rfl (lv_at hl 1 rfl) ?_
      refine va_calli (va_runV (As := []) (rest := []) ⟨hx, hb, hml, hown, hts⟩ (f_readSaid_1 l dC dI ar cy _ hN st47 sl48 B g m (tkx B g m p7) c nm n29 o30 hG.1 (MBt.fr hB hF) hT hR (by rw [(hFst47 0 43 (by decide)).1, en29]) (by rw [(hFst47 0 44 (by decide)).1, eo30]) (by rw [(hFst47 0 45 (by decide)).1, hv38_5]) (by omega) (by omega)) (cwV 0 hts gX12_readAnd_X12_readSaid rfl rfl rfl (by decide +kernel) ⟨Nat.le_of_ble_eq_true rfl, Nat.le_of_ble_eq_true rfl⟩) ⟨fun a U g mk q => ⟨q.1, mPre.blind q.2⟩, va_recv hK hP (ci := 11) (q0 := 0) rfl rfl, fun U hU hW => ⟨rfl, mPre.of hP hK hU hW⟩⟩ rfl rfl hl.1 rfl (lv_room (Nat.le_of_ble_eq_true rfl)) dX12_readAnd_28 ⟨Nat.le_of_ble_eq_true rfl, Nat.le_of_ble_eq_true rfl⟩) hS (fun q _ h => MA.le hS.1 q h) (MA.le hS.1) (fun r49 x t H locs ht hvm hw hB9 _ _ hS => ?_)
      have hP := mB.at ht hB9
      clear hB9 ht hvm
      obtain ⟨st50, sl51⟩ := x
      obtain ⟨hG2, hF2, hw⟩ := hw
      dsimp only at hG2 hF2 hw
      have hP : va_P (dC, dI) vwCl (mw ar cy st50 sl51) _ := hP
      have hG : MG [1, 2, 3, 6, 7, 13, 14, 15, 20, 21, 22] st st50 := hG.tr hG2 (by decide)
      have hFst50 : FM 6 st47 sl48 st50 sl51 := hF2
      have hF : FM 6 st sl st50 sl51 := hF.tr hFst50 (by omega) (by omega)
      clear hG2 hF2
      have hR : RN c nm st50 sl51 := hR.fr hFst50
      rcases hw with ⟨n52, n53, n54, n55, rfl, hT, hf56, hf57, hf58, hf59, hf60, hf61, hf62, hf63, hf64, hf65, hk66⟩ | ⟨n67, n68, rfl, hf69, hf70, hf71, hf72, hf73⟩
      · have hp9 := hT.2.2.2.2.2.2
        have hk1 := tkd_lt (B := B) (g := g) (m := m) (p := n52)
        have hk2 := tkx_le (B := B) (g := g) (m := m) (p := n52) hp9
        have hk3 := tka_le (B := B) (g := g) (m := m) (p := n52) hp9 hB.2.2.1
        have hk4 := tkv_lt (p := n52) hB hp9
        have hk5 := tkw_lt (B := B) (g := g) (m := m) (p := n52)
        refine lv_if_ne (tgt := 36) hx hb dX12_readAnd_31 (by decide) (fun _ => ?_) (fun cc => absurd cc (by decide))
        refine lv_aload_n hx hb dX12_readAnd_36 rfl (lv_at hl 1 rfl) ?_
        refine lv_iconst (v := 2) hx hb dX12_readAnd_37 (by decide) ?_
        refine lv_iload_n hx hb dX12_readAnd_38 rfl (lv_at hl 0 rfl) ?_
        refine lv_aload_n hx hb dX12_readAnd_39 rfl (lv_at hl 1 rfl) ?_
        refine va_get (D := (dC, dI)) (ci := 11) (v := .int (st50 0 46)) (C := RX12) (T := TX12) (N := 47) hx hb hts ii_X12_readAnd hown hK hP 0 rfl rfl 46 (by decide) (hts _ mm_X12_readAnd_1) (fun _ hh => hh) rfl dX12_readAnd_40 ?_
        refine zz_top (v := (nI n55)) (by show st50 0 46 = _; rw [hf59]) ?_
        refine lv_iconst (v := 0) hx hb dX12_readAnd_43 (by decide) ?_
        refine va_calli (va_runV (As := [.int 2, .int (nI k26), .int (nI n55), .int 0]) (rest := []) ⟨hx, hb, hml, hown, hts⟩ (f_saysOne l dC dI ar cy _ hN st50 sl51 2 (nI k26) (nI n55) 0 B g m n52 n53 hG.1 (MBt.fr hB hF) hT (by rw [hf56]) (by omega)) (cwV 4 hts gX12_readAnd_X12_saysOne rfl rfl rfl (by decide +kernel) ⟨Nat.le_of_ble_eq_true rfl, Nat.le_of_ble_eq_true rfl⟩) ⟨fun a U g mk q => ⟨q.1, mPre.blind q.2⟩, va_recv hK hP (ci := 11) (q0 := 0) rfl rfl, fun U hU hW => ⟨rfl, mPre.of hP hK hU hW⟩⟩ rfl rfl hl.1 rfl (lv_room (Nat.le_of_ble_eq_true rfl)) dX12_readAnd_44 ⟨Nat.le_of_ble_eq_true rfl, Nat.le_of_ble_eq_true rfl⟩) hS (fun q _ h => MA.le hS.1 q h) (MA.le hS.1) (fun r74 x t H locs ht hvm hw hB9 _ _ hS => ?_)
        have hP := mB.at ht hB9
        clear hB9 ht hvm
        obtain ⟨st75, sl76⟩ := x
        obtain ⟨hG2, hF2, hw⟩ := hw
        dsimp only at hG2 hF2 hw
        have hP : va_P (dC, dI) vwCl (mw ar cy st75 sl76) _ := hP
        have hG : MG [1, 2, 3, 6, 7, 13, 14, 15, 20, 21, 22] st st75 := hG.tr hG2 (by decide)
        have hFst75 : FM 5 st50 sl51 st75 sl76 := hF2
        have hF : FM 6 st sl st75 sl76 := hF.tr hFst75 (by omega) (by omega)
        clear hG2 hF2
        have hR : RN c nm st75 sl76 := hR.fr hFst75
        obtain ⟨n77, rfl, hf78, hf79, hT, hk80⟩ := hw
        have hp9 := hT.2.2.2.2.2.2
        have hk1 := tkd_lt (B := B) (g := g) (m := m) (p := n52)
        have hk2 := tkx_le (B := B) (g := g) (m := m) (p := n52) hp9
        have hk3 := tka_le (B := B) (g := g) (m := m) (p := n52) hp9 hB.2.2.1
        have hk4 := tkv_lt (p := n52) hB hp9
        have hk5 := tkw_lt (B := B) (g := g) (m := m) (p := n52)
        refine lv_istore_n (lv' := [(1, .int (nI n77)), (0, .ref (ar 0))]) hx hb dX12_readAnd_47 rfl hl (by decide) rfl (fun ls hl => ?_)
        refine lv_goto (tgt := 14) hx hb dX12_readAnd_48 (by decide) ?_
        exact ih42 (21 - n54) _ _ _ _ (by omega) ⟨n77, st75, sl76, (n53 + 1), n54, rfl, by omega, by omega, by rw [hf79], by rw [(hFst75 0 44 (by decide)).1, hf57], by omega, by omega, by omega, by omega, by omega, by rw [(hFst75 0 45 (by decide)).1, hf58], ⟨n52, hT, hR, hco.trans (sL_y (sOne_pr _) (by omega) (by omega) hf65)⟩, hF, by show st75 0 10 = st 0 10; rw [hk80, hk66, (hFst47 0 10 (by decide)).1, hK10], hP, hG, hS, lv_sub hl [0, 1] rfl, rfl⟩
      · refine lv_if_ne (tgt := 36) hx hb dX12_readAnd_31 (by decide) (fun cc => absurd (by decide) cc) (fun _ => ?_)
        refine lv_iconst (v := 0) hx hb dX12_readAnd_34 (by decide) ?_
        exact W.zret (v := 0) hx hb hr rfl (fun t ht hW => ⟨⟨0, (st50, sl51), rfl, ⟨hG, hF, Or.inr (⟨n67, n68, rfl, by show st50 0 10 = _; rw [hf69], by show st50 0 11 = _; rw [hf70], hf71, hco.trans (sL_f (by omega) hf72 hf71), by show st50 0 45 = _; rw [hf73]⟩)⟩, mB.of ht hP⟩, hS.F ht⟩) hS.2.2 dX12_readAnd_35
    · refine lv_if_eq (tgt := 51) hx hb dX12_readAnd_20 (by decide) (fun _ => ?_) (fun cc => absurd (by decide) cc)
      refine lv_aload_n hx hb dX12_readAnd_51 rfl (lv_at hl 1 rfl) ?_
      refine lv_iload_n hx hb dX12_readAnd_52 rfl (lv_at hl 0 rfl) ?_
      refine va_put (D := (dC, dI)) (ci := 11) (v := .int (nI k26)) (ty := .int) (C := RX12) (T := TX12) (N := 47) hx hb hts ii_X12_readAnd tyX12 tyX12_ok nmX12 hown hK hP (mD hN _ _ _ _) hS 0 rfl rfl 46 (by decide) (hts _ mm_X12_readAnd_1) (fun _ hh => hh) rfl (by decide +kernel) rfl rfl (Nat.le_of_ble_eq_true rfl) dX12_readAnd_53 (fun H locs hP _ hS => ?_)
      have hP : va_P (dC, dI) vwCl (mw ar cy (up2 st27 0 46 (nI k26)) sl28) H := hP
      obtain ⟨st81, est81⟩ : ∃ y, y = up2 st27 0 46 (nI k26) := ⟨_, rfl⟩
      have hG : MG [1, 2, 3, 6, 7, 13, 14, 15, 20, 21, 22] st st81 := by rw [est81]; exact hG.up (rn (n := k26) (by decide : mr 0 46 = 60) (by omega)) (pn (by decide : pcl 0 46 = 12) (by decide))
      rw [← est81] at hP
      have hF : FM 6 st sl st81 sl28 := by rw [est81]; exact hF.up (by decide)
      have hT : TM B g m p7 st81 sl28 := by rw [est81]; exact hT.up (by omega)
      have hR : RN c nm st81 sl28 := by rw [est81]; exact hR.up (by omega)
      refine lv_iconst (v := 1) hx hb dX12_readAnd_56 (by decide) ?_
      exact W.zret (v := 1) hx hb hr rfl (fun t ht hW => ⟨⟨1, (st81, sl28), rfl, ⟨hG, hF, Or.inl (⟨p7, n29, o30, k26, rfl, hT, by show st81 0 43 = _; rw [est81, up2_ne (r := 0) (k := 46) (a := 0) (j := 43) _ _ (by omega), en29], by show st81 0 44 = _; rw [est81, up2_ne (r := 0) (k := 46) (a := 0) (j := 44) _ _ (by omega), eo30], by show st81 0 45 = _; rw [est81, up2_ne (r := 0) (k := 46) (a := 0) (j := 45) _ _ (by omega), hv38_5], by show st81 0 46 = _; rw [est81, up2_same], by omega, by omega, by omega, by omega, by omega, hco, by omega, by show st81 0 10 = st 0 10; rw [est81, up2_ne (r := 0) (k := 46) (a := 0) (j := 10) _ _ (by omega), hK10]⟩)⟩, mB.of ht hP⟩, hS.F ht⟩) hS.2.2 dX12_readAnd_57
  · refine lv_if_ne (tgt := 9) hx hb dX12_readAnd_4 (by decide) (fun cc => absurd (by decide) cc) (fun _ => ?_)
    refine lv_iconst (v := 0) hx hb dX12_readAnd_7 (by decide) ?_
    exact W.zret (v := 0) hx hb hr rfl (fun t ht hW => ⟨⟨0, (st2, sl3), rfl, ⟨hG, hF, Or.inr (⟨n19, n20, rfl, by show st2 0 10 = _; rw [hf21], by show st2 0 11 = _; rw [hf22], hf23, sC_f hf24 hf23, by show st2 0 45 = _; rw [hf25]⟩)⟩, mB.of ht hP⟩, hS.F ht⟩) hS.2.2 dX12_readAnd_8
set_option maxHeartbeats 4000000 in
set_option maxRecDepth 100000 in
theorem f_readOr_1 (l : Launch) (dC : Nat → ClassId) (dI : Nat → Nat → Nat) (ar : Nat → Nat) (cy : Nat → ClassId) (sz : Nat) (hN : MN ar) (st : Nat → Nat → Int32) (sl : Nat → Nat → Int64) (B : Nat → Nat) (g m : Nat) (p : Nat) (c : Nat → Nat) (nm : Nat → Nat → Nat) (gn : Nat) (go : Nat) (hI : MI st) (hB : MBt B g m st) (hT : TM B g m p st sl) (hR : RN c nm st sl) (h43 : st 0 43 = nI gn) (h44 : st 0 44 = nI go) (h45 : st 0 45 = 1) (hgn : gn ≤ 2 * go) (hgo : go ≤ 20) : Met l yX12_readOr wsX12_readOr ({ frames := 33, cells := 0, slots := 0, locals := 708 }) (va_Pc [.ref (ar 0)] (mPre dC dI ar cy sz st sl)) (va_Qi (fun (r : Int32) (x : MT) => MG [1, 2, 3, 6, 7, 13, 14, 15, 20, 21, 22] st x.1 ∧ FM 6 st sl x.1 x.2 ∧ ((∃ q : Nat, ∃ n1 : Nat, ∃ o1 : Nat, ∃ t1 : Nat, r = 1 ∧ TM B g m q x.1 x.2 ∧ x.1 0 43 = nI n1 ∧ x.1 0 44 = nI o1 ∧ x.1 0 45 = 1 ∧ x.1 0 46 = nI t1 ∧ t1 < n1 ∧ n1 + 2 * go + 1 ≤ gn + 2 * o1 ∧ go + 1 ≤ o1 ∧ o1 ≤ 20 ∧ gn ≤ n1 ∧ sCond B g m (sOne B g m c nm 7) p go = (0, q, o1) ∧ x.1 0 10 = st 0 10) ∨ (∃ f : Nat, ∃ a : Nat, r = 0 ∧ x.1 0 10 = nI f ∧ x.1 0 11 = nI a ∧ 1 ≤ f ∧ sCond B g m (sOne B g m c nm 7) p go = sf f a ∧ x.1 0 45 = 1))) (mB dC dI ar cy) (MA ar sz)) 0 0 (MA ar sz) := by
  refine Met.ofW (cc := cX12_readOr) (maxL := 2) (ret := (some .boolean)) (by decide) rfl ?_
  intro p9 e s m9 args below meth c9 s₁ B9 hml hv
  obtain ⟨rfl, hsz, hP, hK⟩ := hv
  have hx := B9.exec
  have hb := B9.bytes
  have hr := B9.returns
  have hts := atoms_spec (ws := wsX12_readOr) B9.pre
  have hown : s.vm.findClass RX12 = some m9.cls := findClass_of_methodNamed B9.named
  subst hsz
  have hS : va_S (MA ar s.heap.size) s.heap s.heap [] := va_S.rf
  have hG : MG [1, 2, 3, 6, 7, 13, 14, 15, 20, 21, 22] st st := MG.rf hI
  have hl := lv_entry ([.ref (ar 0)]) (n := 2) (Nat.le_of_ble_eq_true rfl)
  rw [lg_entry_eq]
  generalize (lg_sl ([.ref (ar 0)]) ++ List.replicate (2 - (lg_sl ([.ref (ar 0)])).length) Slot.unset).toArray = ls at hl ⊢
  have hl : lv_has ls 2 [(0, .ref (ar 0))] := hl
  clear hI
  have hB1 := hB.2.2.1
  have hB2 := hB.2.2.2.1
  have hF : FM 6 st sl st sl := FM.rf
  have hp9 := hT.2.2.2.2.2.2
  have hk1 := tkd_lt (B := B) (g := g) (m := m) (p := p)
  have hk2 := tkx_le (B := B) (g := g) (m := m) (p := p) hp9
  have hk3 := tka_le (B := B) (g := g) (m := m) (p := p) hp9 hB.2.2.1
  have hk4 := tkv_lt (p := p) hB hp9
  have hk5 := tkw_lt (B := B) (g := g) (m := m) (p := p)
  have hR9 := hR.2.1
  refine lv_aload_n hx hb dX12_readOr_0 rfl (lv_at hl 0 rfl) ?_
  refine va_calli (va_runV (As := []) (rest := []) ⟨hx, hb, hml, hown, hts⟩ (f_readAnd_1 l dC dI ar cy _ hN st sl B g m p c nm gn go hG.1 (MBt.fr hB hF) hT hR (by rw [h43]) (by rw [h44]) (by rw [h45]) (by omega) (by omega)) (cwV 0 hts gX12_readOr_X12_readAnd rfl rfl rfl (by decide +kernel) ⟨Nat.le_of_ble_eq_true rfl, Nat.le_of_ble_eq_true rfl⟩) ⟨fun a U g mk q => ⟨q.1, mPre.blind q.2⟩, va_recv hK hP (ci := 11) (q0 := 0) rfl rfl, fun U hU hW => ⟨rfl, mPre.of hP hK hU hW⟩⟩ rfl rfl hl.1 rfl (lv_room (Nat.le_of_ble_eq_true rfl)) dX12_readOr_1 ⟨Nat.le_of_ble_eq_true rfl, Nat.le_of_ble_eq_true rfl⟩) hS (fun q _ h => MA.le hS.1 q h) (MA.le hS.1) (fun r1 x t H locs ht hvm hw hB9 _ _ hS => ?_)
  have hP := mB.at ht hB9
  clear hB9 ht hvm
  obtain ⟨st2, sl3⟩ := x
  obtain ⟨hG2, hF2, hw⟩ := hw
  dsimp only at hG2 hF2 hw
  have hP : va_P (dC, dI) vwCl (mw ar cy st2 sl3) _ := hP
  have hG : MG [1, 2, 3, 6, 7, 13, 14, 15, 20, 21, 22] st st2 := hG.tr hG2 (by decide)
  have hFst2 : FM 6 st sl st2 sl3 := hF2
  have hF : FM 6 st sl st2 sl3 := hF.tr hFst2 (by omega) (by omega)
  clear hG2 hF2
  have hR : RN c nm st2 sl3 := hR.fr hFst2
  rcases hw with ⟨n4, n5, n6, n7, rfl, hT, hf8, hf9, hf10, hf11, hf12, hf13, hf14, hf15, hf16, hf17, hf18, hk19⟩ | ⟨n20, n21, rfl, hf22, hf23, hf24, hf25, hf26⟩
  · have hp9 := hT.2.2.2.2.2.2
    have hk1 := tkd_lt (B := B) (g := g) (m := m) (p := n4)
    have hk2 := tkx_le (B := B) (g := g) (m := m) (p := n4) hp9
    have hk3 := tka_le (B := B) (g := g) (m := m) (p := n4) hp9 hB.2.2.1
    have hk4 := tkv_lt (p := n4) hB hp9
    have hk5 := tkw_lt (B := B) (g := g) (m := m) (p := n4)
    refine lv_if_ne (tgt := 9) hx hb dX12_readOr_4 (by decide) (fun _ => ?_) (fun cc => absurd cc (by decide))
    refine lv_aload_n hx hb dX12_readOr_9 rfl (lv_at hl 0 rfl) ?_
    refine va_get (D := (dC, dI)) (ci := 11) (v := .int (st2 0 46)) (C := RX12) (T := TX12) (N := 47) hx hb hts ii_X12_readOr hown hK hP 0 rfl rfl 46 (by decide) (hts _ mm_X12_readOr_1) (fun _ hh => hh) rfl dX12_readOr_10 ?_
    refine zz_top (v := (nI n7)) (by show st2 0 46 = _; rw [hf11]) ?_
    refine lv_istore_n (lv' := [(1, .int (nI n7)), (0, .ref (ar 0))]) hx hb dX12_readOr_13 rfl hl (by decide) rfl (fun ls hl => ?_)
    refine zz_wf (fun n stk H locs ls => ∃ k27 : Nat, ∃ st28 : Nat → Nat → Int32, ∃ sl29 : Nat → Nat → Int64, ∃ n30 : Nat, ∃ o31 : Nat, n = 21 - o31 ∧ 0 ≤ k27 ∧ k27 < 60 ∧ st28 0 43 = nI n30 ∧ st28 0 44 = nI o31 ∧ k27 < n30 ∧ n30 + 2 * go + 1 ≤ gn + 2 * o31 ∧ go + 1 ≤ o31 ∧ o31 ≤ 20 ∧ gn ≤ n30 ∧ st28 0 45 = 1 ∧ (∃ (p7 : Nat), TM B g m p7 st28 sl29 ∧ RN c nm st28 sl29 ∧ sCond B g m (sOne B g m c nm 7) p go = sLoop B g m (sOne B g m c nm 7) 21 p7 o31 ∧ ¬ tkw B g m p7 = 14) ∧ FM 6 st sl st28 sl29 ∧ st28 0 10 = st 0 10 ∧ va_P (dC, dI) vwCl (mw ar cy st28 sl29) H ∧ MG [1, 2, 3, 6, 7, 13, 14, 15, 20, 21, 22] st st28 ∧ va_S (MA ar s.heap.size) s.heap H locs ∧ lv_has ls 2 [(1, .int (nI k27)), (0, .ref (ar 0))] ∧ stk = []) ?_ (21 - n6) _ _ _ _ ⟨n7, st2, sl3, n5, n6, rfl, by omega, by omega, by rw [hf8], by rw [hf9], by omega, by omega, by omega, by omega, by omega, by rw [hf10], ⟨n4, hT, hR, hf17, hf18⟩, hF, by show st2 0 10 = st 0 10; rw [hk19], hP, hG, hS, lv_sub hl [0, 1] rfl, rfl⟩
    rintro nn stk H locs ls ⟨k27, st28, sl29, n30, o31, hm42, hv32_0, hv33_1, en30, eo31, hv34_0, hv35_1, hv36_2, hv37_3, hv38_4, hv39_5, hv40_6, hv41_7, hv42_8, hP, hG, hS, hl, rfl⟩ ih43
    have hF := hv41_7
    have hK10 := hv42_8
    obtain ⟨p7, hT, hR, hco, hna⟩ := hv40_6
    have hp9 := hT.2.2.2.2.2.2
    have hk1 := tkd_lt (B := B) (g := g) (m := m) (p := p7)
    have hk2 := tkx_le (B := B) (g := g) (m := m) (p := p7) hp9
    have hk3 := tka_le (B := B) (g := g) (m := m) (p := p7) hp9 hB.2.2.1
    have hk4 := tkv_lt (p := p7) hB hp9
    have hk5 := tkw_lt (B := B) (g := g) (m := m) (p := p7)
    refine lv_aload_n hx hb dX12_readOr_14 rfl (lv_at hl 1 rfl) ?_
    refine lv_bipush (v := 13) hx hb dX12_readOr_15 (by decide) ?_
    refine va_calli (va_runV (As := [.int 13]) (rest := []) ⟨hx, hb, hml, hown, hts⟩ (f_isWord13 l dC dI ar cy _ hN st28 sl29 B g m p7 hG.1 (MBt.fr hB hF) hT) (cwV 1 hts gX12_readOr_X12_isWord rfl rfl rfl (by decide +kernel) ⟨Nat.le_of_ble_eq_true rfl, Nat.le_of_ble_eq_true rfl⟩) ⟨fun a U g mk q => ⟨q.1, mPre.blind q.2⟩, va_recv hK hP (ci := 11) (q0 := 0) rfl rfl, fun U hU hW => ⟨rfl, mPre.of hP hK hU hW⟩⟩ rfl rfl hl.1 rfl (lv_room (Nat.le_of_ble_eq_true rfl)) dX12_readOr_17 ⟨Nat.le_of_ble_eq_true rfl, Nat.le_of_ble_eq_true rfl⟩) hS (fun q _ h => MA.le hS.1 q h) (MA.le hS.1) (fun r44 x t H locs ht hvm hw hB9 _ _ hS => ?_)
    have hP := mB.at ht hB9
    clear hB9 ht hvm
    obtain ⟨rfl, hw⟩ := hw
    have hP : va_P (dC, dI) vwCl (mw ar cy st28 sl29) _ := hP
    rcases hw with ⟨rfl, hf45⟩ | ⟨rfl, hf46⟩
    · refine lv_if_eq (tgt := 51) hx hb dX12_readOr_20 (by decide) (fun cc => absurd cc (by decide)) (fun _ => ?_)
      refine lv_aload_n hx hb dX12_readOr_23 rfl (lv_at hl 1 rfl) ?_
      refine va_callv (va_runV (As := []) (rest := []) ⟨hx, hb, hml, hown, hts⟩ (f_go l dC dI ar cy _ hN st28 sl29 B g m (tkx B g m p7) hG.1 (MBt.fr hB hF) hT.1 hk2.2) (cwV 0 hts gX12_readOr_X12_go rfl rfl rfl (by decide +kernel) ⟨Nat.le_of_ble_eq_true rfl, Nat.le_of_ble_eq_true rfl⟩) ⟨fun a U g mk q => ⟨q.1, mPre.blind q.2⟩, va_recv hK hP (ci := 11) (q0 := 0) rfl rfl, fun U hU hW => ⟨rfl, mPre.of hP hK hU hW⟩⟩ rfl rfl hl.1 rfl (lv_room (Nat.le_of_ble_eq_true rfl)) dX12_readOr_24 ⟨Nat.le_of_ble_eq_true rfl, Nat.le_of_ble_eq_true rfl⟩) hS (fun q _ h => MA.le hS.1 q h) (MA.le hS.1) (fun x t H locs ht hvm hw hB9 _ _ hS => ?_)
      have hP := mB.at ht hB9
      clear hB9 ht hvm
      obtain ⟨st48, sl49⟩ := x
      obtain ⟨hG2, hF2, hw⟩ := hw
      dsimp only at hG2 hF2 hw
      have hP : va_P (dC, dI) vwCl (mw ar cy st48 sl49) _ := hP
      have hG : MG [1, 2, 3, 6, 7, 13, 14, 15, 20, 21, 22] st st48 := hG.tr hG2 (by decide)
      have hFst48 : FM 1 st28 sl29 st48 sl49 := hF2
      have hF : FM 6 st sl st48 sl49 := hF.tr hFst48 (by omega) (by omega)
      clear hG2 hF2
      have hR : RN c nm st48 sl49 := hR.fr hFst48
      have hT := hw
      have hp9 := hT.2.2.2.2.2.2
      have hk1 := tkd_lt (B := B) (g := g) (m := m) (p := (tkx B g m p7))
      have hk2 := tkx_le (B := B) (g := g) (m := m) (p := (tkx B g m p7)) hp9
      have hk3 := tka_le (B := B) (g := g) (m := m) (p := (tkx B g m p7)) hp9 hB.2.2.1
      have hk4 := tkv_lt (p := (tkx B g m p7)) hB hp9
      have hk5 := tkw_lt (B := B) (g := g) (m := m) (p := (tkx B g m p7))
      refine lv_aload_n hx hb dX12_readOr_27 rfl (lv_at hl 1 rfl) ?_
      refine va_calli (va_runV (As := []) (rest := []) ⟨hx, hb, hml, hown, hts⟩ (f_readAnd_1 l dC dI ar cy _ hN st48 sl49 B g m (tkx B g m p7) c nm n30 o31 hG.1 (MBt.fr hB hF) hT hR (by rw [(hFst48 0 43 (by decide)).1, en30]) (by rw [(hFst48 0 44 (by decide)).1, eo31]) (by rw [(hFst48 0 45 (by decide)).1, hv39_5]) (by omega) (by omega)) (cwV 0 hts gX12_readOr_X12_readAnd rfl rfl rfl (by decide +kernel) ⟨Nat.le_of_ble_eq_true rfl, Nat.le_of_ble_eq_true rfl⟩) ⟨fun a U g mk q => ⟨q.1, mPre.blind q.2⟩, va_recv hK hP (ci := 11) (q0 := 0) rfl rfl, fun U hU hW => ⟨rfl, mPre.of hP hK hU hW⟩⟩ rfl rfl hl.1 rfl (lv_room (Nat.le_of_ble_eq_true rfl)) dX12_readOr_28 ⟨Nat.le_of_ble_eq_true rfl, Nat.le_of_ble_eq_true rfl⟩) hS (fun q _ h => MA.le hS.1 q h) (MA.le hS.1) (fun r50 x t H locs ht hvm hw hB9 _ _ hS => ?_)
      have hP := mB.at ht hB9
      clear hB9 ht hvm
      obtain ⟨st51, sl52⟩ := x
      obtain ⟨hG2, hF2, hw⟩ := hw
      dsimp only at hG2 hF2 hw
      have hP : va_P (dC, dI) vwCl (mw ar cy st51 sl52) _ := hP
      have hG : MG [1, 2, 3, 6, 7, 13, 14, 15, 20, 21, 22] st st51 := hG.tr hG2 (by decide)
      have hFst51 : FM 6 st48 sl49 st51 sl52 := hF2
      have hF : FM 6 st sl st51 sl52 := hF.tr hFst51 (by omega) (by omega)
      clear hG2 hF2
      have hR : RN c nm st51 sl52 := hR.fr hFst51
      rcases hw with ⟨n53, n54, n55, n56, rfl, hT, hf57, hf58, hf59, hf60, hf61, hf62, hf63, hf64, hf65, hf66, hf67, hk68⟩ | ⟨n69, n70, rfl, hf71, hf72, hf73, hf74, hf75⟩
      · have hp9 := hT.2.2.2.2.2.2
        have hk1 := tkd_lt (B := B) (g := g) (m := m) (p := n53)
        have hk2 := tkx_le (B := B) (g := g) (m := m) (p := n53) hp9
        have hk3 := tka_le (B := B) (g := g) (m := m) (p := n53) hp9 hB.2.2.1
        have hk4 := tkv_lt (p := n53) hB hp9
        have hk5 := tkw_lt (B := B) (g := g) (m := m) (p := n53)
        refine lv_if_ne (tgt := 36) hx hb dX12_readOr_31 (by decide) (fun _ => ?_) (fun cc => absurd cc (by decide))
        refine lv_aload_n hx hb dX12_readOr_36 rfl (lv_at hl 1 rfl) ?_
        refine lv_iconst (v := 3) hx hb dX12_readOr_37 (by decide) ?_
        refine lv_iload_n hx hb dX12_readOr_38 rfl (lv_at hl 0 rfl) ?_
        refine lv_aload_n hx hb dX12_readOr_39 rfl (lv_at hl 1 rfl) ?_
        refine va_get (D := (dC, dI)) (ci := 11) (v := .int (st51 0 46)) (C := RX12) (T := TX12) (N := 47) hx hb hts ii_X12_readOr hown hK hP 0 rfl rfl 46 (by decide) (hts _ mm_X12_readOr_1) (fun _ hh => hh) rfl dX12_readOr_40 ?_
        refine zz_top (v := (nI n56)) (by show st51 0 46 = _; rw [hf60]) ?_
        refine lv_iconst (v := 0) hx hb dX12_readOr_43 (by decide) ?_
        refine va_calli (va_runV (As := [.int 3, .int (nI k27), .int (nI n56), .int 0]) (rest := []) ⟨hx, hb, hml, hown, hts⟩ (f_saysOne l dC dI ar cy _ hN st51 sl52 3 (nI k27) (nI n56) 0 B g m n53 n54 hG.1 (MBt.fr hB hF) hT (by rw [hf57]) (by omega)) (cwV 4 hts gX12_readOr_X12_saysOne rfl rfl rfl (by decide +kernel) ⟨Nat.le_of_ble_eq_true rfl, Nat.le_of_ble_eq_true rfl⟩) ⟨fun a U g mk q => ⟨q.1, mPre.blind q.2⟩, va_recv hK hP (ci := 11) (q0 := 0) rfl rfl, fun U hU hW => ⟨rfl, mPre.of hP hK hU hW⟩⟩ rfl rfl hl.1 rfl (lv_room (Nat.le_of_ble_eq_true rfl)) dX12_readOr_44 ⟨Nat.le_of_ble_eq_true rfl, Nat.le_of_ble_eq_true rfl⟩) hS (fun q _ h => MA.le hS.1 q h) (MA.le hS.1) (fun r76 x t H locs ht hvm hw hB9 _ _ hS => ?_)
        have hP := mB.at ht hB9
        clear hB9 ht hvm
        obtain ⟨st77, sl78⟩ := x
        obtain ⟨hG2, hF2, hw⟩ := hw
        dsimp only at hG2 hF2 hw
        have hP : va_P (dC, dI) vwCl (mw ar cy st77 sl78) _ := hP
        have hG : MG [1, 2, 3, 6, 7, 13, 14, 15, 20, 21, 22] st st77 := hG.tr hG2 (by decide)
        have hFst77 : FM 5 st51 sl52 st77 sl78 := hF2
        have hF : FM 6 st sl st77 sl78 := hF.tr hFst77 (by omega) (by omega)
        clear hG2 hF2
        have hR : RN c nm st77 sl78 := hR.fr hFst77
        obtain ⟨n79, rfl, hf80, hf81, hT, hk82⟩ := hw
        have hp9 := hT.2.2.2.2.2.2
        have hk1 := tkd_lt (B := B) (g := g) (m := m) (p := n53)
        have hk2 := tkx_le (B := B) (g := g) (m := m) (p := n53) hp9
        have hk3 := tka_le (B := B) (g := g) (m := m) (p := n53) hp9 hB.2.2.1
        have hk4 := tkv_lt (p := n53) hB hp9
        have hk5 := tkw_lt (B := B) (g := g) (m := m) (p := n53)
        refine lv_istore_n (lv' := [(1, .int (nI n79)), (0, .ref (ar 0))]) hx hb dX12_readOr_47 rfl hl (by decide) rfl (fun ls hl => ?_)
        refine lv_goto (tgt := 14) hx hb dX12_readOr_48 (by decide) ?_
        exact ih43 (21 - n55) _ _ _ _ (by omega) ⟨n79, st77, sl78, (n54 + 1), n55, rfl, by omega, by omega, by rw [hf81], by rw [(hFst77 0 44 (by decide)).1, hf58], by omega, by omega, by omega, by omega, by omega, by rw [(hFst77 0 45 (by decide)).1, hf59], ⟨n53, hT, hR, hco.trans ((sL_c (sOne_pr _) (by omega) (by omega)).trans hf66), hf67⟩, hF, by show st77 0 10 = st 0 10; rw [hk82, hk68, (hFst48 0 10 (by decide)).1, hK10], hP, hG, hS, lv_sub hl [0, 1] rfl, rfl⟩
      · refine lv_if_ne (tgt := 36) hx hb dX12_readOr_31 (by decide) (fun cc => absurd (by decide) cc) (fun _ => ?_)
        refine lv_iconst (v := 0) hx hb dX12_readOr_34 (by decide) ?_
        exact W.zret (v := 0) hx hb hr rfl (fun t ht hW => ⟨⟨0, (st51, sl52), rfl, ⟨hG, hF, Or.inr (⟨n69, n70, rfl, by show st51 0 10 = _; rw [hf71], by show st51 0 11 = _; rw [hf72], hf73, hco.trans ((sL_c (sOne_pr _) (by omega) (by omega)).trans hf74), by show st51 0 45 = _; rw [hf75]⟩)⟩, mB.of ht hP⟩, hS.F ht⟩) hS.2.2 dX12_readOr_35
    · refine lv_if_eq (tgt := 51) hx hb dX12_readOr_20 (by decide) (fun _ => ?_) (fun cc => absurd (by decide) cc)
      refine lv_aload_n hx hb dX12_readOr_51 rfl (lv_at hl 1 rfl) ?_
      refine lv_iload_n hx hb dX12_readOr_52 rfl (lv_at hl 0 rfl) ?_
      refine va_put (D := (dC, dI)) (ci := 11) (v := .int (nI k27)) (ty := .int) (C := RX12) (T := TX12) (N := 47) hx hb hts ii_X12_readOr tyX12 tyX12_ok nmX12 hown hK hP (mD hN _ _ _ _) hS 0 rfl rfl 46 (by decide) (hts _ mm_X12_readOr_1) (fun _ hh => hh) rfl (by decide +kernel) rfl rfl (Nat.le_of_ble_eq_true rfl) dX12_readOr_53 (fun H locs hP _ hS => ?_)
      have hP : va_P (dC, dI) vwCl (mw ar cy (up2 st28 0 46 (nI k27)) sl29) H := hP
      obtain ⟨st83, est83⟩ : ∃ y, y = up2 st28 0 46 (nI k27) := ⟨_, rfl⟩
      have hG : MG [1, 2, 3, 6, 7, 13, 14, 15, 20, 21, 22] st st83 := by rw [est83]; exact hG.up (rn (n := k27) (by decide : mr 0 46 = 60) (by omega)) (pn (by decide : pcl 0 46 = 12) (by decide))
      rw [← est83] at hP
      have hF : FM 6 st sl st83 sl29 := by rw [est83]; exact hF.up (by decide)
      have hT : TM B g m p7 st83 sl29 := by rw [est83]; exact hT.up (by omega)
      have hR : RN c nm st83 sl29 := by rw [est83]; exact hR.up (by omega)
      refine lv_iconst (v := 1) hx hb dX12_readOr_56 (by decide) ?_
      exact W.zret (v := 1) hx hb hr rfl (fun t ht hW => ⟨⟨1, (st83, sl29), rfl, ⟨hG, hF, Or.inl (⟨p7, n30, o31, k27, rfl, hT, by show st83 0 43 = _; rw [est83, up2_ne (r := 0) (k := 46) (a := 0) (j := 43) _ _ (by omega), en30], by show st83 0 44 = _; rw [est83, up2_ne (r := 0) (k := 46) (a := 0) (j := 44) _ _ (by omega), eo31], by show st83 0 45 = _; rw [est83, up2_ne (r := 0) (k := 46) (a := 0) (j := 45) _ _ (by omega), hv39_5], by show st83 0 46 = _; rw [est83, up2_same], by omega, by omega, by omega, by omega, by omega, hco.trans (sL_n (by omega)), by show st83 0 10 = st 0 10; rw [est83, up2_ne (r := 0) (k := 46) (a := 0) (j := 10) _ _ (by omega), hK10]⟩)⟩, mB.of ht hP⟩, hS.F ht⟩) hS.2.2 dX12_readOr_57
  · refine lv_if_ne (tgt := 9) hx hb dX12_readOr_4 (by decide) (fun cc => absurd (by decide) cc) (fun _ => ?_)
    refine lv_iconst (v := 0) hx hb dX12_readOr_7 (by decide) ?_
    exact W.zret (v := 0) hx hb hr rfl (fun t ht hW => ⟨⟨0, (st2, sl3), rfl, ⟨hG, hF, Or.inr (⟨n20, n21, rfl, by show st2 0 10 = _; rw [hf22], by show st2 0 11 = _; rw [hf23], hf24, hf25, by show st2 0 45 = _; rw [hf26]⟩)⟩, mB.of ht hP⟩, hS.F ht⟩) hS.2.2 dX12_readOr_8
set_option maxHeartbeats 4000000 in
set_option maxRecDepth 100000 in
theorem f_readBracket_1 (l : Launch) (dC : Nat → ClassId) (dI : Nat → Nat → Nat) (ar : Nat → Nat) (cy : Nat → ClassId) (sz : Nat) (hN : MN ar) (st : Nat → Nat → Int32) (sl : Nat → Nat → Int64) (B : Nat → Nat) (g m : Nat) (p : Nat) (c : Nat → Nat) (nm : Nat → Nat → Nat) (gn : Nat) (go : Nat) (hI : MI st) (hB : MBt B g m st) (hT : TM B g m p st sl) (hR : RN c nm st sl) (h43 : st 0 43 = nI gn) (h44 : st 0 44 = nI go) (h45 : st 0 45 = 1) (hgn : gn ≤ 2 * go) (hgo : go ≤ 20) : Met l yX12_readBracket wsX12_readBracket ({ frames := 34, cells := 0, slots := 0, locals := 729 }) (va_Pc [.ref (ar 0)] (mPre dC dI ar cy sz st sl)) (va_Qi (fun (r : Int32) (x : MT) => MG [1, 2, 3, 6, 7, 13, 14, 15, 20, 21, 22] st x.1 ∧ FM 6 st sl x.1 x.2 ∧ ((∃ q : Nat, ∃ n1 : Nat, ∃ o1 : Nat, ∃ t1 : Nat, r = 1 ∧ TM B g m q x.1 x.2 ∧ x.1 0 43 = nI n1 ∧ x.1 0 44 = nI o1 ∧ x.1 0 45 = 1 ∧ x.1 0 46 = nI t1 ∧ t1 < n1 ∧ n1 + 2 * go + 1 ≤ gn + 2 * o1 ∧ go + 1 ≤ o1 ∧ o1 ≤ 20 ∧ gn ≤ n1 ∧ sBra B g m (sCond B g m (sOne B g m c nm 7) p go) = (0, q, o1) ∧ x.1 0 10 = st 0 10) ∨ (∃ f : Nat, ∃ a : Nat, r = 0 ∧ x.1 0 10 = nI f ∧ x.1 0 11 = nI a ∧ 1 ≤ f ∧ sBra B g m (sCond B g m (sOne B g m c nm 7) p go) = sf f a ∧ x.1 0 45 = 1))) (mB dC dI ar cy) (MA ar sz)) 0 0 (MA ar sz) := by
  refine Met.ofW (cc := cX12_readBracket) (maxL := 1) (ret := (some .boolean)) (by decide) rfl ?_
  intro p9 e s m9 args below meth c9 s₁ B9 hml hv
  obtain ⟨rfl, hsz, hP, hK⟩ := hv
  have hx := B9.exec
  have hb := B9.bytes
  have hr := B9.returns
  have hts := atoms_spec (ws := wsX12_readBracket) B9.pre
  have hown : s.vm.findClass RX12 = some m9.cls := findClass_of_methodNamed B9.named
  subst hsz
  have hS : va_S (MA ar s.heap.size) s.heap s.heap [] := va_S.rf
  have hG : MG [1, 2, 3, 6, 7, 13, 14, 15, 20, 21, 22] st st := MG.rf hI
  have hl := lv_entry ([.ref (ar 0)]) (n := 1) (Nat.le_of_ble_eq_true rfl)
  rw [lg_entry_eq]
  generalize (lg_sl ([.ref (ar 0)]) ++ List.replicate (1 - (lg_sl ([.ref (ar 0)])).length) Slot.unset).toArray = ls at hl ⊢
  have hl : lv_has ls 1 [(0, .ref (ar 0))] := hl
  clear hI
  have hB1 := hB.2.2.1
  have hB2 := hB.2.2.2.1
  have hF : FM 6 st sl st sl := FM.rf
  have hp9 := hT.2.2.2.2.2.2
  have hk1 := tkd_lt (B := B) (g := g) (m := m) (p := p)
  have hk2 := tkx_le (B := B) (g := g) (m := m) (p := p) hp9
  have hk3 := tka_le (B := B) (g := g) (m := m) (p := p) hp9 hB.2.2.1
  have hk4 := tkv_lt (p := p) hB hp9
  have hk5 := tkw_lt (B := B) (g := g) (m := m) (p := p)
  have hR9 := hR.2.1
  refine lv_aload_n hx hb dX12_readBracket_0 rfl (lv_at hl 0 rfl) ?_
  refine va_calli (va_runV (As := []) (rest := []) ⟨hx, hb, hml, hown, hts⟩ (f_readOr_1 l dC dI ar cy _ hN st sl B g m p c nm gn go hG.1 (MBt.fr hB hF) hT hR (by rw [h43]) (by rw [h44]) (by rw [h45]) (by omega) (by omega)) (cwV 0 hts gX12_readBracket_X12_readOr rfl rfl rfl (by decide +kernel) ⟨Nat.le_of_ble_eq_true rfl, Nat.le_of_ble_eq_true rfl⟩) ⟨fun a U g mk q => ⟨q.1, mPre.blind q.2⟩, va_recv hK hP (ci := 11) (q0 := 0) rfl rfl, fun U hU hW => ⟨rfl, mPre.of hP hK hU hW⟩⟩ rfl rfl hl.1 rfl (lv_room (Nat.le_of_ble_eq_true rfl)) dX12_readBracket_1 ⟨Nat.le_of_ble_eq_true rfl, Nat.le_of_ble_eq_true rfl⟩) hS (fun q _ h => MA.le hS.1 q h) (MA.le hS.1) (fun r1 x t H locs ht hvm hw hB9 _ _ hS => ?_)
  have hP := mB.at ht hB9
  clear hB9 ht hvm
  obtain ⟨st2, sl3⟩ := x
  obtain ⟨hG2, hF2, hw⟩ := hw
  dsimp only at hG2 hF2 hw
  have hP : va_P (dC, dI) vwCl (mw ar cy st2 sl3) _ := hP
  have hG : MG [1, 2, 3, 6, 7, 13, 14, 15, 20, 21, 22] st st2 := hG.tr hG2 (by decide)
  have hFst2 : FM 6 st sl st2 sl3 := hF2
  have hF : FM 6 st sl st2 sl3 := hF.tr hFst2 (by omega) (by omega)
  clear hG2 hF2
  have hR : RN c nm st2 sl3 := hR.fr hFst2
  rcases hw with ⟨n4, n5, n6, n7, rfl, hT, hf8, hf9, hf10, hf11, hf12, hf13, hf14, hf15, hf16, hf17, hk18⟩ | ⟨n19, n20, rfl, hf21, hf22, hf23, hf24, hf25⟩
  · have hp9 := hT.2.2.2.2.2.2
    have hk1 := tkd_lt (B := B) (g := g) (m := m) (p := n4)
    have hk2 := tkx_le (B := B) (g := g) (m := m) (p := n4) hp9
    have hk3 := tka_le (B := B) (g := g) (m := m) (p := n4) hp9 hB.2.2.1
    have hk4 := tkv_lt (p := n4) hB hp9
    have hk5 := tkw_lt (B := B) (g := g) (m := m) (p := n4)
    refine lv_if_ne (tgt := 9) hx hb dX12_readBracket_4 (by decide) (fun _ => ?_) (fun cc => absurd cc (by decide))
    refine lv_aload_n hx hb dX12_readBracket_9 rfl (lv_at hl 0 rfl) ?_
    refine lv_bipush (v := 41) hx hb dX12_readBracket_10 (by decide) ?_
    refine va_calli (va_runV (As := [.int 41]) (rest := []) ⟨hx, hb, hml, hown, hts⟩ (f_isSign41 l dC dI ar cy _ hN st2 sl3 B g m n4 hG.1 (MBt.fr hB hF) hT) (cwV 1 hts gX12_readBracket_X12_isSign rfl rfl rfl (by decide +kernel) ⟨Nat.le_of_ble_eq_true rfl, Nat.le_of_ble_eq_true rfl⟩) ⟨fun a U g mk q => ⟨q.1, mPre.blind q.2⟩, va_recv hK hP (ci := 11) (q0 := 0) rfl rfl, fun U hU hW => ⟨rfl, mPre.of hP hK hU hW⟩⟩ rfl rfl hl.1 rfl (lv_room (Nat.le_of_ble_eq_true rfl)) dX12_readBracket_12 ⟨Nat.le_of_ble_eq_true rfl, Nat.le_of_ble_eq_true rfl⟩) hS (fun q _ h => MA.le hS.1 q h) (MA.le hS.1) (fun r26 x t H locs ht hvm hw hB9 _ _ hS => ?_)
    have hP := mB.at ht hB9
    clear hB9 ht hvm
    obtain ⟨rfl, hw⟩ := hw
    have hP : va_P (dC, dI) vwCl (mw ar cy st2 sl3) _ := hP
    rcases hw with ⟨rfl, hf27, hf28⟩ | ⟨rfl, hf29⟩
    · refine lv_if_ne (tgt := 24) hx hb dX12_readBracket_15 (by decide) (fun _ => ?_) (fun cc => absurd cc (by decide))
      refine lv_aload_n hx hb dX12_readBracket_24 rfl (lv_at hl 0 rfl) ?_
      refine va_callv (va_runV (As := []) (rest := []) ⟨hx, hb, hml, hown, hts⟩ (f_go l dC dI ar cy _ hN st2 sl3 B g m (tkx B g m n4) hG.1 (MBt.fr hB hF) hT.1 hk2.2) (cwV 0 hts gX12_readBracket_X12_go rfl rfl rfl (by decide +kernel) ⟨Nat.le_of_ble_eq_true rfl, Nat.le_of_ble_eq_true rfl⟩) ⟨fun a U g mk q => ⟨q.1, mPre.blind q.2⟩, va_recv hK hP (ci := 11) (q0 := 0) rfl rfl, fun U hU hW => ⟨rfl, mPre.of hP hK hU hW⟩⟩ rfl rfl hl.1 rfl (lv_room (Nat.le_of_ble_eq_true rfl)) dX12_readBracket_25 ⟨Nat.le_of_ble_eq_true rfl, Nat.le_of_ble_eq_true rfl⟩) hS (fun q _ h => MA.le hS.1 q h) (MA.le hS.1) (fun x t H locs ht hvm hw hB9 _ _ hS => ?_)
      have hP := mB.at ht hB9
      clear hB9 ht hvm
      obtain ⟨st31, sl32⟩ := x
      obtain ⟨hG2, hF2, hw⟩ := hw
      dsimp only at hG2 hF2 hw
      have hP : va_P (dC, dI) vwCl (mw ar cy st31 sl32) _ := hP
      have hG : MG [1, 2, 3, 6, 7, 13, 14, 15, 20, 21, 22] st st31 := hG.tr hG2 (by decide)
      have hFst31 : FM 1 st2 sl3 st31 sl32 := hF2
      have hF : FM 6 st sl st31 sl32 := hF.tr hFst31 (by omega) (by omega)
      clear hG2 hF2
      have hR : RN c nm st31 sl32 := hR.fr hFst31
      have hT := hw
      have hp9 := hT.2.2.2.2.2.2
      have hk1 := tkd_lt (B := B) (g := g) (m := m) (p := (tkx B g m n4))
      have hk2 := tkx_le (B := B) (g := g) (m := m) (p := (tkx B g m n4)) hp9
      have hk3 := tka_le (B := B) (g := g) (m := m) (p := (tkx B g m n4)) hp9 hB.2.2.1
      have hk4 := tkv_lt (p := (tkx B g m n4)) hB hp9
      have hk5 := tkw_lt (B := B) (g := g) (m := m) (p := (tkx B g m n4))
      refine lv_iconst (v := 1) hx hb dX12_readBracket_28 (by decide) ?_
      exact W.zret (v := 1) hx hb hr rfl (fun t ht hW => ⟨⟨1, (st31, sl32), rfl, ⟨hG, hF, Or.inl (⟨(tkx B g m n4), n5, n6, n7, rfl, hT, by show st31 0 43 = _; rw [(hFst31 0 43 (by decide)).1, hf8], by show st31 0 44 = _; rw [(hFst31 0 44 (by decide)).1, hf9], by show st31 0 45 = _; rw [(hFst31 0 45 (by decide)).1, hf10], by show st31 0 46 = _; rw [(hFst31 0 46 (by decide)).1, hf11], by omega, by omega, by omega, by omega, by omega, sB_y hf17 ⟨hf27, hf28⟩, by show st31 0 10 = st 0 10; rw [(hFst31 0 10 (by decide)).1, hk18]⟩)⟩, mB.of ht hP⟩, hS.F ht⟩) hS.2.2 dX12_readBracket_29
    · refine lv_if_ne (tgt := 24) hx hb dX12_readBracket_15 (by decide) (fun cc => absurd (by decide) cc) (fun _ => ?_)
      refine lv_aload_n hx hb dX12_readBracket_18 rfl (lv_at hl 0 rfl) ?_
      refine lv_iconst (v := 1) hx hb dX12_readBracket_19 (by decide) ?_
      refine va_calli (va_runV (As := [.int 1]) (rest := []) ⟨hx, hb, hml, hown, hts⟩ (f_bad l dC dI ar cy _ hN st2 sl3 1 B g m n4 (by omega) hG.1 (MBt.fr hB hF) hT) (cwV 1 hts gX12_readBracket_X12_bad rfl rfl rfl (by decide +kernel) ⟨Nat.le_of_ble_eq_true rfl, Nat.le_of_ble_eq_true rfl⟩) ⟨fun a U g mk q => ⟨q.1, mPre.blind q.2⟩, va_recv hK hP (ci := 11) (q0 := 0) rfl rfl, fun U hU hW => ⟨rfl, mPre.of hP hK hU hW⟩⟩ rfl rfl hl.1 rfl (lv_room (Nat.le_of_ble_eq_true rfl)) dX12_readBracket_20 ⟨Nat.le_of_ble_eq_true rfl, Nat.le_of_ble_eq_true rfl⟩) hS (fun q _ h => MA.le hS.1 q h) (MA.le hS.1) (fun r33 x t H locs ht hvm hw hB9 _ _ hS => ?_)
      have hP := mB.at ht hB9
      clear hB9 ht hvm
      obtain ⟨st34, sl35⟩ := x
      obtain ⟨hG2, hF2, hw⟩ := hw
      dsimp only at hG2 hF2 hw
      have hP : va_P (dC, dI) vwCl (mw ar cy st34 sl35) _ := hP
      have hG : MG [1, 2, 3, 6, 7, 13, 14, 15, 20, 21, 22] st st34 := hG.tr hG2 (by decide)
      have hFst34 : FM 2 st2 sl3 st34 sl35 := hF2
      have hF : FM 6 st sl st34 sl35 := hF.tr hFst34 (by omega) (by omega)
      clear hG2 hF2
      have hR : RN c nm st34 sl35 := hR.fr hFst34
      obtain ⟨rfl, hf36, hf37, hT⟩ := hw
      have hp9 := hT.2.2.2.2.2.2
      have hk1 := tkd_lt (B := B) (g := g) (m := m) (p := n4)
      have hk2 := tkx_le (B := B) (g := g) (m := m) (p := n4) hp9
      have hk3 := tka_le (B := B) (g := g) (m := m) (p := n4) hp9 hB.2.2.1
      have hk4 := tkv_lt (p := n4) hB hp9
      have hk5 := tkw_lt (B := B) (g := g) (m := m) (p := n4)
      exact W.zret (v := 0) hx hb hr rfl (fun t ht hW => ⟨⟨0, (st34, sl35), rfl, ⟨hG, hF, Or.inr (⟨1, (tka B g m n4), rfl, by show st34 0 10 = _; rw [hf36, bdk_1], by show st34 0 11 = _; rw [hf37], by omega, sB_n hf17 hf29, by show st34 0 45 = _; rw [(hFst34 0 45 (by decide)).1, hf10]⟩)⟩, mB.of ht hP⟩, hS.F ht⟩) hS.2.2 dX12_readBracket_23
  · refine lv_if_ne (tgt := 9) hx hb dX12_readBracket_4 (by decide) (fun cc => absurd (by decide) cc) (fun _ => ?_)
    refine lv_iconst (v := 0) hx hb dX12_readBracket_7 (by decide) ?_
    exact W.zret (v := 0) hx hb hr rfl (fun t ht hW => ⟨⟨0, (st2, sl3), rfl, ⟨hG, hF, Or.inr (⟨n19, n20, rfl, by show st2 0 10 = _; rw [hf21], by show st2 0 11 = _; rw [hf22], hf23, sB_f hf24 hf23, by show st2 0 45 = _; rw [hf25]⟩)⟩, mB.of ht hP⟩, hS.F ht⟩) hS.2.2 dX12_readBracket_8
set_option maxHeartbeats 4000000 in
set_option maxRecDepth 100000 in
theorem f_readNot_1 (l : Launch) (dC : Nat → ClassId) (dI : Nat → Nat → Nat) (ar : Nat → Nat) (cy : Nat → ClassId) (sz : Nat) (hN : MN ar) (st : Nat → Nat → Int32) (sl : Nat → Nat → Int64) (B : Nat → Nat) (g m : Nat) (p : Nat) (c : Nat → Nat) (nm : Nat → Nat → Nat) (gn : Nat) (go : Nat) (hI : MI st) (hB : MBt B g m st) (hT : TM B g m p st sl) (hR : RN c nm st sl) (h43 : st 0 43 = nI gn) (h44 : st 0 44 = nI go) (h45 : st 0 45 = 1) (hgn : gn ≤ 2 * go) (hgo : go ≤ 20) : Met l yX12_readNot wsX12_readNot ({ frames := 32, cells := 0, slots := 0, locals := 687 }) (va_Pc [.ref (ar 0)] (mPre dC dI ar cy sz st sl)) (va_Qi (fun (r : Int32) (x : MT) => MG [1, 2, 3, 6, 7, 13, 14, 15, 20, 21, 22] st x.1 ∧ FM 6 st sl x.1 x.2 ∧ ((∃ q : Nat, ∃ n1 : Nat, ∃ o1 : Nat, ∃ t1 : Nat, r = 1 ∧ TM B g m q x.1 x.2 ∧ x.1 0 43 = nI n1 ∧ x.1 0 44 = nI o1 ∧ x.1 0 45 = 1 ∧ x.1 0 46 = nI t1 ∧ t1 < n1 ∧ n1 + 2 * go ≤ gn + 2 * o1 ∧ go + 1 ≤ o1 ∧ o1 ≤ 20 ∧ gn ≤ n1 ∧ sOne B g m c nm 7 p go = (0, q, o1) ∧ x.1 0 10 = st 0 10) ∨ (∃ f : Nat, ∃ a : Nat, r = 0 ∧ x.1 0 10 = nI f ∧ x.1 0 11 = nI a ∧ 1 ≤ f ∧ sOne B g m c nm 7 p go = sf f a ∧ x.1 0 45 = 1))) (mB dC dI ar cy) (MA ar sz)) 0 0 (MA ar sz) := by
  refine Met.ofW (cc := cX12_readNot) (maxL := 1) (ret := (some .boolean)) (by decide) rfl ?_
  intro p9 e s m9 args below meth c9 s₁ B9 hml hv
  obtain ⟨rfl, hsz, hP, hK⟩ := hv
  have hx := B9.exec
  have hb := B9.bytes
  have hr := B9.returns
  have hts := atoms_spec (ws := wsX12_readNot) B9.pre
  have hown : s.vm.findClass RX12 = some m9.cls := findClass_of_methodNamed B9.named
  subst hsz
  have hS : va_S (MA ar s.heap.size) s.heap s.heap [] := va_S.rf
  have hG : MG [1, 2, 3, 6, 7, 13, 14, 15, 20, 21, 22] st st := MG.rf hI
  have hl := lv_entry ([.ref (ar 0)]) (n := 1) (Nat.le_of_ble_eq_true rfl)
  rw [lg_entry_eq]
  generalize (lg_sl ([.ref (ar 0)]) ++ List.replicate (1 - (lg_sl ([.ref (ar 0)])).length) Slot.unset).toArray = ls at hl ⊢
  have hl : lv_has ls 1 [(0, .ref (ar 0))] := hl
  clear hI
  have hB1 := hB.2.2.1
  have hB2 := hB.2.2.2.1
  have hF : FM 6 st sl st sl := FM.rf
  have hp9 := hT.2.2.2.2.2.2
  have hk1 := tkd_lt (B := B) (g := g) (m := m) (p := p)
  have hk2 := tkx_le (B := B) (g := g) (m := m) (p := p) hp9
  have hk3 := tka_le (B := B) (g := g) (m := m) (p := p) hp9 hB.2.2.1
  have hk4 := tkv_lt (p := p) hB hp9
  have hk5 := tkw_lt (B := B) (g := g) (m := m) (p := p)
  have hR9 := hR.2.1
  refine lv_aload_n hx hb dX12_readNot_0 rfl (lv_at hl 0 rfl) ?_
  refine va_calli (va_runV (As := []) (rest := []) ⟨hx, hb, hml, hown, hts⟩ (f_readSaid_1 l dC dI ar cy _ hN st sl B g m p c nm gn go hG.1 (MBt.fr hB hF) hT hR (by rw [h43]) (by rw [h44]) (by rw [h45]) (by omega) (by omega)) (cwV 0 hts gX12_readNot_X12_readSaid rfl rfl rfl (by decide +kernel) ⟨Nat.le_of_ble_eq_true rfl, Nat.le_of_ble_eq_true rfl⟩) ⟨fun a U g mk q => ⟨q.1, mPre.blind q.2⟩, va_recv hK hP (ci := 11) (q0 := 0) rfl rfl, fun U hU hW => ⟨rfl, mPre.of hP hK hU hW⟩⟩ rfl rfl hl.1 rfl (lv_room (Nat.le_of_ble_eq_true rfl)) dX12_readNot_1 ⟨Nat.le_of_ble_eq_true rfl, Nat.le_of_ble_eq_true rfl⟩) hS (fun q _ h => MA.le hS.1 q h) (MA.le hS.1) (fun r1 x t H locs ht hvm hw hB9 _ _ hS => ?_)
  have hP := mB.at ht hB9
  clear hB9 ht hvm
  obtain ⟨st2, sl3⟩ := x
  obtain ⟨hG2, hF2, hw⟩ := hw
  dsimp only at hG2 hF2 hw
  have hP : va_P (dC, dI) vwCl (mw ar cy st2 sl3) _ := hP
  have hG : MG [1, 2, 3, 6, 7, 13, 14, 15, 20, 21, 22] st st2 := hG.tr hG2 (by decide)
  have hFst2 : FM 6 st sl st2 sl3 := hF2
  have hF : FM 6 st sl st2 sl3 := hF.tr hFst2 (by omega) (by omega)
  clear hG2 hF2
  have hR : RN c nm st2 sl3 := hR.fr hFst2
  rcases hw with ⟨n4, n5, n6, n7, rfl, hT, hf8, hf9, hf10, hf11, hf12, hf13, hf14, hf15, hf16, hf17, hk18⟩ | ⟨n19, n20, rfl, hf21, hf22, hf23, hf24, hf25⟩
  · have hp9 := hT.2.2.2.2.2.2
    have hk1 := tkd_lt (B := B) (g := g) (m := m) (p := n4)
    have hk2 := tkx_le (B := B) (g := g) (m := m) (p := n4) hp9
    have hk3 := tka_le (B := B) (g := g) (m := m) (p := n4) hp9 hB.2.2.1
    have hk4 := tkv_lt (p := n4) hB hp9
    have hk5 := tkw_lt (B := B) (g := g) (m := m) (p := n4)
    refine lv_if_ne (tgt := 9) hx hb dX12_readNot_4 (by decide) (fun _ => ?_) (fun cc => absurd cc (by decide))
    refine lv_aload_n hx hb dX12_readNot_9 rfl (lv_at hl 0 rfl) ?_
    refine lv_aload_n hx hb dX12_readNot_10 rfl (lv_at hl 0 rfl) ?_
    refine lv_iconst (v := 1) hx hb dX12_readNot_11 (by decide) ?_
    refine lv_aload_n hx hb dX12_readNot_12 rfl (lv_at hl 0 rfl) ?_
    refine va_get (D := (dC, dI)) (ci := 11) (v := .int (st2 0 46)) (C := RX12) (T := TX12) (N := 47) hx hb hts ii_X12_readNot hown hK hP 0 rfl rfl 46 (by decide) (hts _ mm_X12_readNot_1) (fun _ hh => hh) rfl dX12_readNot_13 ?_
    refine zz_top (v := (nI n7)) (by show st2 0 46 = _; rw [hf11]) ?_
    refine lv_iconst (v := 0) hx hb dX12_readNot_16 (by decide) ?_
    refine lv_iconst (v := 0) hx hb dX12_readNot_17 (by decide) ?_
    refine va_calli (va_runV (As := [.int 1, .int (nI n7), .int 0, .int 0]) (rest := [.ref (ar 0)]) ⟨hx, hb, hml, hown, hts⟩ (f_saysOne l dC dI ar cy _ hN st2 sl3 1 (nI n7) 0 0 B g m n4 n5 hG.1 (MBt.fr hB hF) hT (by rw [hf8]) (by omega)) (cwV 4 hts gX12_readNot_X12_saysOne rfl rfl rfl (by decide +kernel) ⟨Nat.le_of_ble_eq_true rfl, Nat.le_of_ble_eq_true rfl⟩) ⟨fun a U g mk q => ⟨q.1, mPre.blind q.2⟩, va_recv hK hP (ci := 11) (q0 := 0) rfl rfl, fun U hU hW => ⟨rfl, mPre.of hP hK hU hW⟩⟩ rfl rfl hl.1 rfl (lv_room (Nat.le_of_ble_eq_true rfl)) dX12_readNot_18 ⟨Nat.le_of_ble_eq_true rfl, Nat.le_of_ble_eq_true rfl⟩) hS (fun q _ h => MA.le hS.1 q h) (MA.le hS.1) (fun r26 x t H locs ht hvm hw hB9 _ _ hS => ?_)
    have hP := mB.at ht hB9
    clear hB9 ht hvm
    obtain ⟨st27, sl28⟩ := x
    obtain ⟨hG2, hF2, hw⟩ := hw
    dsimp only at hG2 hF2 hw
    have hP : va_P (dC, dI) vwCl (mw ar cy st27 sl28) _ := hP
    have hG : MG [1, 2, 3, 6, 7, 13, 14, 15, 20, 21, 22] st st27 := hG.tr hG2 (by decide)
    have hFst27 : FM 5 st2 sl3 st27 sl28 := hF2
    have hF : FM 6 st sl st27 sl28 := hF.tr hFst27 (by omega) (by omega)
    clear hG2 hF2
    have hR : RN c nm st27 sl28 := hR.fr hFst27
    obtain ⟨n29, rfl, hf30, hf31, hT, hk32⟩ := hw
    have hp9 := hT.2.2.2.2.2.2
    have hk1 := tkd_lt (B := B) (g := g) (m := m) (p := n4)
    have hk2 := tkx_le (B := B) (g := g) (m := m) (p := n4) hp9
    have hk3 := tka_le (B := B) (g := g) (m := m) (p := n4) hp9 hB.2.2.1
    have hk4 := tkv_lt (p := n4) hB hp9
    have hk5 := tkw_lt (B := B) (g := g) (m := m) (p := n4)
    refine va_put (D := (dC, dI)) (ci := 11) (v := .int (nI n29)) (ty := .int) (C := RX12) (T := TX12) (N := 47) hx hb hts ii_X12_readNot tyX12 tyX12_ok nmX12 hown hK hP (mD hN _ _ _ _) hS 0 rfl rfl 46 (by decide) (hts _ mm_X12_readNot_1) (fun _ hh => hh) rfl (by decide +kernel) rfl rfl (Nat.le_of_ble_eq_true rfl) dX12_readNot_21 (fun H locs hP _ hS => ?_)
    have hP : va_P (dC, dI) vwCl (mw ar cy (up2 st27 0 46 (nI n29)) sl28) H := hP
    obtain ⟨st33, est33⟩ : ∃ y, y = up2 st27 0 46 (nI n29) := ⟨_, rfl⟩
    have hG : MG [1, 2, 3, 6, 7, 13, 14, 15, 20, 21, 22] st st33 := by rw [est33]; exact hG.up (rn (n := n29) (by decide : mr 0 46 = 60) (by omega)) (pn (by decide : pcl 0 46 = 12) (by decide))
    rw [← est33] at hP
    have hF : FM 6 st sl st33 sl28 := by rw [est33]; exact hF.up (by decide)
    have hT : TM B g m n4 st33 sl28 := by rw [est33]; exact hT.up (by omega)
    have hR : RN c nm st33 sl28 := by rw [est33]; exact hR.up (by omega)
    refine lv_iconst (v := 1) hx hb dX12_readNot_24 (by decide) ?_
    exact W.zret (v := 1) hx hb hr rfl (fun t ht hW => ⟨⟨1, (st33, sl28), rfl, ⟨hG, hF, Or.inl (⟨n4, (n5 + 1), n6, n29, rfl, hT, by show st33 0 43 = _; rw [est33, up2_ne (r := 0) (k := 46) (a := 0) (j := 43) _ _ (by omega), hf31], by show st33 0 44 = _; rw [est33, up2_ne (r := 0) (k := 46) (a := 0) (j := 44) _ _ (by omega), (hFst27 0 44 (by decide)).1, hf9], by show st33 0 45 = _; rw [est33, up2_ne (r := 0) (k := 46) (a := 0) (j := 45) _ _ (by omega), (hFst27 0 45 (by decide)).1, hf10], by show st33 0 46 = _; rw [est33, up2_same], by omega, by omega, by omega, by omega, by omega, hf17, by show st33 0 10 = st 0 10; rw [est33, up2_ne (r := 0) (k := 46) (a := 0) (j := 10) _ _ (by omega), hk32, hk18]⟩)⟩, mB.of ht hP⟩, hS.F ht⟩) hS.2.2 dX12_readNot_25
  · refine lv_if_ne (tgt := 9) hx hb dX12_readNot_4 (by decide) (fun cc => absurd (by decide) cc) (fun _ => ?_)
    refine lv_iconst (v := 0) hx hb dX12_readNot_7 (by decide) ?_
    exact W.zret (v := 0) hx hb hr rfl (fun t ht hW => ⟨⟨0, (st2, sl3), rfl, ⟨hG, hF, Or.inr (⟨n19, n20, rfl, by show st2 0 10 = _; rw [hf21], by show st2 0 11 = _; rw [hf22], hf23, hf24, by show st2 0 45 = _; rw [hf25]⟩)⟩, mB.of ht hP⟩, hS.F ht⟩) hS.2.2 dX12_readNot_8
