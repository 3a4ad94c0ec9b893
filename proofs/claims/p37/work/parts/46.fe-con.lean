set_option maxHeartbeats 4000000 in
set_option maxRecDepth 100000 in
theorem f_readAnd_7 (l : Launch) (dC : Nat → ClassId) (dI : Nat → Nat → Nat) (ar : Nat → Nat) (cy : Nat → ClassId) (sz : Nat) (hN : MN ar) (st : Nat → Nat → Int32) (sl : Nat → Nat → Int64) (B : Nat → Nat) (g m : Nat) (p : Nat) (c : Nat → Nat) (nm : Nat → Nat → Nat) (gn : Nat) (go : Nat) (hI : MI st) (hB : MBt B g m st) (hT : TM B g m p st sl) (hR : RN c nm st sl) (h43 : st 0 43 = nI gn) (h44 : st 0 44 = nI go) (h45 : st 0 45 = 7) (hgn : gn ≤ 2 * go) (hgo : go ≤ 20) : Met l yX12_readAnd wsX12_readAnd ({ frames := 8, cells := 0, slots := 0, locals := 177 }) (va_Pc [.ref (ar 0)] (mPre dC dI ar cy sz st sl)) (va_Qi (fun (r : Int32) (x : MT) => MG [1, 2, 3, 6, 7, 13, 14, 15, 20, 21, 22] st x.1 ∧ FM 6 st sl x.1 x.2 ∧ ((∃ q : Nat, ∃ n1 : Nat, ∃ o1 : Nat, ∃ t1 : Nat, r = 1 ∧ TM B g m q x.1 x.2 ∧ x.1 0 43 = nI n1 ∧ x.1 0 44 = nI o1 ∧ x.1 0 45 = 7 ∧ x.1 0 46 = nI t1 ∧ t1 < n1 ∧ n1 + 2 * go + 1 ≤ gn + 2 * o1 ∧ go + 1 ≤ o1 ∧ o1 ≤ 20 ∧ gn ≤ n1 ∧ sCond B g m (sOne B g m c nm 1) p go = sLoop B g m (sOne B g m c nm 1) 21 q o1 ∧ ¬ tkw B g m q = 14) ∨ (∃ f : Nat, ∃ a : Nat, r = 0 ∧ x.1 0 10 = nI f ∧ x.1 0 11 = nI a ∧ 1 ≤ f ∧ sCond B g m (sOne B g m c nm 1) p go = sf f a ∧ x.1 0 45 = 7))) (mB dC dI ar cy) (MA ar sz)) 0 0 (MA ar sz) := by
  refine Met.ofW (cc := cX12_readAnd) (maxL := 2) (ret := (some .boolean)) (by decide) rfl ?_
  intro p9 e s m9 args below meth c9 s₁ B9 hml hv
  obtain ⟨rfl, hsz, hP, hK⟩ := hv
  have hx := B9.exec
  have hb := B9.bytes
  have hr := B9.returns
  have hts := atoms_spec (ws := wsX12_readAnd) B9.pre
  have hown : s.vm.findClass RX12 = some m9.cls := findClass_of_methodNamed B9.named
  subst hsz
  have hS : va_S (MA ar s.heap.size) s.heap s.heap [] := va_S.rf
  have hG : MG [1, 2, 3, 6, 7, 13, 14, 15, 20, 21, 22] st st := MG.rf hI
  have hl := lv_entry ([.ref (ar 0)]) (n := 2) (Nat.le_of_ble_eq_true rfl)
  rw [lg_entry_eq]
  generalize (lg_sl ([.ref (ar 0)]) ++ List.replicate (2 - (lg_sl ([.ref (ar 0)])).length) Slot.unset).toArray = ls at hl ⊢
  have hl : lv_has ls 2 [(0, .ref (ar 0))] := hl
  clear hI
  have hB1 := hB.2.2.1
  have hB2 := hB.2.2.2.1
  have hF : FM 6 st sl st sl := FM.rf
  have hp9 := hT.2.2.2.2.2.2
  have hk1 := tkd_lt (B := B) (g := g) (m := m) (p := p)
  have hk2 := tkx_le (B := B) (g := g) (m := m) (p := p) hp9
  have hk3 := tka_le (B := B) (g := g) (m := m) (p := p) hp9 hB.2.2.1
  have hk4 := tkv_lt (p := p) hB hp9
  have hk5 := tkw_lt (B := B) (g := g) (m := m) (p := p)
  have hR9 := hR.2.1
  refine lv_aload_n hx hb dX12_readAnd_0 rfl (lv_at hl 0 rfl) ?_
  refine va_calli (va_runV (As := []) (rest := []) ⟨hx, hb, hml, hown, hts⟩ (f_readSaid_7 l dC dI ar cy _ hN st sl B g m p c nm gn go hG.1 (MBt.fr hB hF) hT hR (by rw [h43]) (by rw [h44]) (by rw [h45]) (by omega) (by omega)) (cwV 0 hts gX12_readAnd_X12_readSaid rfl rfl rfl (by decide +kernel) ⟨Nat.le_of_ble_eq_true rfl, Nat.le_of_ble_eq_true rfl⟩) ⟨fun a U g mk q => ⟨q.1, mPre.blind q.2⟩, va_recv hK hP (ci := 11) (q0 := 0) rfl rfl, fun U hU hW => ⟨rfl, mPre.of hP hK hU hW⟩⟩ rfl rfl hl.1 rfl (lv_room (Nat.le_of_ble_eq_true rfl)) dX12_readAnd_1 ⟨Nat.le_of_ble_eq_true rfl, Nat.le_of_ble_eq_true rfl⟩) hS (fun q _ h => MA.le hS.1 q h) (MA.le hS.1) (fun r1 x t H locs ht hvm hw hB9 _ _ hS => ?_)
  have hP := mB.at ht hB9
  clear hB9 ht hvm
  obtain ⟨st2, sl3⟩ := x
  obtain ⟨hG2, hF2, hw⟩ := hw
  dsimp only at hG2 hF2 hw
  have hP : va_P (dC, dI) vwCl (mw ar cy st2 sl3) _ := hP
  have hG : MG [1, 2, 3, 6, 7, 13, 14, 15, 20, 21, 22] st st2 := hG.tr hG2 (by decide)
  have hFst2 : FM 6 st sl st2 sl3 := hF2
  have hF : FM 6 st sl st2 sl3 := hF.tr hFst2 (by omega) (by omega)
  clear hG2 hF2
  have hR : RN c nm st2 sl3 := hR.fr hFst2
  rcases hw with ⟨n4, n5, n6, n7, rfl, hT, hf8, hf9, hf10, hf11, hf12, hf13, hf14, hf15, hf16, hf17⟩ | ⟨n18, n19, rfl, hf20, hf21, hf22, hf23, hf24⟩
  · have hp9 := hT.2.2.2.2.2.2
    have hk1 := tkd_lt (B := B) (g := g) (m := m) (p := n4)
    have hk2 := tkx_le (B := B) (g := g) (m := m) (p := n4) hp9
    have hk3 := tka_le (B := B) (g := g) (m := m) (p := n4) hp9 hB.2.2.1
    have hk4 := tkv_lt (p := n4) hB hp9
    have hk5 := tkw_lt (B := B) (g := g) (m := m) (p := n4)
    refine lv_if_ne (tgt := 9) hx hb dX12_readAnd_4 (by decide) (fun _ => ?_) (fun cc => absurd cc (by decide))
    refine lv_aload_n hx hb dX12_readAnd_9 rfl (lv_at hl 0 rfl) ?_
    refine va_get (D := (dC, dI)) (ci := 11) (v := .int (st2 0 46)) (C := RX12) (T := TX12) (N := 47) hx hb hts ii_X12_readAnd hown hK hP 0 rfl rfl 46 (by decide) (hts _ mm_X12_readAnd_1) (fun _ hh => hh) rfl dX12_readAnd_10 ?_
    refine zz_top (v := (nI n7)) (by show st2 0 46 = _; rw [hf11]) ?_
    refine lv_istore_n (lv' := [(1, .int (nI n7)), (0, .ref (ar 0))]) hx hb dX12_readAnd_13 rfl hl (by decide) rfl (fun ls hl => ?_)
    refine zz_wf (fun n stk H locs ls => ∃ k25 : Nat, ∃ st26 : Nat → Nat → Int32, ∃ sl27 : Nat → Nat → Int64, ∃ n28 : Nat, ∃ o29 : Nat, n = 21 - o29 ∧ 0 ≤ k25 ∧ k25 < 60 ∧ st26 0 43 = nI n28 ∧ st26 0 44 = nI o29 ∧ k25 < n28 ∧ n28 + 2 * go + 1 ≤ gn + 2 * o29 ∧ go + 1 ≤ o29 ∧ o29 ≤ 20 ∧ gn ≤ n28 ∧ st26 0 45 = 7 ∧ (∃ (p7 : Nat), TM B g m p7 st26 sl27 ∧ RN c nm st26 sl27 ∧ sCond B g m (sOne B g m c nm 1) p go = sLoop B g m (sOne B g m c nm 1) 21 p7 o29) ∧ FM 6 st sl st26 sl27 ∧ va_P (dC, dI) vwCl (mw ar cy st26 sl27) H ∧ MG [1, 2, 3, 6, 7, 13, 14, 15, 20, 21, 22] st st26 ∧ va_S (MA ar s.heap.size) s.heap H locs ∧ lv_has ls 2 [(1, .int (nI k25)), (0, .ref (ar 0))] ∧ stk = []) ?_ (21 - n6) _ _ _ _ ⟨n7, st2, sl3, n5, n6, rfl, by omega, by omega, by rw [hf8], by rw [hf9], by omega, by omega, by omega, by omega, by omega, by rw [hf10], ⟨n4, hT, hR, sC_y hf17⟩, hF, hP, hG, hS, lv_sub hl [0, 1] rfl, rfl⟩
    rintro nn stk H locs ls ⟨k25, st26, sl27, n28, o29, hm39, hv30_0, hv31_1, en28, eo29, hv32_0, hv33_1, hv34_2, hv35_3, hv36_4, hv37_5, hv38_6, hv39_7, hP, hG, hS, hl, rfl⟩ ih40
    have hF := hv39_7
    obtain ⟨p7, hT, hR, hco⟩ := hv38_6
    have hp9 := hT.2.2.2.2.2.2
    have hk1 := tkd_lt (B := B) (g := g) (m := m) (p := p7)
    have hk2 := tkx_le (B := B) (g := g) (m := m) (p := p7) hp9
    have hk3 := tka_le (B := B) (g := g) (m := m) (p := p7) hp9 hB.2.2.1
    have hk4 := tkv_lt (p := p7) hB hp9
    have hk5 := tkw_lt (B := B) (g := g) (m := m) (p := p7)
    refine lv_aload_n hx hb dX12_readAnd_14 rfl (lv_at hl 1 rfl) ?_
    refine lv_bipush (v := 14) hx hb dX12_readAnd_15 (by decide) ?_
    refine va_calli (va_runV (As := [.int 14]) (rest := []) ⟨hx, hb, hml, hown, hts⟩ (f_isWord14 l dC dI ar cy _ hN st26 sl27 B g m p7 hG.1 (MBt.fr hB hF) hT) (cwV 1 hts gX12_readAnd_X12_isWord rfl rfl rfl (by decide +kernel) ⟨Nat.le_of_ble_eq_true rfl, Nat.le_of_ble_eq_true rfl⟩) ⟨fun a U g mk q => ⟨q.1, mPre.blind q.2⟩, va_recv hK hP (ci := 11) (q0 := 0) rfl rfl, fun U hU hW => ⟨rfl, mPre.of hP hK hU hW⟩⟩ rfl rfl hl.1 rfl (lv_room (Nat.le_of_ble_eq_true rfl)) dX12_readAnd_17 ⟨Nat.le_of_ble_eq_true rfl, Nat.le_of_ble_eq_true rfl⟩) hS (fun q _ h => MA.le hS.1 q h) (MA.le hS.1) (fun r41 x t H locs ht hvm hw hB9 _ _ hS => ?_)
    have hP := mB.at ht hB9
    clear hB9 ht hvm
    obtain ⟨rfl, hw⟩ := hw
    have hP : va_P (dC, dI) vwCl (mw ar cy st26 sl27) _ := hP
    rcases hw with ⟨rfl, hf42⟩ | ⟨rfl, hf43⟩
    · refine lv_if_eq (tgt := 51) hx hb dX12_readAnd_20 (by decide) (fun cc => absurd cc (by decide)) (fun _ => ?_)
      refine lv_aload_n hx hb dX12_readAnd_23 rfl (lv_at hl 1 rfl) ?_
      refine va_callv (va_runV (As := []) (rest := []) ⟨hx, hb, hml, hown, hts⟩ (f_go l dC dI ar cy _ hN st26 sl27 B g m (tkx B g m p7) hG.1 (MBt.fr hB hF) hT.1 hk2.2) (cwV 0 hts gX12_readAnd_X12_go rfl rfl rfl (by decide +kernel) ⟨Nat.le_of_ble_eq_true rfl, Nat.le_of_ble_eq_true rfl⟩) ⟨fun a U g mk q => ⟨q.1, mPre.blind q.2⟩, va_recv hK hP (ci := 11) (q0 := 0) rfl rfl, fun U hU hW => ⟨rfl, mPre.of hP hK hU hW⟩⟩ rfl rfl hl.1 rfl (lv_room (Nat.le_of_ble_eq_true rfl)) dX12_readAnd_24 ⟨Nat.le_of_ble_eq_true rfl, Nat.le_of_ble_eq_true rfl⟩) hS (fun q _ h => MA.le hS.1 q h) (MA.le hS.1) (fun x t H locs ht hvm hw hB9 _ _ hS => ?_)
      have hP := mB.at ht hB9
      clear hB9 ht hvm
      obtain ⟨st45, sl46⟩ := x
      obtain ⟨hG2, hF2, hw⟩ := hw
      dsimp only at hG2 hF2 hw
      have hP : va_P (dC, dI) vwCl (mw ar cy st45 sl46) _ := hP
      have hG : MG [1, 2, 3, 6, 7, 13, 14, 15, 20, 21, 22] st st45 := hG.tr hG2 (by decide)
      have hFst45 : FM 1 st26 sl27 st45 sl46 := hF2
      have hF : FM 6 st sl st45 sl46 := hF.tr hFst45 (by omega) (by omega)
      clear hG2 hF2
      have hR : RN c nm st45 sl46 := hR.fr hFst45
      have hT := hw
      have hp9 := hT.2.2.2.2.2.2
      have hk1 := tkd_lt (B := B) (g := g) (m := m) (p := (tkx B g m p7))
      have hk2 := tkx_le (B := B) (g := g) (m := m) (p := (tkx B g m p7)) hp9
      have hk3 := tka_le (B := B) (g := g) (m := m) (p := (tkx B g m p7)) hp9 hB.2.2.1
      have hk4 := tkv_lt (p := (tkx B g m p7)) hB hp9
      have hk5 := tkw_lt (B := B) (g := g) (m := m) (p := (tkx B g m p7))
      refine lv_aload_n hx hb dX12_readAnd_27 rfl (lv_at hl 1 rfl) ?_
      refine va_calli (va_runV (As := []) (rest := []) ⟨hx, hb, hml, hown, hts⟩ (f_readSaid_7 l dC dI ar cy _ hN st45 sl46 B g m (tkx B g m p7) c nm n28 o29 hG.1 (MBt.fr hB hF) hT hR (by rw [(hFst45 0 43 (by decide)).1, en28]) (by rw [(hFst45 0 44 (by decide)).1, eo29]) (by rw [(hFst45 0 45 (by decide)).1, hv37_5]) (by omega) (by omega)) (cwV 0 hts gX12_readAnd_X12_readSaid rfl rfl rfl (by decide +kernel) ⟨Nat.le_of_ble_eq_true rfl, Nat.le_of_ble_eq_true rfl⟩) ⟨fun a U g mk q => ⟨q.1, mPre.blind q.2⟩, va_recv hK hP (ci := 11) (q0 := 0) rfl rfl, fun U hU hW => ⟨rfl, mPre.of hP hK hU hW⟩⟩ rfl rfl hl.1 rfl (lv_room (Nat.le_of_ble_eq_true rfl)) dX12_readAnd_28 ⟨Nat.le_of_ble_eq_true rfl, Nat.le_of_ble_eq_true rfl⟩) hS (fun q _ h => MA.le hS.1 q h) (MA.le hS.1) (fun r47 x t H locs ht hvm hw hB9 _ _ hS => ?_)
      have hP := mB.at ht hB9
      clear hB9 ht hvm
      obtain ⟨st48, sl49⟩ := x
      obtain ⟨hG2, hF2, hw⟩ := hw
      dsimp only at hG2 hF2 hw
      have hP : va_P (dC, dI) vwCl (mw ar cy st48 sl49) _ := hP
      have hG : MG [1, 2, 3, 6, 7, 13, 14, 15, 20, 21, 22] st st48 := hG.tr hG2 (by decide)
      have hFst48 : FM 6 st45 sl46 st48 sl49 := hF2
      have hF : FM 6 st sl st48 sl49 := hF.tr hFst48 (by omega) (by omega)
      clear hG2 hF2
      have hR : RN c nm st48 sl49 := hR.fr hFst48
      rcases hw with ⟨n50, n51, n52, n53, rfl, hT, hf54, hf55, hf56, hf57, hf58, hf59, hf60, hf61, hf62, hf63⟩ | ⟨n64, n65, rfl, hf66, hf67, hf68, hf69, hf70⟩
      · have hp9 := hT.2.2.2.2.2.2
        have hk1 := tkd_lt (B := B) (g := g) (m := m) (p := n50)
        have hk2 := tkx_le (B := B) (g := g) (m := m) (p := n50) hp9
        have hk3 := tka_le (B := B) (g := g) (m := m) (p := n50) hp9 hB.2.2.1
        have hk4 := tkv_lt (p := n50) hB hp9
        have hk5 := tkw_lt (B := B) (g := g) (m := m) (p := n50)
        refine lv_if_ne (tgt := 36) hx hb dX12_readAnd_31 (by decide) (fun _ => ?_) (fun cc => absurd cc (by decide))
        refine lv_aload_n hx hb dX12_readAnd_36 rfl (lv_at hl 1 rfl) ?_
        refine lv_iconst (v := 2) hx hb dX12_readAnd_37 (by decide) ?_
        refine lv_iload_n hx hb dX12_readAnd_38 rfl (lv_at hl 0 rfl) ?_
        refine lv_aload_n hx hb dX12_readAnd_39 rfl (lv_at hl 1 rfl) ?_
        refine va_get (D := (dC, dI)) (ci := 11) (v := .int (st48 0 46)) (C := RX12) (T := TX12) (N := 47) hx hb hts ii_X12_readAnd hown hK hP 0 rfl rfl 46 (by decide) (hts _ mm_X12_readAnd_1) (fun _ hh => hh) rfl dX12_readAnd_40 ?_
        refine zz_top (v := (nI n53)) (by show st48 0 46 = _; rw [hf57]) ?_
        refine lv_iconst (v := 0) hx hb dX12_readAnd_43 (by decide) ?_
        refine va_calli (va_runV (As := [.int 2, .int (nI k25), .int (nI n53), .int 0]) (rest := []) ⟨hx, hb, hml, hown, hts⟩ (f_saysOne l dC dI ar cy _ hN st48 sl49 2 (nI k25) (nI n53) 0 B g m n50 n51 hG.1 (MBt.fr hB hF) hT (by rw [hf54]) (by omega)) (cwV 4 hts gX12_readAnd_X12_saysOne rfl rfl rfl (by decide +kernel) ⟨Nat.le_of_ble_eq_true rfl, Nat.le_of_ble_eq_true rfl⟩) ⟨fun a U g mk q => ⟨q.1, mPre.blind q.2⟩, va_recv hK hP (ci := 11) (q0 := 0) rfl rfl, fun U hU hW => ⟨rfl, mPre.of hP hK hU hW⟩⟩ rfl rfl hl.1 rfl (lv_room (Nat.le_of_ble_eq_true rfl)) dX12_readAnd_44 ⟨Nat.le_of_ble_eq_true rfl, Nat.le_of_ble_eq_true rfl⟩) hS (fun q _ h => MA.le hS.1 q h) (MA.le hS.1) (fun r71 x t H locs ht hvm hw hB9 _ _ hS => ?_)
        have hP := mB.at ht hB9
        clear hB9 ht hvm
        obtain ⟨st72, sl73⟩ := x
        obtain ⟨hG2, hF2, hw⟩ := hw
        dsimp only at hG2 hF2 hw
        have hP : va_P (dC, dI) vwCl (mw ar cy st72 sl73) _ := hP
        have hG : MG [1, 2, 3, 6, 7, 13, 14, 15, 20, 21, 22] st st72 := hG.tr hG2 (by decide)
        have hFst72 : FM 5 st48 sl49 st72 sl73 := hF2
        have hF : FM 6 st sl st72 sl73 := hF.tr hFst72 (by omega) (by omega)
        clear hG2 hF2
        have hR : RN c nm st72 sl73 := hR.fr hFst72
        obtain ⟨n74, rfl, hf75, hf76, hT⟩ := hw
        have hp9 := hT.2.2.2.2.2.2
        have hk1 := tkd_lt (B := B) (g := g) (m := m) (p := n50)
        have hk2 := tkx_le (B := B) (g := g) (m := m) (p := n50) hp9
        have hk3 := tka_le (B := B) (g := g) (m := m) (p := n50) hp9 hB.2.2.1
        have hk4 := tkv_lt (p := n50) hB hp9
        have hk5 := tkw_lt (B := B) (g := g) (m := m) (p := n50)
        refine lv_istore_n (lv' := [(1, .int (nI n74)), (0, .ref (ar 0))]) hx hb dX12_readAnd_47 rfl hl (by decide) rfl (fun ls hl => ?_)
        refine lv_goto (tgt := 14) hx hb dX12_readAnd_48 (by decide) ?_
        exact ih40 (21 - n52) _ _ _ _ (by omega) ⟨n74, st72, sl73, (n51 + 1), n52, rfl, by omega, by omega, by rw [hf76], by rw [(hFst72 0 44 (by decide)).1, hf55], by omega, by omega, by omega, by omega, by omega, by rw [(hFst72 0 45 (by decide)).1, hf56], ⟨n50, hT, hR, hco.trans (sL_y (sOne_pr _) (by omega) (by omega) hf63)⟩, hF, hP, hG, hS, lv_sub hl [0, 1] rfl, rfl⟩
      · refine lv_if_ne (tgt := 36) hx hb dX12_readAnd_31 (by decide) (fun cc => absurd (by decide) cc) (fun _ => ?_)
        refine lv_iconst (v := 0) hx hb dX12_readAnd_34 (by decide) ?_
        exact W.zret (v := 0) hx hb hr rfl (fun t ht hW => ⟨⟨0, (st48, sl49), rfl, ⟨hG, hF, Or.inr (⟨n64, n65, rfl, by show st48 0 10 = _; rw [hf66], by show st48 0 11 = _; rw [hf67], hf68, hco.trans (sL_f (by omega) hf69 hf68), by show st48 0 45 = _; rw [hf70]⟩)⟩, mB.of ht hP⟩, hS.F ht⟩) hS.2.2 dX12_readAnd_35
    · refine lv_if_eq (tgt := 51) hx hb dX12_readAnd_20 (by decide) (fun _ => ?_) (fun cc => absurd (by decide) cc)
      refine lv_aload_n hx hb dX12_readAnd_51 rfl (lv_at hl 1 rfl) ?_
      refine lv_iload_n hx hb dX12_readAnd_52 rfl (lv_at hl 0 rfl) ?_
      refine va_put (D := (dC, dI)) (ci := 11) (v := .int (nI k25)) (ty := .int) (C := RX12) (T := TX12) (N := 47) hx hb hts ii_X12_readAnd tyX12 tyX12_ok nmX12 hown hK hP (mD hN _ _ _ _) hS 0 rfl rfl 46 (by decide) (hts _ mm_X12_readAnd_1) (fun _ hh => hh) rfl (by decide +kernel) rfl rfl (Nat.le_of_ble_eq_true rfl) dX12_readAnd_53 (fun H locs hP _ hS => ?_)
      have hP : va_P (dC, dI) vwCl (mw ar cy (up2 st26 0 46 (nI k25)) sl27) H := hP
      obtain ⟨st77, est77⟩ : ∃ y, y = up2 st26 0 46 (nI k25) := ⟨_, rfl⟩
      have hG : MG [1, 2, 3, 6, 7, 13, 14, 15, 20, 21, 22] st st77 := by rw [est77]; exact hG.up (rn (n := k25) (by decide : mr 0 46 = 60) (by omega)) (pn (by decide : pcl 0 46 = 12) (by decide))
      rw [← est77] at hP
      have hF : FM 6 st sl st77 sl27 := by rw [est77]; exact hF.up (by decide)
      have hT : TM B g m p7 st77 sl27 := by rw [est77]; exact hT.up (by omega)
      have hR : RN c nm st77 sl27 := by rw [est77]; exact hR.up (by omega)
      refine lv_iconst (v := 1) hx hb dX12_readAnd_56 (by decide) ?_
      exact W.zret (v := 1) hx hb hr rfl (fun t ht hW => ⟨⟨1, (st77, sl27), rfl, ⟨hG, hF, Or.inl (⟨p7, n28, o29, k25, rfl, hT, by show st77 0 43 = _; rw [est77, up2_ne (r := 0) (k := 46) (a := 0) (j := 43) _ _ (by omega), en28], by show st77 0 44 = _; rw [est77, up2_ne (r := 0) (k := 46) (a := 0) (j := 44) _ _ (by omega), eo29], by show st77 0 45 = _; rw [est77, up2_ne (r := 0) (k := 46) (a := 0) (j := 45) _ _ (by omega), hv37_5], by show st77 0 46 = _; rw [est77, up2_same], by omega, by omega, by omega, by omega, by omega, hco, by omega⟩)⟩, mB.of ht hP⟩, hS.F ht⟩) hS.2.2 dX12_readAnd_57
  · refine lv_if_ne (tgt := 9) hx hb dX12_readAnd_4 (by decide) (fun cc => absurd (by decide) cc) (fun _ => ?_)
    refine lv_iconst (v := 0) hx hb dX12_readAnd_7 (by decide) ?_
    exact W.zret (v := 0) hx hb hr rfl (fun t ht hW => ⟨⟨0, (st2, sl3), rfl, ⟨hG, hF, Or.inr (⟨n18, n19, rfl, by show st2 0 10 = _; rw [hf20], by show st2 0 11 = _; rw [hf21], hf22, sC_f hf23 hf22, by show st2 0 45 = _; rw [hf24]⟩)⟩, mB.of ht hP⟩, hS.F ht⟩) hS.2.2 dX12_readAnd_8
set_option maxHeartbeats 4000000 in
set_option maxRecDepth 100000 in
theorem f_readOr_7 (l : Launch) (dC : Nat → ClassId) (dI : Nat → Nat → Nat) (ar : Nat → Nat) (cy : Nat → ClassId) (sz : Nat) (hN : MN ar) (st : Nat → Nat → Int32) (sl : Nat → Nat → Int64) (B : Nat → Nat) (g m : Nat) (p : Nat) (c : Nat → Nat) (nm : Nat → Nat → Nat) (gn : Nat) (go : Nat) (hI : MI st) (hB : MBt B g m st) (hT : TM B g m p st sl) (hR : RN c nm st sl) (h43 : st 0 43 = nI gn) (h44 : st 0 44 = nI go) (h45 : st 0 45 = 7) (hgn : gn ≤ 2 * go) (hgo : go ≤ 20) : Met l yX12_readOr wsX12_readOr ({ frames := 9, cells := 0, slots := 0, locals := 198 }) (va_Pc [.ref (ar 0)] (mPre dC dI ar cy sz st sl)) (va_Qi (fun (r : Int32) (x : MT) => MG [1, 2, 3, 6, 7, 13, 14, 15, 20, 21, 22] st x.1 ∧ FM 6 st sl x.1 x.2 ∧ ((∃ q : Nat, ∃ n1 : Nat, ∃ o1 : Nat, ∃ t1 : Nat, r = 1 ∧ TM B g m q x.1 x.2 ∧ x.1 0 43 = nI n1 ∧ x.1 0 44 = nI o1 ∧ x.1 0 45 = 7 ∧ x.1 0 46 = nI t1 ∧ t1 < n1 ∧ n1 + 2 * go + 1 ≤ gn + 2 * o1 ∧ go + 1 ≤ o1 ∧ o1 ≤ 20 ∧ gn ≤ n1 ∧ sCond B g m (sOne B g m c nm 1) p go = (0, q, o1)) ∨ (∃ f : Nat, ∃ a : Nat, r = 0 ∧ x.1 0 10 = nI f ∧ x.1 0 11 = nI a ∧ 1 ≤ f ∧ sCond B g m (sOne B g m c nm 1) p go = sf f a ∧ x.1 0 45 = 7))) (mB dC dI ar cy) (MA ar sz)) 0 0 (MA ar sz) := by
  refine Met.ofW (cc := cX12_readOr) (maxL := 2) (ret := (some .boolean)) (by decide) rfl ?_
  intro p9 e s m9 args below meth c9 s₁ B9 hml hv
  obtain ⟨rfl, hsz, hP, hK⟩ := hv
  have hx := B9.exec
  have hb := B9.bytes
  have hr := B9.returns
  have hts := atoms_spec (ws := wsX12_readOr) B9.pre
  have hown : s.vm.findClass RX12 = some m9.cls := findClass_of_methodNamed B9.named
  subst hsz
  have hS : va_S (MA ar s.heap.size) s.heap s.heap [] := va_S.rf
  have hG : MG [1, 2, 3, 6, 7, 13, 14, 15, 20, 21, 22] st st := MG.rf hI
  have hl := lv_entry ([.ref (ar 0)]) (n := 2) (Nat.le_of_ble_eq_true rfl)
  rw [lg_entry_eq]
  generalize (lg_sl ([.ref (ar 0)]) ++ List.replicate (2 - (lg_sl ([.ref (ar 0)])).length) Slot.unset).toArray = ls at hl ⊢
  have hl : lv_has ls 2 [(0, .ref (ar 0))] := hl
  clear hI
  have hB1 := hB.2.2.1
  have hB2 := hB.2.2.2.1
  have hF : FM 6 st sl st sl := FM.rf
  have hp9 := hT.2.2.2.2.2.2
  have hk1 := tkd_lt (B := B) (g := g) (m := m) (p := p)
  have hk2 := tkx_le (B := B) (g := g) (m := m) (p := p) hp9
  have hk3 := tka_le (B := B) (g := g) (m := m) (p := p) hp9 hB.2.2.1
  have hk4 := tkv_lt (p := p) hB hp9
  have hk5 := tkw_lt (B := B) (g := g) (m := m) (p := p)
  have hR9 := hR.2.1
  refine lv_aload_n hx hb dX12_readOr_0 rfl (lv_at hl 0 rfl) ?_
  refine va_calli (va_runV (As := []) (rest := []) ⟨hx, hb, hml, hown, hts⟩ (f_readAnd_7 l dC dI ar cy _ hN st sl B g m p c nm gn go hG.1 (MBt.fr hB hF) hT hR (by rw [h43]) (by rw [h44]) (by rw [h45]) (by omega) (by omega)) (cwV 0 hts gX12_readOr_X12_readAnd rfl rfl rfl (by decide +kernel) ⟨Nat.le_of_ble_eq_true rfl, Nat.le_of_ble_eq_true rfl⟩) ⟨fun a U g mk q => ⟨q.1, mPre.blind q.2⟩, va_recv hK hP (ci := 11) (q0 := 0) rfl rfl, fun U hU hW => ⟨rfl, mPre.of hP hK hU hW⟩⟩ rfl rfl hl.1 rfl (lv_room (Nat.le_of_ble_eq_true rfl)) dX12_readOr_1 ⟨Nat.le_of_ble_eq_true rfl, Nat.le_of_ble_eq_true rfl⟩) hS (fun q _ h => MA.le hS.1 q h) (MA.le hS.1) (fun r1 x t H locs ht hvm hw hB9 _ _ hS => ?_)
  have hP := mB.at ht hB9
  clear hB9 ht hvm
  obtain ⟨st2, sl3⟩ := x
  obtain ⟨hG2, hF2, hw⟩ := hw
  dsimp only at hG2 hF2 hw
  have hP : va_P (dC, dI) vwCl (mw ar cy st2 sl3) _ := hP
  have hG : MG [1, 2, 3, 6, 7, 13, 14, 15, 20, 21, 22] st st2 := hG.tr hG2 (by decide)
  have hFst2 : FM 6 st sl st2 sl3 := hF2
  have hF : FM 6 st sl st2 sl3 := hF.tr hFst2 (by omega) (by omega)
  clear hG2 hF2
  have hR : RN c nm st2 sl3 := hR.fr hFst2
  rcases hw with ⟨n4, n5, n6, n7, rfl, hT, hf8, hf9, hf10, hf11, hf12, hf13, hf14, hf15, hf16, hf17, hf18⟩ | ⟨n19, n20, rfl, hf21, hf22, hf23, hf24, hf25⟩
  · have hp9 := hT.2.2.2.2.2.2
    have hk1 := tkd_lt (B := B) (g := g) (m := m) (p := n4)
    have hk2 := tkx_le (B := B) (g := g) (m := m) (p := n4) hp9
    have hk3 := tka_le (B := B) (g := g) (m := m) (p := n4) hp9 hB.2.2.1
    have hk4 := tkv_lt (p := n4) hB hp9
    have hk5 := tkw_lt (B := B) (g := g) (m := m) (p := n4)
    refine lv_if_ne (tgt := 9) hx hb dX12_readOr_4 (by decide) (fun _ => ?_) (fun cc => absurd cc (by decide))
    refine lv_aload_n hx hb dX12_readOr_9 rfl (lv_at hl 0 rfl) ?_
    refine va_get (D := (dC, dI)) (ci := 11) (v := .int (st2 0 46)) (C := RX12) (T := TX12) (N := 47) hx hb hts ii_X12_readOr hown hK hP 0 rfl rfl 46 (by decide) (hts _ mm_X12_readOr_1) (fun _ hh => hh) rfl dX12_readOr_10 ?_
    refine zz_top (v := (nI n7)) (by show st2 0 46 = _; rw [hf11]) ?_
    refine lv_istore_n (lv' := [(1, .int (nI n7)), (0, .ref (ar 0))]) hx hb dX12_readOr_13 rfl hl (by decide) rfl (fun ls hl => ?_)
    refine zz_wf (fun n stk H locs ls => ∃ k26 : Nat, ∃ st27 : Nat → Nat → Int32, ∃ sl28 : Nat → Nat → Int64, ∃ n29 : Nat, ∃ o30 : Nat, n = 21 - o30 ∧ 0 ≤ k26 ∧ k26 < 60 ∧ st27 0 43 = nI n29 ∧ st27 0 44 = nI o30 ∧ k26 < n29 ∧ n29 + 2 * go + 1 ≤ gn + 2 * o30 ∧ go + 1 ≤ o30 ∧ o30 ≤ 20 ∧ gn ≤ n29 ∧ st27 0 45 = 7 ∧ (∃ (p7 : Nat), TM B g m p7 st27 sl28 ∧ RN c nm st27 sl28 ∧ sCond B g m (sOne B g m c nm 1) p go = sLoop B g m (sOne B g m c nm 1) 21 p7 o30 ∧ ¬ tkw B g m p7 = 14) ∧ FM 6 st sl st27 sl28 ∧ va_P (dC, dI) vwCl (mw ar cy st27 sl28) H ∧ MG [1, 2, 3, 6, 7, 13, 14, 15, 20, 21, 22] st st27 ∧ va_S (MA ar s.heap.size) s.heap H locs ∧ lv_has ls 2 [(1, .int (nI k26)), (0, .ref (ar 0))] ∧ stk = []) ?_ (21 - n6) _ _ _ _ ⟨n7, st2, sl3, n5, n6, rfl, by omega, by omega, by rw [hf8], by rw [hf9], by omega, by omega, by omega, by omega, by omega, by rw [hf10], ⟨n4, hT, hR, hf17, hf18⟩, hF, hP, hG, hS, lv_sub hl [0, 1] rfl, rfl⟩
    rintro nn stk H locs ls ⟨k26, st27, sl28, n29, o30, hm40, hv31_0, hv32_1, en29, eo30, hv33_0, hv34_1, hv35_2, hv36_3, hv37_4, hv38_5, hv39_6, hv40_7, hP, hG, hS, hl, rfl⟩ ih41
    have hF := hv40_7
    obtain ⟨p7, hT, hR, hco, hna⟩ := hv39_6
    have hp9 := hT.2.2.2.2.2.2
    have hk1 := tkd_lt (B := B) (g := g) (m := m) (p := p7)
    have hk2 := tkx_le (B := B) (g := g) (m := m) (p := p7) hp9
    have hk3 := tka_le (B := B) (g := g) (m := m) (p := p7) hp9 hB.2.2.1
    have hk4 := tkv_lt (p := p7) hB hp9
    have hk5 := tkw_lt (B := B) (g := g) (m := m) (p := p7)
    refine lv_aload_n hx hb dX12_readOr_14 rfl (lv_at hl 1 rfl) ?_
    refine lv_bipush (v := 13) hx hb dX12_readOr_15 (by decide) ?_
    refine va_calli (va_runV (As := [.int 13]) (rest := []) ⟨hx, hb, hml, hown, hts⟩ (f_isWord13 l dC dI ar cy _ hN st27 sl28 B g m p7 hG.1 (MBt.fr hB hF) hT) (cwV 1 hts gX12_readOr_X12_isWord rfl rfl rfl (by decide +kernel) ⟨Nat.le_of_ble_eq_true rfl, Nat.le_of_ble_eq_true rfl⟩) ⟨fun a U g mk q => ⟨q.1, mPre.blind q.2⟩, va_recv hK hP (ci := 11) (q0 := 0) rfl rfl, fun U hU hW => ⟨rfl, mPre.of hP hK hU hW⟩⟩ rfl rfl hl.1 rfl (lv_room (Nat.le_of_ble_eq_true rfl)) dX12_readOr_17 ⟨Nat.le_of_ble_eq_true rfl, Nat.le_of_ble_eq_true rfl⟩) hS (fun q _ h => MA.le hS.1 q h) (MA.le hS.1) (fun r42 x t H locs ht hvm hw hB9 _ _ hS => ?_)
    have hP := mB.at ht hB9
    clear hB9 ht hvm
    obtain ⟨rfl, hw⟩ := hw
    have hP : va_P (dC, dI) vwCl (mw ar cy st27 sl28) _ := hP
    rcases hw with ⟨rfl, hf43⟩ | ⟨rfl, hf44⟩
    · refine lv_if_eq (tgt := 51) hx hb dX12_readOr_20 (by decide) (fun cc => absurd cc (by decide)) (fun _ => ?_)
      refine lv_aload_n hx hb dX12_readOr_23 rfl (lv_at hl 1 rfl) ?_
      refine va_callv (va_runV (As := []) (rest := []) ⟨hx, hb, hml, hown, hts⟩ (f_go l dC dI ar cy _ hN st27 sl28 B g m (tkx B g m p7) hG.1 (MBt.fr hB hF) hT.1 hk2.2) (cwV 0 hts gX12_readOr_X12_go rfl rfl rfl (by decide +kernel) ⟨Nat.le_of_ble_eq_true rfl, Nat.le_of_ble_eq_true rfl⟩) ⟨fun a U g mk q => ⟨q.1, mPre.blind q.2⟩, va_recv hK hP (ci := 11) (q0 := 0) rfl rfl, fun U hU hW => ⟨rfl, mPre.of hP hK hU hW⟩⟩ rfl rfl hl.1 rfl (lv_room (Nat.le_of_ble_eq_true rfl)) dX12_readOr_24 ⟨Nat.le_of_ble_eq_true rfl, Nat.le_of_ble_eq_true rfl⟩) hS (fun q _ h => MA.le hS.1 q h) (MA.le hS.1) (fun x t H locs ht hvm hw hB9 _ _ hS => ?_)
      have hP := mB.at ht hB9
      clear hB9 ht hvm
      obtain ⟨st46, sl47⟩ := x
      obtain ⟨hG2, hF2, hw⟩ := hw
      dsimp only at hG2 hF2 hw
      have hP : va_P (dC, dI) vwCl (mw ar cy st46 sl47) _ := hP
      have hG : MG [1, 2, 3, 6, 7, 13, 14, 15, 20, 21, 22] st st46 := hG.tr hG2 (by decide)
      have hFst46 : FM 1 st27 sl28 st46 sl47 := hF2
      have hF : FM 6 st sl st46 sl47 := hF.tr hFst46 (by omega) (by omega)
      clear hG2 hF2
      have hR : RN c nm st46 sl47 := hR.fr hFst46
      have hT := hw
      have hp9 := hT.2.2.2.2.2.2
      have hk1 := tkd_lt (B := B) (g := g) (m := m) (p := (tkx B g m p7))
      have hk2 := tkx_le (B := B) (g := g) (m := m) (p := (tkx B g m p7)) hp9
      have hk3 := tka_le (B := B) (g := g) (m := m) (p := (tkx B g m p7)) hp9 hB.2.2.1
      have hk4 := tkv_lt (p := (tkx B g m p7)) hB hp9
      have hk5 := tkw_lt (B := B) (g := g) (m := m) (p := (tkx B g m p7))
      refine lv_aload_n hx hb dX12_readOr_27 rfl (lv_at hl 1 rfl) ?_
      refine va_calli (va_runV (As := []) (rest := []) ⟨hx, hb, hml, hown, hts⟩ (f_readAnd_7 l dC dI ar cy _ hN st46 sl47 B g m (tkx B g m p7) c nm n29 o30 hG.1 (MBt.fr hB hF) hT hR (by rw [(hFst46 0 43 (by decide)).1, en29]) (by rw [(hFst46 0 44 (by decide)).1, eo30]) (by rw [(hFst46 0 45 (by decide)).1, hv38_5]) (by omega) (by omega)) (cwV 0 hts gX12_readOr_X12_readAnd rfl rfl rfl (by decide +kernel) ⟨Nat.le_of_ble_eq_true rfl, Nat.le_of_ble_eq_true rfl⟩) ⟨fun a U g mk q => ⟨q.1, mPre.blind q.2⟩, va_recv hK hP (ci := 11) (q0 := 0) rfl rfl, fun U hU hW => ⟨rfl, mPre.of hP hK hU hW⟩⟩ rfl rfl hl.1 rfl (lv_room (Nat.le_of_ble_eq_true rfl)) dX12_readOr_28 ⟨Nat.le_of_ble_eq_true rfl, Nat.le_of_ble_eq_true rfl⟩) hS (fun q _ h => MA.le hS.1 q h) (MA.le hS.1) (fun r48 x t H locs ht hvm hw hB9 _ _ hS => ?_)
      have hP := mB.at ht hB9
      clear hB9 ht hvm
      obtain ⟨st49, sl50⟩ := x
      obtain ⟨hG2, hF2, hw⟩ := hw
      dsimp only at hG2 hF2 hw
      have hP : va_P (dC, dI) vwCl (mw ar cy st49 sl50) _ := hP
      have hG : MG [1, 2, 3, 6, 7, 13, 14, 15, 20, 21, 22] st st49 := hG.tr hG2 (by decide)
      have hFst49 : FM 6 st46 sl47 st49 sl50 := hF2
      have hF : FM 6 st sl st49 sl50 := hF.tr hFst49 (by omega) (by omega)
      clear hG2 hF2
      have hR : RN c nm st49 sl50 := hR.fr hFst49
      rcases hw with ⟨n51, n52, n53, n54, rfl, hT, hf55, hf56, hf57, hf58, hf59, hf60, hf61, hf62, hf63, hf64, hf65⟩ | ⟨n66, n67, rfl, hf68, hf69, hf70, hf71, hf72⟩
      · have hp9 := hT.2.2.2.2.2.2
        have hk1 := tkd_lt (B := B) (g := g) (m := m) (p := n51)
        have hk2 := tkx_le (B := B) (g := g) (m := m) (p := n51) hp9
        have hk3 := tka_le (B := B) (g := g) (m := m) (p := n51) hp9 hB.2.2.1
        have hk4 := tkv_lt (p := n51) hB hp9
        have hk5 := tkw_lt (B := B) (g := g) (m := m) (p := n51)
        refine lv_if_ne (tgt := 36) hx hb dX12_readOr_31 (by decide) (fun _ => ?_) (fun cc => absurd cc (by decide))
        refine lv_aload_n hx hb dX12_readOr_36 rfl (lv_at hl 1 rfl) ?_
        refine lv_iconst (v := 3) hx hb dX12_readOr_37 (by decide) ?_
        refine lv_iload_n hx hb dX12_readOr_38 rfl (lv_at hl 0 rfl) ?_
        refine lv_aload_n hx hb dX12_readOr_39 rfl (lv_at hl 1 rfl) ?_
        refine va_get (D := (dC, dI)) (ci := 11) (v := .int (st49 0 46)) (C := RX12) (T := TX12) (N := 47) hx hb hts ii_X12_readOr hown hK hP 0 rfl rfl 46 (by decide) (hts _ mm_X12_readOr_1) (fun _ hh => hh) rfl dX12_readOr_40 ?_
        refine zz_top (v := (nI n54)) (by show st49 0 46 = _; rw [hf58]) ?_
        refine lv_iconst (v := 0) hx hb dX12_readOr_43 (by decide) ?_
        refine va_calli (va_runV (As := [.int 3, .int (nI k26), .int (nI n54), .int 0]) (rest := []) ⟨hx, hb, hml, hown, hts⟩ (f_saysOne l dC dI ar cy _ hN st49 sl50 3 (nI k26) (nI n54) 0 B g m n51 n52 hG.1 (MBt.fr hB hF) hT (by rw [hf55]) (by omega)) (cwV 4 hts gX12_readOr_X12_saysOne rfl rfl rfl (by decide +kernel) ⟨Nat.le_of_ble_eq_true rfl, Nat.le_of_ble_eq_true rfl⟩) ⟨fun a U g mk q => ⟨q.1, mPre.blind q.2⟩, va_recv hK hP (ci := 11) (q0 := 0) rfl rfl, fun U hU hW => ⟨rfl, mPre.of hP hK hU hW⟩⟩ rfl rfl hl.1 rfl (lv_room (Nat.le_of_ble_eq_true rfl)) dX12_readOr_44 ⟨Nat.le_of_ble_eq_true rfl, Nat.le_of_ble_eq_true rfl⟩) hS (fun q _ h => MA.le hS.1 q h) (MA.le hS.1) (fun r73 x t H locs ht hvm hw hB9 _ _ hS => ?_)
        have hP := mB.at ht hB9
        clear hB9 ht hvm
        obtain ⟨st74, sl75⟩ := x
        obtain ⟨hG2, hF2, hw⟩ := hw
        dsimp only at hG2 hF2 hw
        have hP : va_P (dC, dI) vwCl (mw ar cy st74 sl75) _ := hP
        have hG : MG [1, 2, 3, 6, 7, 13, 14, 15, 20, 21, 22] st st74 := hG.tr hG2 (by decide)
        have hFst74 : FM 5 st49 sl50 st74 sl75 := hF2
        have hF : FM 6 st sl st74 sl75 := hF.tr hFst74 (by omega) (by omega)
        clear hG2 hF2
        have hR : RN c nm st74 sl75 := hR.fr hFst74
        obtain ⟨n76, rfl, hf77, hf78, hT⟩ := hw
        have hp9 := hT.2.2.2.2.2.2
        have hk1 := tkd_lt (B := B) (g := g) (m := m) (p := n51)
        have hk2 := tkx_le (B := B) (g := g) (m := m) (p := n51) hp9
        have hk3 := tka_le (B := B) (g := g) (m := m) (p := n51) hp9 hB.2.2.1
        have hk4 := tkv_lt (p := n51) hB hp9
        have hk5 := tkw_lt (B := B) (g := g) (m := m) (p := n51)
        refine lv_istore_n (lv' := [(1, .int (nI n76)), (0, .ref (ar 0))]) hx hb dX12_readOr_47 rfl hl (by decide) rfl (fun ls hl => ?_)
        refine lv_goto (tgt := 14) hx hb dX12_readOr_48 (by decide) ?_
        exact ih41 (21 - n53) _ _ _ _ (by omega) ⟨n76, st74, sl75, (n52 + 1), n53, rfl, by omega, by omega, by rw [hf78], by rw [(hFst74 0 44 (by decide)).1, hf56], by omega, by omega, by omega, by omega, by omega, by rw [(hFst74 0 45 (by decide)).1, hf57], ⟨n51, hT, hR, hco.trans ((sL_c (sOne_pr _) (by omega) (by omega)).trans hf64), hf65⟩, hF, hP, hG, hS, lv_sub hl [0, 1] rfl, rfl⟩
      · refine lv_if_ne (tgt := 36) hx hb dX12_readOr_31 (by decide) (fun cc => absurd (by decide) cc) (fun _ => ?_)
        refine lv_iconst (v := 0) hx hb dX12_readOr_34 (by decide) ?_
        exact W.zret (v := 0) hx hb hr rfl (fun t ht hW => ⟨⟨0, (st49, sl50), rfl, ⟨hG, hF, Or.inr (⟨n66, n67, rfl, by show st49 0 10 = _; rw [hf68], by show st49 0 11 = _; rw [hf69], hf70, hco.trans ((sL_c (sOne_pr _) (by omega) (by omega)).trans hf71), by show st49 0 45 = _; rw [hf72]⟩)⟩, mB.of ht hP⟩, hS.F ht⟩) hS.2.2 dX12_readOr_35
    · refine lv_if_eq (tgt := 51) hx hb dX12_readOr_20 (by decide) (fun _ => ?_) (fun cc => absurd (by decide) cc)
      refine lv_aload_n hx hb dX12_readOr_51 rfl (lv_at hl 1 rfl) ?_
      refine lv_iload_n hx hb dX12_readOr_52 rfl (lv_at hl 0 rfl) ?_
      refine va_put (D := (dC, dI)) (ci := 11) (v := .int (nI k26)) (ty := .int) (C := RX12) (T := TX12) (N := 47) hx hb hts ii_X12_readOr tyX12 tyX12_ok nmX12 hown hK hP (mD hN _ _ _ _) hS 0 rfl rfl 46 (by decide) (hts _ mm_X12_readOr_1) (fun _ hh => hh) rfl (by decide +kernel) rfl rfl (Nat.le_of_ble_eq_true rfl) dX12_readOr_53 (fun H locs hP _ hS => ?_)
      have hP : va_P (dC, dI) vwCl (mw ar cy (up2 st27 0 46 (nI k26)) sl28) H := hP
      obtain ⟨st79, est79⟩ : ∃ y, y = up2 st27 0 46 (nI k26) := ⟨_, rfl⟩
      have hG : MG [1, 2, 3, 6, 7, 13, 14, 15, 20, 21, 22] st st79 := by rw [est79]; exact hG.up (rn (n := k26) (by decide : mr 0 46 = 60) (by omega)) (pn (by decide : pcl 0 46 = 12) (by decide))
      rw [← est79] at hP
      have hF : FM 6 st sl st79 sl28 := by rw [est79]; exact hF.up (by decide)
      have hT : TM B g m p7 st79 sl28 := by rw [est79]; exact hT.up (by omega)
      have hR : RN c nm st79 sl28 := by rw [est79]; exact hR.up (by omega)
      refine lv_iconst (v := 1) hx hb dX12_readOr_56 (by decide) ?_
      exact W.zret (v := 1) hx hb hr rfl (fun t ht hW => ⟨⟨1, (st79, sl28), rfl, ⟨hG, hF, Or.inl (⟨p7, n29, o30, k26, rfl, hT, by show st79 0 43 = _; rw [est79, up2_ne (r := 0) (k := 46) (a := 0) (j := 43) _ _ (by omega), en29], by show st79 0 44 = _; rw [est79, up2_ne (r := 0) (k := 46) (a := 0) (j := 44) _ _ (by omega), eo30], by show st79 0 45 = _; rw [est79, up2_ne (r := 0) (k := 46) (a := 0) (j := 45) _ _ (by omega), hv38_5], by show st79 0 46 = _; rw [est79, up2_same], by omega, by omega, by omega, by omega, by omega, hco.trans (sL_n (by omega))⟩)⟩, mB.of ht hP⟩, hS.F ht⟩) hS.2.2 dX12_readOr_57
  · refine lv_if_ne (tgt := 9) hx hb dX12_readOr_4 (by decide) (fun cc => absurd (by decide) cc) (fun _ => ?_)
    refine lv_iconst (v := 0) hx hb dX12_readOr_7 (by decide) ?_
    exact W.zret (v := 0) hx hb hr rfl (fun t ht hW => ⟨⟨0, (st2, sl3), rfl, ⟨hG, hF, Or.inr (⟨n19, n20, rfl, by show st2 0 10 = _; rw [hf21], by show st2 0 11 = _; rw [hf22], hf23, hf24, by show st2 0 45 = _; rw [hf25]⟩)⟩, mB.of ht hP⟩, hS.F ht⟩) hS.2.2 dX12_readOr_8
set_option maxHeartbeats 4000000 in
set_option maxRecDepth 100000 in
theorem f_readBracket_7 (l : Launch) (dC : Nat → ClassId) (dI : Nat → Nat → Nat) (ar : Nat → Nat) (cy : Nat → ClassId) (sz : Nat) (hN : MN ar) (st : Nat → Nat → Int32) (sl : Nat → Nat → Int64) (B : Nat → Nat) (g m : Nat) (p : Nat) (c : Nat → Nat) (nm : Nat → Nat → Nat) (gn : Nat) (go : Nat) (hI : MI st) (hB : MBt B g m st) (hT : TM B g m p st sl) (hR : RN c nm st sl) (h43 : st 0 43 = nI gn) (h44 : st 0 44 = nI go) (h45 : st 0 45 = 7) (hgn : gn ≤ 2 * go) (hgo : go ≤ 20) : Met l yX12_readBracket wsX12_readBracket ({ frames := 10, cells := 0, slots := 0, locals := 219 }) (va_Pc [.ref (ar 0)] (mPre dC dI ar cy sz st sl)) (va_Qi (fun (r : Int32) (x : MT) => MG [1, 2, 3, 6, 7, 13, 14, 15, 20, 21, 22] st x.1 ∧ FM 6 st sl x.1 x.2 ∧ ((∃ q : Nat, ∃ n1 : Nat, ∃ o1 : Nat, ∃ t1 : Nat, r = 1 ∧ TM B g m q x.1 x.2 ∧ x.1 0 43 = nI n1 ∧ x.1 0 44 = nI o1 ∧ x.1 0 45 = 7 ∧ x.1 0 46 = nI t1 ∧ t1 < n1 ∧ n1 + 2 * go + 1 ≤ gn + 2 * o1 ∧ go + 1 ≤ o1 ∧ o1 ≤ 20 ∧ gn ≤ n1 ∧ sBra B g m (sCond B g m (sOne B g m c nm 1) p go) = (0, q, o1)) ∨ (∃ f : Nat, ∃ a : Nat, r = 0 ∧ x.1 0 10 = nI f ∧ x.1 0 11 = nI a ∧ 1 ≤ f ∧ sBra B g m (sCond B g m (sOne B g m c nm 1) p go) = sf f a ∧ x.1 0 45 = 7))) (mB dC dI ar cy) (MA ar sz)) 0 0 (MA ar sz) := by
  refine Met.ofW (cc := cX12_readBracket) (maxL := 1) (ret := (some .boolean)) (by decide) rfl ?_
  intro p9 e s m9 args below meth c9 s₁ B9 hml hv
  obtain ⟨rfl, hsz, hP, hK⟩ := hv
  have hx := B9.exec
  have hb := B9.bytes
  have hr := B9.returns
  have hts := atoms_spec (ws := wsX12_readBracket) B9.pre
  have hown : s.vm.findClass RX12 = some m9.cls := findClass_of_methodNamed B9.named
  subst hsz
  have hS : va_S (MA ar s.heap.size) s.heap s.heap [] := va_S.rf
  have hG : MG [1, 2, 3, 6, 7, 13, 14, 15, 20, 21, 22] st st := MG.rf hI
  have hl := lv_entry ([.ref (ar 0)]) (n := 1) (Nat.le_of_ble_eq_true rfl)
  rw [lg_entry_eq]
  generalize (lg_sl ([.ref (ar 0)]) ++ List.replicate (1 - (lg_sl ([.ref (ar 0)])).length) Slot.unset).toArray = ls at hl ⊢
  have hl : lv_has ls 1 [(0, .ref (ar 0))] := hl
  clear hI
  have hB1 := hB.2.2.1
  have hB2 := hB.2.2.2.1
  have hF : FM 6 st sl st sl := FM.rf
  have hp9 := hT.2.2.2.2.2.2
  have hk1 := tkd_lt (B := B) (g := g) (m := m) (p := p)
  have hk2 := tkx_le (B := B) (g := g) (m := m) (p := p) hp9
  have hk3 := tka_le (B := B) (g := g) (m := m) (p := p) hp9 hB.2.2.1
  have hk4 := tkv_lt (p := p) hB hp9
  have hk5 := tkw_lt (B := B) (g := g) (m := m) (p := p)
  have hR9 := hR.2.1
  refine lv_aload_n hx hb dX12_readBracket_0 rfl (lv_at hl 0 rfl) ?_
  refine va_calli (va_runV (As := []) (rest := []) ⟨hx, hb, hml, hown, hts⟩ (f_readOr_7 l dC dI ar cy _ hN st sl B g m p c nm gn go hG.1 (MBt.fr hB hF) hT hR (by rw [h43]) (by rw [h44]) (by rw [h45]) (by omega) (by omega)) (cwV 0 hts gX12_readBracket_X12_readOr rfl rfl rfl (by decide +kernel) ⟨Nat.le_of_ble_eq_true rfl, Nat.le_of_ble_eq_true rfl⟩) ⟨fun a U g mk q => ⟨q.1, mPre.blind q.2⟩, va_recv hK hP (ci := 11) (q0 := 0) rfl rfl, fun U hU hW => ⟨rfl, mPre.of hP hK hU hW⟩⟩ rfl rfl hl.1 rfl (lv_room (Nat.le_of_ble_eq_true rfl)) dX12_readBracket_1 ⟨Nat.le_of_ble_eq_true rfl, Nat.le_of_ble_eq_true rfl⟩) hS (fun q _ h => MA.le hS.1 q h) (MA.le hS.1) (fun r1 x t H locs ht hvm hw hB9 _ _ hS => ?_)
  have hP := mB.at ht hB9
  clear hB9 ht hvm
  obtain ⟨st2, sl3⟩ := x
  obtain ⟨hG2, hF2, hw⟩ := hw
  dsimp only at hG2 hF2 hw
  have hP : va_P (dC, dI) vwCl (mw ar cy st2 sl3) _ := hP
  have hG : MG [1, 2, 3, 6, 7, 13, 14, 15, 20, 21, 22] st st2 := hG.tr hG2 (by decide)
  have hFst2 : FM 6 st sl st2 sl3 := hF2
  have hF : FM 6 st sl st2 sl3 := hF.tr hFst2 (by omega) (by omega)
  clear hG2 hF2
  have hR : RN c nm st2 sl3 := hR.fr hFst2
  rcases hw with ⟨n4, n5, n6, n7, rfl, hT, hf8, hf9, hf10, hf11, hf12, hf13, hf14, hf15, hf16, hf17⟩ | ⟨n18, n19, rfl, hf20, hf21, hf22, hf23, hf24⟩
  · have hp9 := hT.2.2.2.2.2.2
    have hk1 := tkd_lt (B := B) (g := g) (m := m) (p := n4)
    have hk2 := tkx_le (B := B) (g := g) (m := m) (p := n4) hp9
    have hk3 := tka_le (B := B) (g := g) (m := m) (p := n4) hp9 hB.2.2.1
    have hk4 := tkv_lt (p := n4) hB hp9
    have hk5 := tkw_lt (B := B) (g := g) (m := m) (p := n4)
    refine lv_if_ne (tgt := 9) hx hb dX12_readBracket_4 (by decide) (fun _ => ?_) (fun cc => absurd cc (by decide))
    refine lv_aload_n hx hb dX12_readBracket_9 rfl (lv_at hl 0 rfl) ?_
    refine lv_bipush (v := 41) hx hb dX12_readBracket_10 (by decide) ?_
    refine va_calli (va_runV (As := [.int 41]) (rest := []) ⟨hx, hb, hml, hown, hts⟩ (f_isSign41 l dC dI ar cy _ hN st2 sl3 B g m n4 hG.1 (MBt.fr hB hF) hT) (cwV 1 hts gX12_readBracket_X12_isSign rfl rfl rfl (by decide +kernel) ⟨Nat.le_of_ble_eq_true rfl, Nat.le_of_ble_eq_true rfl⟩) ⟨fun a U g mk q => ⟨q.1, mPre.blind q.2⟩, va_recv hK hP (ci := 11) (q0 := 0) rfl rfl, fun U hU hW => ⟨rfl, mPre.of hP hK hU hW⟩⟩ rfl rfl hl.1 rfl (lv_room (Nat.le_of_ble_eq_true rfl)) dX12_readBracket_12 ⟨Nat.le_of_ble_eq_true rfl, Nat.le_of_ble_eq_true rfl⟩) hS (fun q _ h => MA.le hS.1 q h) (MA.le hS.1) (fun r25 x t H locs ht hvm hw hB9 _ _ hS => ?_)
    have hP := mB.at ht hB9
    clear hB9 ht hvm
    obtain ⟨rfl, hw⟩ := hw
    have hP : va_P (dC, dI) vwCl (mw ar cy st2 sl3) _ := hP
    rcases hw with ⟨rfl, hf26, hf27⟩ | ⟨rfl, hf28⟩
    · refine lv_if_ne (tgt := 24) hx hb dX12_readBracket_15 (by decide) (fun _ => ?_) (fun cc => absurd cc (by decide))
      refine lv_aload_n hx hb dX12_readBracket_24 rfl (lv_at hl 0 rfl) ?_
      refine va_callv (va_runV (As := []) (rest := []) ⟨hx, hb, hml, hown, hts⟩ (f_go l dC dI ar cy _ hN st2 sl3 B g m (tkx B g m n4) hG.1 (MBt.fr hB hF) hT.1 hk2.2) (cwV 0 hts gX12_readBracket_X12_go rfl rfl rfl (by decide +kernel) ⟨Nat.le_of_ble_eq_true rfl, Nat.le_of_ble_eq_true rfl⟩) ⟨fun a U g mk q => ⟨q.1, mPre.blind q.2⟩, va_recv hK hP (ci := 11) (q0 := 0) rfl rfl, fun U hU hW => ⟨rfl, mPre.of hP hK hU hW⟩⟩ rfl rfl hl.1 rfl (lv_room (Nat.le_of_ble_eq_true rfl)) dX12_readBracket_25 ⟨Nat.le_of_ble_eq_true rfl, Nat.le_of_ble_eq_true rfl⟩) hS (fun q _ h => MA.le hS.1 q h) (MA.le hS.1) (fun x t H locs ht hvm hw hB9 _ _ hS => ?_)
      have hP := mB.at ht hB9
      clear hB9 ht hvm
      obtain ⟨st30, sl31⟩ := x
      obtain ⟨hG2, hF2, hw⟩ := hw
      dsimp only at hG2 hF2 hw
      have hP : va_P (dC, dI) vwCl (mw ar cy st30 sl31) _ := hP
      have hG : MG [1, 2, 3, 6, 7, 13, 14, 15, 20, 21, 22] st st30 := hG.tr hG2 (by decide)
      have hFst30 : FM 1 st2 sl3 st30 sl31 := hF2
      have hF : FM 6 st sl st30 sl31 := hF.tr hFst30 (by omega) (by omega)
      clear hG2 hF2
      have hR : RN c nm st30 sl31 := hR.fr hFst30
      have hT := hw
      have hp9 := hT.2.2.2.2.2.2
      have hk1 := tkd_lt (B := B) (g := g) (m := m) (p := (tkx B g m n4))
      have hk2 := tkx_le (B := B) (g := g) (m := m) (p := (tkx B g m n4)) hp9
      have hk3 := tka_le (B := B) (g := g) (m := m) (p := (tkx B g m n4)) hp9 hB.2.2.1
      have hk4 := tkv_lt (p := (tkx B g m n4)) hB hp9
      have hk5 := tkw_lt (B := B) (g := g) (m := m) (p := (tkx B g m n4))
      refine lv_iconst (v := 1) hx hb dX12_readBracket_28 (by decide) ?_
      exact W.zret (v := 1) hx hb hr rfl (fun t ht hW => ⟨⟨1, (st30, sl31), rfl, ⟨hG, hF, Or.inl (⟨(tkx B g m n4), n5, n6, n7, rfl, hT, by show st30 0 43 = _; rw [(hFst30 0 43 (by decide)).1, hf8], by show st30 0 44 = _; rw [(hFst30 0 44 (by decide)).1, hf9], by show st30 0 45 = _; rw [(hFst30 0 45 (by decide)).1, hf10], by show st30 0 46 = _; rw [(hFst30 0 46 (by decide)).1, hf11], by omega, by omega, by omega, by omega, by omega, sB_y hf17 ⟨hf26, hf27⟩⟩)⟩, mB.of ht hP⟩, hS.F ht⟩) hS.2.2 dX12_readBracket_29
    · refine lv_if_ne (tgt := 24) hx hb dX12_readBracket_15 (by decide) (fun cc => absurd (by decide) cc) (fun _ => ?_)
      refine lv_aload_n hx hb dX12_readBracket_18 rfl (lv_at hl 0 rfl) ?_
      refine lv_iconst (v := 1) hx hb dX12_readBracket_19 (by decide) ?_
      refine va_calli (va_runV (As := [.int 1]) (rest := []) ⟨hx, hb, hml, hown, hts⟩ (f_bad l dC dI ar cy _ hN st2 sl3 1 B g m n4 (by omega) hG.1 (MBt.fr hB hF) hT) (cwV 1 hts gX12_readBracket_X12_bad rfl rfl rfl (by decide +kernel) ⟨Nat.le_of_ble_eq_true rfl, Nat.le_of_ble_eq_true rfl⟩) ⟨fun a U g mk q => ⟨q.1, mPre.blind q.2⟩, va_recv hK hP (ci := 11) (q0 := 0) rfl rfl, fun U hU hW => ⟨rfl, mPre.of hP hK hU hW⟩⟩ rfl rfl hl.1 rfl (lv_room (Nat.le_of_ble_eq_true rfl)) dX12_readBracket_20 ⟨Nat.le_of_ble_eq_true rfl, Nat.le_of_ble_eq_true rfl⟩) hS (fun q _ h => MA.le hS.1 q h) (MA.le hS.1) (fun r32 x t H locs ht hvm hw hB9 _ _ hS => ?_)
      have hP := mB.at ht hB9
      clear hB9 ht hvm
      obtain ⟨st33, sl34⟩ := x
      obtain ⟨hG2, hF2, hw⟩ := hw
      dsimp only at hG2 hF2 hw
      have hP : va_P (dC, dI) vwCl (mw ar cy st33 sl34) _ := hP
      have hG : MG [1, 2, 3, 6, 7, 13, 14, 15, 20, 21, 22] st st33 := hG.tr hG2 (by decide)
      have hFst33 : FM 2 st2 sl3 st33 sl34 := hF2
      have hF : FM 6 st sl st33 sl34 := hF.tr hFst33 (by omega) (by omega)
      clear hG2 hF2
      have hR : RN c nm st33 sl34 := hR.fr hFst33
      obtain ⟨rfl, hf35, hf36, hT⟩ := hw
      have hp9 := hT.2.2.2.2.2.2
      have hk1 := tkd_lt (B := B) (g := g) (m := m) (p := n4)
      have hk2 := tkx_le (B := B) (g := g) (m := m) (p := n4) hp9
      have hk3 := tka_le (B := B) (g := g) (m := m) (p := n4) hp9 hB.2.2.1
      have hk4 := tkv_lt (p := n4) hB hp9
      have hk5 := tkw_lt (B := B) (g := g) (m := m) (p := n4)
      exact W.zret (v := 0) hx hb hr rfl (fun t ht hW => ⟨⟨0, (st33, sl34), rfl, ⟨hG, hF, Or.inr (⟨1, (tka B g m n4), rfl, by show st33 0 10 = _; rw [hf35, bdk_1], by show st33 0 11 = _; rw [hf36], by omega, sB_n hf17 hf28, by show st33 0 45 = _; rw [(hFst33 0 45 (by decide)).1, hf10]⟩)⟩, mB.of ht hP⟩, hS.F ht⟩) hS.2.2 dX12_readBracket_23
  · refine lv_if_ne (tgt := 9) hx hb dX12_readBracket_4 (by decide) (fun cc => absurd (by decide) cc) (fun _ => ?_)
    refine lv_iconst (v := 0) hx hb dX12_readBracket_7 (by decide) ?_
    exact W.zret (v := 0) hx hb hr rfl (fun t ht hW => ⟨⟨0, (st2, sl3), rfl, ⟨hG, hF, Or.inr (⟨n18, n19, rfl, by show st2 0 10 = _; rw [hf20], by show st2 0 11 = _; rw [hf21], hf22, sB_f hf23 hf22, by show st2 0 45 = _; rw [hf24]⟩)⟩, mB.of ht hP⟩, hS.F ht⟩) hS.2.2 dX12_readBracket_8
set_option maxHeartbeats 4000000 in
set_option maxRecDepth 100000 in
theorem f_readNot_7 (l : Launch) (dC : Nat → ClassId) (dI : Nat → Nat → Nat) (ar : Nat → Nat) (cy : Nat → ClassId) (sz : Nat) (hN : MN ar) (st : Nat → Nat → Int32) (sl : Nat → Nat → Int64) (B : Nat → Nat) (g m : Nat) (p : Nat) (c : Nat → Nat) (nm : Nat → Nat → Nat) (gn : Nat) (go : Nat) (hI : MI st) (hB : MBt B g m st) (hT : TM B g m p st sl) (hR : RN c nm st sl) (h43 : st 0 43 = nI gn) (h44 : st 0 44 = nI go) (h45 : st 0 45 = 7) (hgn : gn ≤ 2 * go) (hgo : go ≤ 20) : Met l yX12_readNot wsX12_readNot ({ frames := 8, cells := 0, slots := 0, locals := 177 }) (va_Pc [.ref (ar 0)] (mPre dC dI ar cy sz st sl)) (va_Qi (fun (r : Int32) (x : MT) => MG [1, 2, 3, 6, 7, 13, 14, 15, 20, 21, 22] st x.1 ∧ FM 6 st sl x.1 x.2 ∧ ((∃ q : Nat, ∃ n1 : Nat, ∃ o1 : Nat, ∃ t1 : Nat, r = 1 ∧ TM B g m q x.1 x.2 ∧ x.1 0 43 = nI n1 ∧ x.1 0 44 = nI o1 ∧ x.1 0 45 = 7 ∧ x.1 0 46 = nI t1 ∧ t1 < n1 ∧ n1 + 2 * go ≤ gn + 2 * o1 ∧ go + 1 ≤ o1 ∧ o1 ≤ 20 ∧ gn ≤ n1 ∧ sOne B g m c nm 1 p go = (0, q, o1)) ∨ (∃ f : Nat, ∃ a : Nat, r = 0 ∧ x.1 0 10 = nI f ∧ x.1 0 11 = nI a ∧ 1 ≤ f ∧ sOne B g m c nm 1 p go = sf f a ∧ x.1 0 45 = 7))) (mB dC dI ar cy) (MA ar sz)) 0 0 (MA ar sz) := by
  refine Met.ofW (cc := cX12_readNot) (maxL := 1) (ret := (some .boolean)) (by decide) rfl ?_
  intro p9 e s m9 args below meth c9 s₁ B9 hml hv
  obtain ⟨rfl, hsz, hP, hK⟩ := hv
  have hx := B9.exec
  have hb := B9.bytes
  have hr := B9.returns
  have hts := atoms_spec (ws := wsX12_readNot) B9.pre
  have hown : s.vm.findClass RX12 = some m9.cls := findClass_of_methodNamed B9.named
  subst hsz
  have hS : va_S (MA ar s.heap.size) s.heap s.heap [] := va_S.rf
  have hG : MG [1, 2, 3, 6, 7, 13, 14, 15, 20, 21, 22] st st := MG.rf hI
  have hl := lv_entry ([.ref (ar 0)]) (n := 1) (Nat.le_of_ble_eq_true rfl)
  rw [lg_entry_eq]
  generalize (lg_sl ([.ref (ar 0)]) ++ List.replicate (1 - (lg_sl ([.ref (ar 0)])).length) Slot.unset).toArray = ls at hl ⊢
  have hl : lv_has ls 1 [(0, .ref (ar 0))] := hl
  clear hI
  have hB1 := hB.2.2.1
  have hB2 := hB.2.2.2.1
  have hF : FM 6 st sl st sl := FM.rf
  have hp9 := hT.2.2.2.2.2.2
  have hk1 := tkd_lt (B := B) (g := g) (m := m) (p := p)
  have hk2 := tkx_le (B := B) (g := g) (m := m) (p := p) hp9
  have hk3 := tka_le (B := B) (g := g) (m := m) (p := p) hp9 hB.2.2.1
  have hk4 := tkv_lt (p := p) hB hp9
  have hk5 := tkw_lt (B := B) (g := g) (m := m) (p := p)
  have hR9 := hR.2.1
  refine lv_aload_n hx hb dX12_readNot_0 rfl (lv_at hl 0 rfl) ?_
  refine va_calli (va_runV (As := []) (rest := []) ⟨hx, hb, hml, hown, hts⟩ (f_readSaid_7 l dC dI ar cy _ hN st sl B g m p c nm gn go hG.1 (MBt.fr hB hF) hT hR (by rw [h43]) (by rw [h44]) (by rw [h45]) (by omega) (by omega)) (cwV 0 hts gX12_readNot_X12_readSaid rfl rfl rfl (by decide +kernel) ⟨Nat.le_of_ble_eq_true rfl, Nat.le_of_ble_eq_true rfl⟩) ⟨fun a U g mk q => ⟨q.1, mPre.blind q.2⟩, va_recv hK hP (ci := 11) (q0 := 0) rfl rfl, fun U hU hW => ⟨rfl, mPre.of hP hK hU hW⟩⟩ rfl rfl hl.1 rfl (lv_room (Nat.le_of_ble_eq_true rfl)) dX12_readNot_1 ⟨Nat.le_of_ble_eq_true rfl, Nat.le_of_ble_eq_true rfl⟩) hS (fun q _ h => MA.le hS.1 q h) (MA.le hS.1) (fun r1 x t H locs ht hvm hw hB9 _ _ hS => ?_)
  have hP := mB.at ht hB9
  clear hB9 ht hvm
  obtain ⟨st2, sl3⟩ := x
  obtain ⟨hG2, hF2, hw⟩ := hw
  dsimp only at hG2 hF2 hw
  have hP : va_P (dC, dI) vwCl (mw ar cy st2 sl3) _ := hP
  have hG : MG [1, 2, 3, 6, 7, 13, 14, 15, 20, 21, 22] st st2 := hG.tr hG2 (by decide)
  have hFst2 : FM 6 st sl st2 sl3 := hF2
  have hF : FM 6 st sl st2 sl3 := hF.tr hFst2 (by omega) (by omega)
  clear hG2 hF2
  have hR : RN c nm st2 sl3 := hR.fr hFst2
  rcases hw with ⟨n4, n5, n6, n7, rfl, hT, hf8, hf9, hf10, hf11, hf12, hf13, hf14, hf15, hf16, hf17⟩ | ⟨n18, n19, rfl, hf20, hf21, hf22, hf23, hf24⟩
  · have hp9 := hT.2.2.2.2.2.2
    have hk1 := tkd_lt (B := B) (g := g) (m := m) (p := n4)
    have hk2 := tkx_le (B := B) (g := g) (m := m) (p := n4) hp9
    have hk3 := tka_le (B := B) (g := g) (m := m) (p := n4) hp9 hB.2.2.1
    have hk4 := tkv_lt (p := n4) hB hp9
    have hk5 := tkw_lt (B := B) (g := g) (m := m) (p := n4)
    refine lv_if_ne (tgt := 9) hx hb dX12_readNot_4 (by decide) (fun _ => ?_) (fun cc => absurd cc (by decide))
    refine lv_aload_n hx hb dX12_readNot_9 rfl (lv_at hl 0 rfl) ?_
    refine lv_aload_n hx hb dX12_readNot_10 rfl (lv_at hl 0 rfl) ?_
    refine lv_iconst (v := 1) hx hb dX12_readNot_11 (by decide) ?_
    refine lv_aload_n hx hb dX12_readNot_12 rfl (lv_at hl 0 rfl) ?_
    refine va_get (D := (dC, dI)) (ci := 11) (v := .int (st2 0 46)) (C := RX12) (T := TX12) (N := 47) hx hb hts ii_X12_readNot hown hK hP 0 rfl rfl 46 (by decide) (hts _ mm_X12_readNot_1) (fun _ hh => hh) rfl dX12_readNot_13 ?_
    refine zz_top (v := (nI n7)) (by show st2 0 46 = _; rw [hf11]) ?_
    refine lv_iconst (v := 0) hx hb dX12_readNot_16 (by decide) ?_
    refine lv_iconst (v := 0) hx hb dX12_readNot_17 (by decide) ?_
    refine va_calli (va_runV (As := [.int 1, .int (nI n7), .int 0, .int 0]) (rest := [.ref (ar 0)]) ⟨hx, hb, hml, hown, hts⟩ (f_saysOne l dC dI ar cy _ hN st2 sl3 1 (nI n7) 0 0 B g m n4 n5 hG.1 (MBt.fr hB hF) hT (by rw [hf8]) (by omega)) (cwV 4 hts gX12_readNot_X12_saysOne rfl rfl rfl (by decide +kernel) ⟨Nat.le_of_ble_eq_true rfl, Nat.le_of_ble_eq_true rfl⟩) ⟨fun a U g mk q => ⟨q.1, mPre.blind q.2⟩, va_recv hK hP (ci := 11) (q0 := 0) rfl rfl, fun U hU hW => ⟨rfl, mPre.of hP hK hU hW⟩⟩ rfl rfl hl.1 rfl (lv_room (Nat.le_of_ble_eq_true rfl)) dX12_readNot_18 ⟨Nat.le_of_ble_eq_true rfl, Nat.le_of_ble_eq_true rfl⟩) hS (fun q _ h => MA.le hS.1 q h) (MA.le hS.1) (fun r25 x t H locs ht hvm hw hB9 _ _ hS => ?_)
    have hP := mB.at ht hB9
    clear hB9 ht hvm
    obtain ⟨st26, sl27⟩ := x
    obtain ⟨hG2, hF2, hw⟩ := hw
    dsimp only at hG2 hF2 hw
    have hP : va_P (dC, dI) vwCl (mw ar cy st26 sl27) _ := hP
    have hG : MG [1, 2, 3, 6, 7, 13, 14, 15, 20, 21, 22] st st26 := hG.tr hG2 (by decide)
    have hFst26 : FM 5 st2 sl3 st26 sl27 := hF2
    have hF : FM 6 st sl st26 sl27 := hF.tr hFst26 (by omega) (by omega)
    clear hG2 hF2
    have hR : RN c nm st26 sl27 := hR.fr hFst26
    obtain ⟨n28, rfl, hf29, hf30, hT⟩ := hw
    have hp9 := hT.2.2.2.2.2.2
    have hk1 := tkd_lt (B := B) (g := g) (m := m) (p := n4)
    have hk2 := tkx_le (B := B) (g := g) (m := m) (p := n4) hp9
    have hk3 := tka_le (B := B) (g := g) (m := m) (p := n4) hp9 hB.2.2.1
    have hk4 := tkv_lt (p := n4) hB hp9
    have hk5 := tkw_lt (B := B) (g := g) (m := m) (p := n4)
    refine va_put (D := (dC, dI)) (ci := 11) (v := .int (nI n28)) (ty := .int) (C := RX12) (T := TX12) (N := 47) hx hb hts ii_X12_readNot tyX12 tyX12_ok nmX12 hown hK hP (mD hN _ _ _ _) hS 0 rfl rfl 46 (by decide) (hts _ mm_X12_readNot_1) (fun _ hh => hh) rfl (by decide +kernel) rfl rfl (Nat.le_of_ble_eq_true rfl) dX12_readNot_21 (fun H locs hP _ hS => ?_)
    have hP : va_P (dC, dI) vwCl (mw ar cy (up2 st26 0 46 (nI n28)) sl27) H := hP
    obtain ⟨st31, est31⟩ : ∃ y, y = up2 st26 0 46 (nI n28) := ⟨_, rfl⟩
    have hG : MG [1, 2, 3, 6, 7, 13, 14, 15, 20, 21, 22] st st31 := by rw [est31]; exact hG.up (rn (n := n28) (by decide : mr 0 46 = 60) (by omega)) (pn (by decide : pcl 0 46 = 12) (by decide))
    rw [← est31] at hP
    have hF : FM 6 st sl st31 sl27 := by rw [est31]; exact hF.up (by decide)
    have hT : TM B g m n4 st31 sl27 := by rw [est31]; exact hT.up (by omega)
    have hR : RN c nm st31 sl27 := by rw [est31]; exact hR.up (by omega)
    refine lv_iconst (v := 1) hx hb dX12_readNot_24 (by decide) ?_
    exact W.zret (v := 1) hx hb hr rfl (fun t ht hW => ⟨⟨1, (st31, sl27), rfl, ⟨hG, hF, Or.inl (⟨n4, (n5 + 1), n6, n28, rfl, hT, by show st31 0 43 = _; rw [est31, up2_ne (r := 0) (k := 46) (a := 0) (j := 43) _ _ (by omega), hf30], by show st31 0 44 = _; rw [est31, up2_ne (r := 0) (k := 46) (a := 0) (j := 44) _ _ (by omega), (hFst26 0 44 (by decide)).1, hf9], by show st31 0 45 = _; rw [est31, up2_ne (r := 0) (k := 46) (a := 0) (j := 45) _ _ (by omega), (hFst26 0 45 (by decide)).1, hf10], by show st31 0 46 = _; rw [est31, up2_same], by omega, by omega, by omega, by omega, by omega, hf17⟩)⟩, mB.of ht hP⟩, hS.F ht⟩) hS.2.2 dX12_readNot_25
  · refine lv_if_ne (tgt := 9) hx hb dX12_readNot_4 (by decide) (fun cc => absurd (by decide) cc) (fun _ => ?_)
    refine lv_iconst (v := 0) hx hb dX12_readNot_7 (by decide) ?_
    exact W.zret (v := 0) hx hb hr rfl (fun t ht hW => ⟨⟨0, (st2, sl3), rfl, ⟨hG, hF, Or.inr (⟨n18, n19, rfl, by show st2 0 10 = _; rw [hf20], by show st2 0 11 = _; rw [hf21], hf22, hf23, by show st2 0 45 = _; rw [hf24]⟩)⟩, mB.of ht hP⟩, hS.F ht⟩) hS.2.2 dX12_readNot_8
