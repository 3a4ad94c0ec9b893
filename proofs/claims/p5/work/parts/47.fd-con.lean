set_option maxHeartbeats 4000000 in
set_option maxRecDepth 100000 in
theorem f_readBookLine (l : Launch) (dC : Nat → ClassId) (dI : Nat → Nat → Nat) (ar : Nat → Nat) (cy : Nat → ClassId) (sz : Nat) (hN : MN ar) (st : Nat → Nat → Int32) (sl : Nat → Nat → Int64) (B : Nat → Nat) (g m : Nat) (p : Nat) (c : Nat → Nat) (nm : Nat → Nat → Nat) (gl : Nat) (hI : MI st) (hB : MBt B g m st) (hT : TM B g m p st sl) (hR : RN c nm st sl) (h40 : st 0 40 = nI gl) (hgl : gl ≤ 40) : Met l yX12_readBookLine wsX12_readBookLine ({ frames := 6, cells := 0, slots := 0, locals := 134 }) (va_Pc [.ref (ar 0)] (mPre dC dI ar cy sz st sl)) (va_Qi (fun (r : Int32) (x : MT) => MG [1, 2, 3, 6, 7, 8, 9, 10, 11, 12, 14, 15, 20, 21, 22] st x.1 ∧ FM 7 st sl x.1 x.2 ∧ ((∃ q : Nat, r = 1 ∧ TM B g m q x.1 x.2 ∧ bLn B g m c nm p gl = (0, q, 0) ∧ x.1 0 10 = st 0 10) ∨ (∃ f : Nat, ∃ a : Nat, r = 0 ∧ x.1 0 10 = nI f ∧ x.1 0 11 = nI a ∧ 1 ≤ f ∧ bLn B g m c nm p gl = sf f a))) (mB dC dI ar cy) (MA ar sz)) 0 0 (MA ar sz) := by
  refine Met.ofW (cc := cX12_readBookLine) (maxL := 5) (ret := (some .boolean)) (by decide) rfl ?_
  intro p9 e s m9 args below meth c9 s₁ B9 hml hv
  obtain ⟨rfl, hsz, hP, hK⟩ := hv
  have hx := B9.exec
  have hb := B9.bytes
  have hr := B9.returns
  have hts := atoms_spec (ws := wsX12_readBookLine) B9.pre
  have hown : s.vm.findClass RX12 = some m9.cls := findClass_of_methodNamed B9.named
  subst hsz
  have hS : va_S (MA ar s.heap.size) s.heap s.heap [] := va_S.rf
  have hG : MG [1, 2, 3, 6, 7, 8, 9, 10, 11, 12, 14, 15, 20, 21, 22] st st := MG.rf hI
  have hl := lv_entry ([.ref (ar 0)]) (n := 5) (Nat.le_of_ble_eq_true rfl)
  rw [lg_entry_eq]
  generalize (lg_sl ([.ref (ar 0)]) ++ List.replicate (5 - (lg_sl ([.ref (ar 0)])).length) Slot.unset).toArray = ls at hl ⊢
  have hl : lv_has ls 5 [(0, .ref (ar 0))] := hl
  clear hI
  have hB1 := hB.2.2.1
  have hB2 := hB.2.2.2.1
  have hF : FM 7 st sl st sl := FM.rf
  have hp9 := hT.2.2.2.2.2.2
  have hk1 := tkd_lt (B := B) (g := g) (m := m) (p := p)
  have hk2 := tkx_le (B := B) (g := g) (m := m) (p := p) hp9
  have hk3 := tka_le (B := B) (g := g) (m := m) (p := p) hp9 hB.2.2.1
  have hk4 := tkv_lt (p := p) hB hp9
  have hk5 := tkw_lt (B := B) (g := g) (m := m) (p := p)
  have hR9 := hR.2.1
  have hT0 := hT
  have hR0 := hR
  have hw25 := @tkw_d B g m p
  refine lv_aload_n hx hb dX12_readBookLine_0 rfl (lv_at hl 0 rfl) ?_
  refine va_calli (va_runV (As := []) (rest := []) ⟨hx, hb, hml, hown, hts⟩ (f_isOfAll l dC dI ar cy _ hN st sl B g m p hG.1 (MBt.fr hB hF) hT) (cwV 0 hts gX12_readBookLine_X12_isOfAll rfl rfl rfl (by decide +kernel) ⟨Nat.le_of_ble_eq_true rfl, Nat.le_of_ble_eq_true rfl⟩) ⟨fun a U g mk q => ⟨q.1, mPre.blind q.2⟩, va_recv hK hP (ci := 11) (q0 := 0) rfl rfl, fun U hU hW => ⟨rfl, mPre.of hP hK hU hW⟩⟩ rfl rfl hl.1 rfl (lv_room (Nat.le_of_ble_eq_true rfl)) dX12_readBookLine_1 ⟨Nat.le_of_ble_eq_true rfl, Nat.le_of_ble_eq_true rfl⟩) hS (fun q _ h => MA.le hS.1 q h) (MA.le hS.1) (fun r1 x t H locs ht hvm hw hB9 _ _ hS => ?_)
  have hP := mB.at ht hB9
  clear hB9 ht hvm
  obtain ⟨rfl, hw⟩ := hw
  have hP : va_P (dC, dI) vwCl (mw ar cy st sl) _ := hP
  rcases hw with ⟨rfl, hf2⟩ | ⟨rfl, hf3⟩
  · refine lv_istore_n (lv' := [(1, .int 1), (0, .ref (ar 0))]) hx hb dX12_readBookLine_4 rfl hl (by decide) rfl (fun ls hl => ?_)
    refine lv_iconst (v := (-1)) hx hb dX12_readBookLine_5 (by decide) ?_
    refine lv_istore_n (lv' := [(2, .int (-1)), (1, .int 1), (0, .ref (ar 0))]) hx hb dX12_readBookLine_6 rfl hl (by decide) rfl (fun ls hl => ?_)
    refine lv_iconst (v := (-1)) hx hb dX12_readBookLine_7 (by decide) ?_
    refine lv_istore_n (lv' := [(3, .int (-1)), (2, .int (-1)), (1, .int 1), (0, .ref (ar 0))]) hx hb dX12_readBookLine_8 rfl hl (by decide) rfl (fun ls hl => ?_)
    refine lv_iload_n hx hb dX12_readBookLine_9 rfl (lv_at hl 2 rfl) ?_
    refine lv_if_ne (tgt := 81) hx hb dX12_readBookLine_10 (by decide) (fun _ => ?_) (fun cc => absurd cc (by decide))
    refine lv_aload_n hx hb dX12_readBookLine_81 rfl (lv_at hl 3 rfl) ?_
    refine va_get (D := (dC, dI)) (ci := 11) (v := .int (st 0 40)) (C := RX12) (T := TX12) (N := 47) hx hb hts ii_X12_readBookLine hown hK hP 0 rfl rfl 40 (by decide) (hts _ mm_X12_readBookLine_4) (fun _ hh => hh) rfl dX12_readBookLine_82 ?_
    refine zz_top (v := (nI gl)) (by show st 0 40 = _; rw [h40]) ?_
    refine lv_bipush (v := 40) hx hb dX12_readBookLine_85 (by decide) ?_
    refine lv_icmp_ne (tgt := 96) hx hb dX12_readBookLine_87 (by decide) (fun c2 => ?_) (fun c2 => ?_)
    · have c2 : ¬ gl = 40 := fun hh => c2 ((nI_eq (a := gl) (b := 40) (by omega) (by omega)).mpr hh)
      refine lv_iconst (v := 5) hx hb dX12_readBookLine_96 (by decide) ?_
      refine lv_aload_n hx hb dX12_readBookLine_97 rfl (lv_at hl 3 rfl) ?_
      refine va_get (D := (dC, dI)) (ci := 11) (v := .int (st 0 40)) (C := RX12) (T := TX12) (N := 47) hx hb hts ii_X12_readBookLine hown hK hP 0 rfl rfl 40 (by decide) (hts _ mm_X12_readBookLine_4) (fun _ hh => hh) rfl dX12_readBookLine_98 ?_
      refine zz_top (v := (nI gl)) (by show st 0 40 = _; rw [h40]) ?_
      refine lv_imul hx hb dX12_readBookLine_101 ?_
      refine zz_top (v := nI (5 * gl)) (nI_mul 5 gl) ?_
      refine lv_istore (lv' := [(4, .int (nI (5 * gl))), (3, .int (-1)), (2, .int (-1)), (1, .int 1), (0, .ref (ar 0))]) hx hb dX12_readBookLine_102 hl (by decide) rfl (fun ls hl => ?_)
      refine lv_iload_n hx hb dX12_readBookLine_104 rfl (lv_at hl 3 rfl) ?_
      refine lv_if_eq (tgt := 130) hx hb dX12_readBookLine_105 (by decide) (fun cc => absurd cc (by decide)) (fun _ => ?_)
      refine lv_aload_n hx hb dX12_readBookLine_108 rfl (lv_at hl 4 rfl) ?_
      refine lv_iload hx hb dX12_readBookLine_109 (lv_at hl 0 rfl) ?_
      refine va_calli (va_runV (As := [.int (nI (5 * gl))]) (rest := []) ⟨hx, hb, hml, hown, hts⟩ (f_readOfAll l dC dI ar cy _ hN st sl (5 * gl) B g m p c nm (by omega) hG.1 (MBt.fr hB hF) hT hR (hf2)) (cwV 1 hts gX12_readBookLine_X12_readOfAll rfl rfl rfl (by decide +kernel) ⟨Nat.le_of_ble_eq_true rfl, Nat.le_of_ble_eq_true rfl⟩) ⟨fun a U g mk q => ⟨q.1, mPre.blind q.2⟩, va_recv hK hP (ci := 11) (q0 := 0) rfl rfl, fun U hU hW => ⟨rfl, mPre.of hP hK hU hW⟩⟩ rfl rfl hl.1 rfl (lv_room (Nat.le_of_ble_eq_true rfl)) dX12_readBookLine_111 ⟨Nat.le_of_ble_eq_true rfl, Nat.le_of_ble_eq_true rfl⟩) hS (fun q _ h => MA.le hS.1 q h) (MA.le hS.1) (fun r4 x t H locs ht hvm hw hB9 _ _ hS => ?_)
      have hP := mB.at ht hB9
      clear hB9 ht hvm
      obtain ⟨st5, sl6⟩ := x
      obtain ⟨hG2, hF2, hw⟩ := hw
      dsimp only at hG2 hF2 hw
      have hP : va_P (dC, dI) vwCl (mw ar cy st5 sl6) _ := hP
      have hG : MG [1, 2, 3, 6, 7, 8, 9, 10, 11, 12, 14, 15, 20, 21, 22] st st5 := hG.tr hG2 (by decide)
      have hFst5 : FM 7 st sl st5 sl6 := hF2
      have hF : FM 7 st sl st5 sl6 := hF.tr hFst5 (by omega) (by omega)
      clear hG2 hF2
      have hR : RN c nm st5 sl6 := hR.fr hFst5
      rcases hw with ⟨n7, rfl, hT, hf8, hk9⟩ | ⟨n10, n11, rfl, hf12, hf13, hf14, hf15⟩
      · have hp9 := hT.2.2.2.2.2.2
        have hk1 := tkd_lt (B := B) (g := g) (m := m) (p := n7)
        have hk2 := tkx_le (B := B) (g := g) (m := m) (p := n7) hp9
        have hk3 := tka_le (B := B) (g := g) (m := m) (p := n7) hp9 hB.2.2.1
        have hk4 := tkv_lt (p := n7) hB hp9
        have hk5 := tkw_lt (B := B) (g := g) (m := m) (p := n7)
        refine lv_if_eq (tgt := 128) hx hb dX12_readBookLine_114 (by decide) (fun cc => absurd cc (by decide)) (fun _ => ?_)
        refine lv_aload_n hx hb dX12_readBookLine_117 rfl (lv_at hl 4 rfl) ?_
        refine va_calli (va_runV (As := []) (rest := []) ⟨hx, hb, hml, hown, hts⟩ (f_readEnd l dC dI ar cy _ hN st5 sl6 B g m n7 hG.1 (MBt.fr hB hF) hT) (cwV 0 hts gX12_readBookLine_X12_readEnd rfl rfl rfl (by decide +kernel) ⟨Nat.le_of_ble_eq_true rfl, Nat.le_of_ble_eq_true rfl⟩) ⟨fun a U g mk q => ⟨q.1, mPre.blind q.2⟩, va_recv hK hP (ci := 11) (q0 := 0) rfl rfl, fun U hU hW => ⟨rfl, mPre.of hP hK hU hW⟩⟩ rfl rfl hl.1 rfl (lv_room (Nat.le_of_ble_eq_true rfl)) dX12_readBookLine_118 ⟨Nat.le_of_ble_eq_true rfl, Nat.le_of_ble_eq_true rfl⟩) hS (fun q _ h => MA.le hS.1 q h) (MA.le hS.1) (fun r16 x t H locs ht hvm hw hB9 _ _ hS => ?_)
        have hP := mB.at ht hB9
        clear hB9 ht hvm
        obtain ⟨st17, sl18⟩ := x
        obtain ⟨hG2, hF2, hw⟩ := hw
        dsimp only at hG2 hF2 hw
        have hP : va_P (dC, dI) vwCl (mw ar cy st17 sl18) _ := hP
        have hG : MG [1, 2, 3, 6, 7, 8, 9, 10, 11, 12, 14, 15, 20, 21, 22] st st17 := hG.tr hG2 (by decide)
        have hFst17 : FM 2 st5 sl6 st17 sl18 := hF2
        have hF : FM 7 st sl st17 sl18 := hF.tr hFst17 (by omega) (by omega)
        clear hG2 hF2
        have hR : RN c nm st17 sl18 := hR.fr hFst17
        rcases hw with ⟨rfl, hT, hf19, hk20⟩ | ⟨n21, n22, rfl, hf23, hf24, hf25, hf26⟩
        · have hp9 := hT.2.2.2.2.2.2
          have hk1 := tkd_lt (B := B) (g := g) (m := m) (p := (tkx B g m n7))
          have hk2 := tkx_le (B := B) (g := g) (m := m) (p := (tkx B g m n7)) hp9
          have hk3 := tka_le (B := B) (g := g) (m := m) (p := (tkx B g m n7)) hp9 hB.2.2.1
          have hk4 := tkv_lt (p := (tkx B g m n7)) hB hp9
          have hk5 := tkw_lt (B := B) (g := g) (m := m) (p := (tkx B g m n7))
          refine lv_if_eq (tgt := 128) hx hb dX12_readBookLine_121 (by decide) (fun cc => absurd cc (by decide)) (fun _ => ?_)
          refine lv_iconst (v := 1) hx hb dX12_readBookLine_124 (by decide) ?_
          refine lv_goto (tgt := 129) hx hb dX12_readBookLine_125 (by decide) ?_
          exact W.zret (v := 1) hx hb hr rfl (fun t ht hW => ⟨⟨1, (st17, sl18), rfl, ⟨hG, hF, Or.inl (⟨(tkx B g m n7), rfl, hT, (bLn_a hf2 (by omega)).trans (en_y hf8 hf19), by show st17 0 10 = st 0 10; rw [hk20, hk9]⟩)⟩, mB.of ht hP⟩, hS.F ht⟩) hS.2.2 dX12_readBookLine_129
        · refine lv_if_eq (tgt := 128) hx hb dX12_readBookLine_121 (by decide) (fun _ => ?_) (fun cc => absurd (by decide) cc)
          refine lv_iconst (v := 0) hx hb dX12_readBookLine_128 (by decide) ?_
          exact W.zret (v := 0) hx hb hr rfl (fun t ht hW => ⟨⟨0, (st17, sl18), rfl, ⟨hG, hF, Or.inr (⟨n21, n22, rfl, by show st17 0 10 = _; rw [hf23], by show st17 0 11 = _; rw [hf24], hf25, (bLn_a hf2 (by omega)).trans (en_f hf8 hf26 hf25)⟩)⟩, mB.of ht hP⟩, hS.F ht⟩) hS.2.2 dX12_readBookLine_129
      · refine lv_if_eq (tgt := 128) hx hb dX12_readBookLine_114 (by decide) (fun _ => ?_) (fun cc => absurd (by decide) cc)
        refine lv_iconst (v := 0) hx hb dX12_readBookLine_128 (by decide) ?_
        exact W.zret (v := 0) hx hb hr rfl (fun t ht hW => ⟨⟨0, (st5, sl6), rfl, ⟨hG, hF, Or.inr (⟨n10, n11, rfl, by show st5 0 10 = _; rw [hf12], by show st5 0 11 = _; rw [hf13], hf14, (bLn_a hf2 (by omega)).trans (bEn_f hf15 hf14)⟩)⟩, mB.of ht hP⟩, hS.F ht⟩) hS.2.2 dX12_readBookLine_129
    · have c2 : gl = 40 := (nI_eq (a := gl) (b := 40) (by omega) (by omega)).mp c2
      refine lv_aload_n hx hb dX12_readBookLine_90 rfl (lv_at hl 3 rfl) ?_
      refine lv_iconst (v := 4) hx hb dX12_readBookLine_91 (by decide) ?_
      refine va_calli (va_runV (As := [.int 4]) (rest := []) ⟨hx, hb, hml, hown, hts⟩ (f_bad l dC dI ar cy _ hN st sl 4 B g m p (by omega) hG.1 (MBt.fr hB hF) hT) (cwV 1 hts gX12_readBookLine_X12_bad rfl rfl rfl (by decide +kernel) ⟨Nat.le_of_ble_eq_true rfl, Nat.le_of_ble_eq_true rfl⟩) ⟨fun a U g mk q => ⟨q.1, mPre.blind q.2⟩, va_recv hK hP (ci := 11) (q0 := 0) rfl rfl, fun U hU hW => ⟨rfl, mPre.of hP hK hU hW⟩⟩ rfl rfl hl.1 rfl (lv_room (Nat.le_of_ble_eq_true rfl)) dX12_readBookLine_92 ⟨Nat.le_of_ble_eq_true rfl, Nat.le_of_ble_eq_true rfl⟩) hS (fun q _ h => MA.le hS.1 q h) (MA.le hS.1) (fun r27 x t H locs ht hvm hw hB9 _ _ hS => ?_)
      have hP := mB.at ht hB9
      clear hB9 ht hvm
      obtain ⟨st28, sl29⟩ := x
      obtain ⟨hG2, hF2, hw⟩ := hw
      dsimp only at hG2 hF2 hw
      have hP : va_P (dC, dI) vwCl (mw ar cy st28 sl29) _ := hP
      have hG : MG [1, 2, 3, 6, 7, 8, 9, 10, 11, 12, 14, 15, 20, 21, 22] st st28 := hG.tr hG2 (by decide)
      have hFst28 : FM 2 st sl st28 sl29 := hF2
      have hF : FM 7 st sl st28 sl29 := hF.tr hFst28 (by omega) (by omega)
      clear hG2 hF2
      have hR : RN c nm st28 sl29 := hR.fr hFst28
      obtain ⟨rfl, hf30, hf31, hT⟩ := hw
      have hp9 := hT.2.2.2.2.2.2
      have hk1 := tkd_lt (B := B) (g := g) (m := m) (p := p)
      have hk2 := tkx_le (B := B) (g := g) (m := m) (p := p) hp9
      have hk3 := tka_le (B := B) (g := g) (m := m) (p := p) hp9 hB.2.2.1
      have hk4 := tkv_lt (p := p) hB hp9
      have hk5 := tkw_lt (B := B) (g := g) (m := m) (p := p)
      exact W.zret (v := 0) hx hb hr rfl (fun t ht hW => ⟨⟨0, (st28, sl29), rfl, ⟨hG, hF, Or.inr (⟨4, (tka B g m p), rfl, by show st28 0 10 = _; rw [hf30, bdk_n (by have h9 := @tkw_d B g m p; omega)], by show st28 0 11 = _; rw [hf31], by omega, bLn_a4 hf2 (by omega)⟩)⟩, mB.of ht hP⟩, hS.F ht⟩) hS.2.2 dX12_readBookLine_95
  · refine lv_istore_n (lv' := [(1, .int 0), (0, .ref (ar 0))]) hx hb dX12_readBookLine_4 rfl hl (by decide) rfl (fun ls hl => ?_)
    refine lv_iconst (v := (-1)) hx hb dX12_readBookLine_5 (by decide) ?_
    refine lv_istore_n (lv' := [(2, .int (-1)), (1, .int 0), (0, .ref (ar 0))]) hx hb dX12_readBookLine_6 rfl hl (by decide) rfl (fun ls hl => ?_)
    refine lv_iconst (v := (-1)) hx hb dX12_readBookLine_7 (by decide) ?_
    refine lv_istore_n (lv' := [(3, .int (-1)), (2, .int (-1)), (1, .int 0), (0, .ref (ar 0))]) hx hb dX12_readBookLine_8 rfl hl (by decide) rfl (fun ls hl => ?_)
    refine lv_iload_n hx hb dX12_readBookLine_9 rfl (lv_at hl 2 rfl) ?_
    refine lv_if_ne (tgt := 81) hx hb dX12_readBookLine_10 (by decide) (fun cc => absurd (by decide) cc) (fun _ => ?_)
    refine lv_aload_n hx hb dX12_readBookLine_13 rfl (lv_at hl 3 rfl) ?_
    refine va_calli (va_runV (As := []) (rest := []) ⟨hx, hb, hml, hown, hts⟩ (f_isName l dC dI ar cy _ hN st sl B g m p hG.1 (MBt.fr hB hF) hT) (cwV 0 hts gX12_readBookLine_X12_isName rfl rfl rfl (by decide +kernel) ⟨Nat.le_of_ble_eq_true rfl, Nat.le_of_ble_eq_true rfl⟩) ⟨fun a U g mk q => ⟨q.1, mPre.blind q.2⟩, va_recv hK hP (ci := 11) (q0 := 0) rfl rfl, fun U hU hW => ⟨rfl, mPre.of hP hK hU hW⟩⟩ rfl rfl hl.1 rfl (lv_room (Nat.le_of_ble_eq_true rfl)) dX12_readBookLine_14 ⟨Nat.le_of_ble_eq_true rfl, Nat.le_of_ble_eq_true rfl⟩) hS (fun q _ h => MA.le hS.1 q h) (MA.le hS.1) (fun r32 x t H locs ht hvm hw hB9 _ _ hS => ?_)
    have hP := mB.at ht hB9
    clear hB9 ht hvm
    obtain ⟨rfl, hw⟩ := hw
    have hP : va_P (dC, dI) vwCl (mw ar cy st sl) _ := hP
    rcases hw with ⟨rfl, hf33⟩ | ⟨rfl, hf34⟩
    · refine lv_if_ne (tgt := 26) hx hb dX12_readBookLine_17 (by decide) (fun _ => ?_) (fun cc => absurd cc (by decide))
      refine lv_aload_n hx hb dX12_readBookLine_26 rfl (lv_at hl 3 rfl) ?_
      refine va_get (D := (dC, dI)) (ci := 11) (v := .ref (ar 7)) (C := RX12) (T := TX12) (N := 47) hx hb hts ii_X12_readBookLine hown hK hP 0 rfl rfl 19 (by decide) (hts _ mm_X12_readBookLine_1) (fun _ hh => hh) rfl dX12_readBookLine_27 ?_
      refine lv_bipush (v := 13) hx hb dX12_readBookLine_30 (by decide) ?_
      refine lv_aload_n hx hb dX12_readBookLine_32 rfl (lv_at hl 3 rfl) ?_
      refine va_get (D := (dC, dI)) (ci := 11) (v := .ref (ar 2)) (C := RX12) (T := TX12) (N := 47) hx hb hts ii_X12_readBookLine hown hK hP 0 rfl rfl 14 (by decide) (hts _ mm_X12_readBookLine_2) (fun _ hh => hh) rfl dX12_readBookLine_33 ?_
      refine lv_iconst (v := 2) hx hb dX12_readBookLine_36 (by decide) ?_
      refine va_iald hx hb hK hP 2 1 rfl rfl (i := 2) (zz_in (by decide)) dX12_readBookLine_37 ?_
      refine zz_top (v := (nI (c 2))) (by show st 2 2 = _; rw [hR.1 2 (by decide)]) ?_
      refine lv_aload_n hx hb dX12_readBookLine_38 rfl (lv_at hl 3 rfl) ?_
      refine va_get (D := (dC, dI)) (ci := 11) (v := .long (sl 0 12)) (C := RX12) (T := TX12) (N := 47) hx hb hts ii_X12_readBookLine hown hK hP 0 rfl rfl 12 (by decide) (hts _ mm_X12_readBookLine_3) (fun _ hh => hh) rfl dX12_readBookLine_39 ?_
      refine va_calli (va_runS (As := [.ref (ar 7), .int 13, .int (nI (c 2)), .long (sl 0 12)]) (rest := []) ⟨hx, hb, hml, hown, hts⟩ (f_findIm2 l dC dI ar cy _ hN st sl (c 2) (sl 0 12) (by omega) hG.1 ) (va_cwS 4 hts gX12_readBookLine_X12_findIn rfl rfl rfl (by decide +kernel) ⟨Nat.le_of_ble_eq_true rfl, Nat.le_of_ble_eq_true rfl⟩) ⟨fun a U g mk q => ⟨q.1, mPre.blind q.2⟩, fun U hU hW => ⟨rfl, mPre.of hP hK hU hW⟩⟩ rfl rfl hl.1 rfl (lv_room (Nat.le_of_ble_eq_true rfl)) dX12_readBookLine_42 ⟨Nat.le_of_ble_eq_true rfl, Nat.le_of_ble_eq_true rfl⟩) hS (fun q _ h => MA.le hS.1 q h) (MA.le hS.1) (fun r35 x t H locs ht hvm hw hB9 _ _ hS => ?_)
      have hP := mB.at ht hB9
      clear hB9 ht hvm
      obtain ⟨rfl, hw⟩ := hw
      have hP : va_P (dC, dI) vwCl (mw ar cy st sl) _ := hP
      rcases hw with ⟨rfl, hf36⟩ | ⟨n37, rfl, hf38, hf39⟩
      · refine lv_istore_n (lv' := [(2, .int (-1)), (3, .int (-1)), (1, .int 0), (0, .ref (ar 0))]) hx hb dX12_readBookLine_45 rfl hl (by decide) rfl (fun ls hl => ?_)
        refine lv_aload_n hx hb dX12_readBookLine_46 rfl (lv_at hl 3 rfl) ?_
        refine va_get (D := (dC, dI)) (ci := 11) (v := .ref (ar 7)) (C := RX12) (T := TX12) (N := 47) hx hb hts ii_X12_readBookLine hown hK hP 0 rfl rfl 19 (by decide) (hts _ mm_X12_readBookLine_1) (fun _ hh => hh) rfl dX12_readBookLine_47 ?_
        refine lv_iconst (v := 5) hx hb dX12_readBookLine_50 (by decide) ?_
        refine lv_aload_n hx hb dX12_readBookLine_51 rfl (lv_at hl 3 rfl) ?_
        refine va_get (D := (dC, dI)) (ci := 11) (v := .ref (ar 2)) (C := RX12) (T := TX12) (N := 47) hx hb hts ii_X12_readBookLine hown hK hP 0 rfl rfl 14 (by decide) (hts _ mm_X12_readBookLine_2) (fun _ hh => hh) rfl dX12_readBookLine_52 ?_
        refine lv_iconst (v := 1) hx hb dX12_readBookLine_55 (by decide) ?_
        refine va_iald hx hb hK hP 2 1 rfl rfl (i := 1) (zz_in (by decide)) dX12_readBookLine_56 ?_
        refine zz_top (v := (nI (c 1))) (by show st 2 1 = _; rw [hR.1 1 (by decide)]) ?_
        refine lv_aload_n hx hb dX12_readBookLine_57 rfl (lv_at hl 3 rfl) ?_
        refine va_get (D := (dC, dI)) (ci := 11) (v := .long (sl 0 12)) (C := RX12) (T := TX12) (N := 47) hx hb hts ii_X12_readBookLine hown hK hP 0 rfl rfl 12 (by decide) (hts _ mm_X12_readBookLine_3) (fun _ hh => hh) rfl dX12_readBookLine_58 ?_
        refine va_calli (va_runS (As := [.ref (ar 7), .int 5, .int (nI (c 1)), .long (sl 0 12)]) (rest := []) ⟨hx, hb, hml, hown, hts⟩ (f_findIm1 l dC dI ar cy _ hN st sl (c 1) (sl 0 12) (by omega) hG.1 ) (va_cwS 4 hts gX12_readBookLine_X12_findIn rfl rfl rfl (by decide +kernel) ⟨Nat.le_of_ble_eq_true rfl, Nat.le_of_ble_eq_true rfl⟩) ⟨fun a U g mk q => ⟨q.1, mPre.blind q.2⟩, fun U hU hW => ⟨rfl, mPre.of hP hK hU hW⟩⟩ rfl rfl hl.1 rfl (lv_room (Nat.le_of_ble_eq_true rfl)) dX12_readBookLine_61 ⟨Nat.le_of_ble_eq_true rfl, Nat.le_of_ble_eq_true rfl⟩) hS (fun q _ h => MA.le hS.1 q h) (MA.le hS.1) (fun r40 x t H locs ht hvm hw hB9 _ _ hS => ?_)
        have hP := mB.at ht hB9
        clear hB9 ht hvm
        obtain ⟨rfl, hw⟩ := hw
        have hP : va_P (dC, dI) vwCl (mw ar cy st sl) _ := hP
        rcases hw with ⟨rfl, hf41⟩ | ⟨n42, rfl, hf43, hf44⟩
        · refine lv_istore_n (lv' := [(3, .int (-1)), (2, .int (-1)), (1, .int 0), (0, .ref (ar 0))]) hx hb dX12_readBookLine_64 rfl hl (by decide) rfl (fun ls hl => ?_)
          refine lv_iload_n hx hb dX12_readBookLine_65 rfl (lv_at hl 1 rfl) ?_
          refine lv_iconst (v := (-1)) hx hb dX12_readBookLine_66 (by decide) ?_
          refine lv_icmp_ne (tgt := 81) hx hb dX12_readBookLine_67 (by decide) (fun cc => absurd (by decide) cc) (fun _ => ?_)
          refine lv_iload_n hx hb dX12_readBookLine_70 rfl (lv_at hl 0 rfl) ?_
          refine lv_iconst (v := (-1)) hx hb dX12_readBookLine_71 (by decide) ?_
          refine lv_icmp_ne (tgt := 81) hx hb dX12_readBookLine_72 (by decide) (fun cc => absurd (by decide) cc) (fun _ => ?_)
          refine lv_aload_n hx hb dX12_readBookLine_75 rfl (lv_at hl 3 rfl) ?_
          refine lv_iconst (v := 3) hx hb dX12_readBookLine_76 (by decide) ?_
          refine va_calli (va_runV (As := [.int 3]) (rest := []) ⟨hx, hb, hml, hown, hts⟩ (f_bad l dC dI ar cy _ hN st sl 3 B g m p (by omega) hG.1 (MBt.fr hB hF) hT) (cwV 1 hts gX12_readBookLine_X12_bad rfl rfl rfl (by decide +kernel) ⟨Nat.le_of_ble_eq_true rfl, Nat.le_of_ble_eq_true rfl⟩) ⟨fun a U g mk q => ⟨q.1, mPre.blind q.2⟩, va_recv hK hP (ci := 11) (q0 := 0) rfl rfl, fun U hU hW => ⟨rfl, mPre.of hP hK hU hW⟩⟩ rfl rfl hl.1 rfl (lv_room (Nat.le_of_ble_eq_true rfl)) dX12_readBookLine_77 ⟨Nat.le_of_ble_eq_true rfl, Nat.le_of_ble_eq_true rfl⟩) hS (fun q _ h => MA.le hS.1 q h) (MA.le hS.1) (fun r45 x t H locs ht hvm hw hB9 _ _ hS => ?_)
          have hP := mB.at ht hB9
          clear hB9 ht hvm
          obtain ⟨st46, sl47⟩ := x
          obtain ⟨hG2, hF2, hw⟩ := hw
          dsimp only at hG2 hF2 hw
          have hP : va_P (dC, dI) vwCl (mw ar cy st46 sl47) _ := hP
          have hG : MG [1, 2, 3, 6, 7, 8, 9, 10, 11, 12, 14, 15, 20, 21, 22] st st46 := hG.tr hG2 (by decide)
          have hFst46 : FM 2 st sl st46 sl47 := hF2
          have hF : FM 7 st sl st46 sl47 := hF.tr hFst46 (by omega) (by omega)
          clear hG2 hF2
          have hR : RN c nm st46 sl47 := hR.fr hFst46
          obtain ⟨rfl, hf48, hf49, hT⟩ := hw
          have hp9 := hT.2.2.2.2.2.2
          have hk1 := tkd_lt (B := B) (g := g) (m := m) (p := p)
          have hk2 := tkx_le (B := B) (g := g) (m := m) (p := p) hp9
          have hk3 := tka_le (B := B) (g := g) (m := m) (p := p) hp9 hB.2.2.1
          have hk4 := tkv_lt (p := p) hB hp9
          have hk5 := tkw_lt (B := B) (g := g) (m := m) (p := p)
          exact W.zret (v := 0) hx hb hr rfl (fun t ht hW => ⟨⟨0, (st46, sl47), rfl, ⟨hG, hF, Or.inr (⟨3, (tka B g m p), rfl, by show st46 0 10 = _; rw [hf48, bdk_n (by have h9 := @tkw_d B g m p; omega)], by show st46 0 11 = _; rw [hf49], by omega, bLn_3 hf3 hf33 (knw_f _ (hR0.nk (a := 2) (by decide) (fun i hi => by rw [← (hT0.2.2.2.2.2.1 (by omega))]; exact hf36 i hi))) (knw_f _ (hR0.nk (a := 1) (by decide) (fun i hi => by rw [← (hT0.2.2.2.2.2.1 (by omega))]; exact hf41 i hi)))⟩)⟩, mB.of ht hP⟩, hS.F ht⟩) hS.2.2 dX12_readBookLine_80
        · refine lv_istore_n (lv' := [(3, .int (nI n42)), (2, .int (-1)), (1, .int 0), (0, .ref (ar 0))]) hx hb dX12_readBookLine_64 rfl hl (by decide) rfl (fun ls hl => ?_)
          refine lv_iload_n hx hb dX12_readBookLine_65 rfl (lv_at hl 1 rfl) ?_
          refine lv_iconst (v := (-1)) hx hb dX12_readBookLine_66 (by decide) ?_
          refine lv_icmp_ne (tgt := 81) hx hb dX12_readBookLine_67 (by decide) (fun cc => absurd (by decide) cc) (fun _ => ?_)
          refine lv_iload_n hx hb dX12_readBookLine_70 rfl (lv_at hl 0 rfl) ?_
          refine lv_iconst (v := (-1)) hx hb dX12_readBookLine_71 (by decide) ?_
          refine lv_icmp_ne (tgt := 81) hx hb dX12_readBookLine_72 (by decide) (fun _ => ?_) (fun cc => absurd cc (nI_nem (by omega)))
          refine lv_aload_n hx hb dX12_readBookLine_81 rfl (lv_at hl 3 rfl) ?_
          refine va_get (D := (dC, dI)) (ci := 11) (v := .int (st 0 40)) (C := RX12) (T := TX12) (N := 47) hx hb hts ii_X12_readBookLine hown hK hP 0 rfl rfl 40 (by decide) (hts _ mm_X12_readBookLine_4) (fun _ hh => hh) rfl dX12_readBookLine_82 ?_
          refine zz_top (v := (nI gl)) (by show st 0 40 = _; rw [h40]) ?_
          refine lv_bipush (v := 40) hx hb dX12_readBookLine_85 (by decide) ?_
          refine lv_icmp_ne (tgt := 96) hx hb dX12_readBookLine_87 (by decide) (fun c14 => ?_) (fun c14 => ?_)
          · have c14 : ¬ gl = 40 := fun hh => c14 ((nI_eq (a := gl) (b := 40) (by omega) (by omega)).mpr hh)
            refine lv_iconst (v := 5) hx hb dX12_readBookLine_96 (by decide) ?_
            refine lv_aload_n hx hb dX12_readBookLine_97 rfl (lv_at hl 3 rfl) ?_
            refine va_get (D := (dC, dI)) (ci := 11) (v := .int (st 0 40)) (C := RX12) (T := TX12) (N := 47) hx hb hts ii_X12_readBookLine hown hK hP 0 rfl rfl 40 (by decide) (hts _ mm_X12_readBookLine_4) (fun _ hh => hh) rfl dX12_readBookLine_98 ?_
            refine zz_top (v := (nI gl)) (by show st 0 40 = _; rw [h40]) ?_
            refine lv_imul hx hb dX12_readBookLine_101 ?_
            refine zz_top (v := nI (5 * gl)) (nI_mul 5 gl) ?_
            refine lv_istore (lv' := [(4, .int (nI (5 * gl))), (3, .int (nI n42)), (2, .int (-1)), (1, .int 0), (0, .ref (ar 0))]) hx hb dX12_readBookLine_102 hl (by decide) rfl (fun ls hl => ?_)
            refine lv_iload_n hx hb dX12_readBookLine_104 rfl (lv_at hl 3 rfl) ?_
            refine lv_if_eq (tgt := 130) hx hb dX12_readBookLine_105 (by decide) (fun _ => ?_) (fun cc => absurd (by decide) cc)
            refine lv_aload_n hx hb dX12_readBookLine_130 rfl (lv_at hl 4 rfl) ?_
            refine va_get (D := (dC, dI)) (ci := 11) (v := .ref (ar 14)) (C := RX12) (T := TX12) (N := 47) hx hb hts ii_X12_readBookLine hown hK hP 0 rfl rfl 38 (by decide) (hts _ mm_X12_readBookLine_5) (fun _ hh => hh) rfl dX12_readBookLine_131 ?_
            refine lv_iload hx hb dX12_readBookLine_134 (lv_at hl 0 rfl) ?_
            refine lv_iconst (v := 1) hx hb dX12_readBookLine_136 (by decide) ?_
            refine lv_iadd hx hb dX12_readBookLine_137 ?_
            refine zz_top (v := nI ((5 * gl) + 1)) (nI_add (5 * gl) 1) ?_
            refine lv_iload_n hx hb dX12_readBookLine_138 rfl (lv_at hl 2 rfl) ?_
            refine lv_iconst (v := (-1)) hx hb dX12_readBookLine_139 (by decide) ?_
            refine lv_icmp_ne (tgt := 147) hx hb dX12_readBookLine_140 (by decide) (fun cc => absurd (by decide) cc) (fun _ => ?_)
            refine lv_iload_n hx hb dX12_readBookLine_143 rfl (lv_at hl 1 rfl) ?_
            refine lv_goto (tgt := 148) hx hb dX12_readBookLine_144 (by decide) ?_
            refine va_iast hx hb hK hP (mD hN _ _ _ _) hS 14 13 rfl rfl (i := (nI ((5 * gl) + 1))) (vp_in_nI (by omega) (by decide)) dX12_readBookLine_148 (fun H locs hP _ hS => ?_)
            rw [nI_clamp (by omega)] at hP
            have hP : va_P (dC, dI) vwCl (mw ar cy (up2 st 14 ((5 * gl) + 1) (nI n42)) sl) H := hP
            obtain ⟨st50, est50⟩ : ∃ y, y = up2 st 14 ((5 * gl) + 1) (nI n42) := ⟨_, rfl⟩
            have hG : MG [1, 2, 3, 6, 7, 8, 9, 10, 11, 12, 14, 15, 20, 21, 22] st st50 := by rw [est50]; exact hG.up (rz (mr_14_1_197 ((5 * gl) + 1) (by omega) (by omega))) (pn (pcl_14_1_197 ((5 * gl) + 1) (by omega) (by omega)) (by decide))
            rw [← est50] at hP
            have hF : FM 7 st sl st50 sl := by rw [est50]; exact hF.up (dm_ln _)
            have hT : TM B g m p st50 sl := by rw [est50]; exact hT.up (by omega)
            have hR : RN c nm st50 sl := by rw [est50]; exact hR.up (by omega)
            refine lv_aload_n hx hb dX12_readBookLine_149 rfl (lv_at hl 4 rfl) ?_
            refine va_callv (va_runV (As := []) (rest := []) ⟨hx, hb, hml, hown, hts⟩ (f_go l dC dI ar cy _ hN st50 sl B g m (tkx B g m p) hG.1 (MBt.fr hB hF) hT.1 hk2.2) (cwV 0 hts gX12_readBookLine_X12_go rfl rfl rfl (by decide +kernel) ⟨Nat.le_of_ble_eq_true rfl, Nat.le_of_ble_eq_true rfl⟩) ⟨fun a U g mk q => ⟨q.1, mPre.blind q.2⟩, va_recv hK hP (ci := 11) (q0 := 0) rfl rfl, fun U hU hW => ⟨rfl, mPre.of hP hK hU hW⟩⟩ rfl rfl hl.1 rfl (lv_room (Nat.le_of_ble_eq_true rfl)) dX12_readBookLine_150 ⟨Nat.le_of_ble_eq_true rfl, Nat.le_of_ble_eq_true rfl⟩) hS (fun q _ h => MA.le hS.1 q h) (MA.le hS.1) (fun x t H locs ht hvm hw hB9 _ _ hS => ?_)
            have hP := mB.at ht hB9
            clear hB9 ht hvm
            obtain ⟨st52, sl53⟩ := x
            obtain ⟨hG2, hF2, hw⟩ := hw
            dsimp only at hG2 hF2 hw
            have hP : va_P (dC, dI) vwCl (mw ar cy st52 sl53) _ := hP
            have hG : MG [1, 2, 3, 6, 7, 8, 9, 10, 11, 12, 14, 15, 20, 21, 22] st st52 := hG.tr hG2 (by decide)
            have hFst52 : FM 1 st50 sl st52 sl53 := hF2
            have hF : FM 7 st sl st52 sl53 := hF.tr hFst52 (by omega) (by omega)
            clear hG2 hF2
            have hR : RN c nm st52 sl53 := hR.fr hFst52
            have hT := hw
            have hp9 := hT.2.2.2.2.2.2
            have hk1 := tkd_lt (B := B) (g := g) (m := m) (p := (tkx B g m p))
            have hk2 := tkx_le (B := B) (g := g) (m := m) (p := (tkx B g m p)) hp9
            have hk3 := tka_le (B := B) (g := g) (m := m) (p := (tkx B g m p)) hp9 hB.2.2.1
            have hk4 := tkv_lt (p := (tkx B g m p)) hB hp9
            have hk5 := tkw_lt (B := B) (g := g) (m := m) (p := (tkx B g m p))
            refine lv_iload_n hx hb dX12_readBookLine_153 rfl (lv_at hl 2 rfl) ?_
            refine lv_iconst (v := (-1)) hx hb dX12_readBookLine_154 (by decide) ?_
            refine lv_icmp_ne (tgt := 170) hx hb dX12_readBookLine_155 (by decide) (fun cc => absurd (by decide) cc) (fun _ => ?_)
            refine lv_aload_n hx hb dX12_readBookLine_158 rfl (lv_at hl 4 rfl) ?_
            refine lv_iload hx hb dX12_readBookLine_159 (lv_at hl 0 rfl) ?_
            refine va_calli (va_runV (As := [.int (nI (5 * gl))]) (rest := []) ⟨hx, hb, hml, hown, hts⟩ (f_readPersonDoes l dC dI ar cy _ hN st52 sl53 (5 * gl) B g m (tkx B g m p) c nm (by omega) hG.1 (MBt.fr hB hF) hT hR) (cwV 1 hts gX12_readBookLine_X12_readPersonDoes rfl rfl rfl (by decide +kernel) ⟨Nat.le_of_ble_eq_true rfl, Nat.le_of_ble_eq_true rfl⟩) ⟨fun a U g mk q => ⟨q.1, mPre.blind q.2⟩, va_recv hK hP (ci := 11) (q0 := 0) rfl rfl, fun U hU hW => ⟨rfl, mPre.of hP hK hU hW⟩⟩ rfl rfl hl.1 rfl (lv_room (Nat.le_of_ble_eq_true rfl)) dX12_readBookLine_161 ⟨Nat.le_of_ble_eq_true rfl, Nat.le_of_ble_eq_true rfl⟩) hS (fun q _ h => MA.le hS.1 q h) (MA.le hS.1) (fun r54 x t H locs ht hvm hw hB9 _ _ hS => ?_)
            have hP := mB.at ht hB9
            clear hB9 ht hvm
            obtain ⟨st55, sl56⟩ := x
            obtain ⟨hG2, hF2, hw⟩ := hw
            dsimp only at hG2 hF2 hw
            have hP : va_P (dC, dI) vwCl (mw ar cy st55 sl56) _ := hP
            have hG : MG [1, 2, 3, 6, 7, 8, 9, 10, 11, 12, 14, 15, 20, 21, 22] st st55 := hG.tr hG2 (by decide)
            have hFst55 : FM 7 st52 sl53 st55 sl56 := hF2
            have hF : FM 7 st sl st55 sl56 := hF.tr hFst55 (by omega) (by omega)
            clear hG2 hF2
            have hR : RN c nm st55 sl56 := hR.fr hFst55
            rcases hw with ⟨n57, rfl, hT, hf58, hk59⟩ | ⟨n60, n61, rfl, hf62, hf63, hf64, hf65⟩
            · have hp9 := hT.2.2.2.2.2.2
              have hk1 := tkd_lt (B := B) (g := g) (m := m) (p := n57)
              have hk2 := tkx_le (B := B) (g := g) (m := m) (p := n57) hp9
              have hk3 := tka_le (B := B) (g := g) (m := m) (p := n57) hp9 hB.2.2.1
              have hk4 := tkv_lt (p := n57) hB hp9
              have hk5 := tkw_lt (B := B) (g := g) (m := m) (p := n57)
              refine lv_if_eq (tgt := 190) hx hb dX12_readBookLine_164 (by decide) (fun cc => absurd cc (by decide)) (fun _ => ?_)
              refine lv_goto (tgt := 179) hx hb dX12_readBookLine_167 (by decide) ?_
              refine lv_aload_n hx hb dX12_readBookLine_179 rfl (lv_at hl 4 rfl) ?_
              refine va_calli (va_runV (As := []) (rest := []) ⟨hx, hb, hml, hown, hts⟩ (f_readEnd l dC dI ar cy _ hN st55 sl56 B g m n57 hG.1 (MBt.fr hB hF) hT) (cwV 0 hts gX12_readBookLine_X12_readEnd rfl rfl rfl (by decide +kernel) ⟨Nat.le_of_ble_eq_true rfl, Nat.le_of_ble_eq_true rfl⟩) ⟨fun a U g mk q => ⟨q.1, mPre.blind q.2⟩, va_recv hK hP (ci := 11) (q0 := 0) rfl rfl, fun U hU hW => ⟨rfl, mPre.of hP hK hU hW⟩⟩ rfl rfl hl.1 rfl (lv_room (Nat.le_of_ble_eq_true rfl)) dX12_readBookLine_180 ⟨Nat.le_of_ble_eq_true rfl, Nat.le_of_ble_eq_true rfl⟩) hS (fun q _ h => MA.le hS.1 q h) (MA.le hS.1) (fun r66 x t H locs ht hvm hw hB9 _ _ hS => ?_)
              have hP := mB.at ht hB9
              clear hB9 ht hvm
              obtain ⟨st67, sl68⟩ := x
              obtain ⟨hG2, hF2, hw⟩ := hw
              dsimp only at hG2 hF2 hw
              have hP : va_P (dC, dI) vwCl (mw ar cy st67 sl68) _ := hP
              have hG : MG [1, 2, 3, 6, 7, 8, 9, 10, 11, 12, 14, 15, 20, 21, 22] st st67 := hG.tr hG2 (by decide)
              have hFst67 : FM 2 st55 sl56 st67 sl68 := hF2
              have hF : FM 7 st sl st67 sl68 := hF.tr hFst67 (by omega) (by omega)
              clear hG2 hF2
              have hR : RN c nm st67 sl68 := hR.fr hFst67
              rcases hw with ⟨rfl, hT, hf69, hk70⟩ | ⟨n71, n72, rfl, hf73, hf74, hf75, hf76⟩
              · have hp9 := hT.2.2.2.2.2.2
                have hk1 := tkd_lt (B := B) (g := g) (m := m) (p := (tkx B g m n57))
                have hk2 := tkx_le (B := B) (g := g) (m := m) (p := (tkx B g m n57)) hp9
                have hk3 := tka_le (B := B) (g := g) (m := m) (p := (tkx B g m n57)) hp9 hB.2.2.1
                have hk4 := tkv_lt (p := (tkx B g m n57)) hB hp9
                have hk5 := tkw_lt (B := B) (g := g) (m := m) (p := (tkx B g m n57))
                refine lv_if_eq (tgt := 190) hx hb dX12_readBookLine_183 (by decide) (fun cc => absurd cc (by decide)) (fun _ => ?_)
                refine lv_iconst (v := 1) hx hb dX12_readBookLine_186 (by decide) ?_
                refine lv_goto (tgt := 191) hx hb dX12_readBookLine_187 (by decide) ?_
                exact W.zret (v := 1) hx hb hr rfl (fun t ht hW => ⟨⟨1, (st67, sl68), rfl, ⟨hG, hF, Or.inl (⟨(tkx B g m n57), rfl, hT, (bLn_p hf3 hf33 (knw_f _ (hR0.nk (a := 2) (by decide) (fun i hi => by rw [← (hT0.2.2.2.2.2.1 (by omega))]; exact hf36 i hi))) (knw_t (n := c 1) (i := n42) (show n42 < c 1 by omega) (hR0.kn (a := 1) (by decide) (show n42 < c 1 by omega) (tkc_V (m := m) (by omega) hB1 (by omega)) (hf44.trans (hT0.2.2.2.2.2.1 (by omega))))) (by omega)).trans (en_y hf58 hf69), by show st67 0 10 = st 0 10; rw [hk70, hk59, (hFst52 0 10 (by decide)).1, est50, up2_ne (r := 14) (k := ((5 * gl) + 1)) (a := 0) (j := 10) _ _ (by omega)]⟩)⟩, mB.of ht hP⟩, hS.F ht⟩) hS.2.2 dX12_readBookLine_191
              · refine lv_if_eq (tgt := 190) hx hb dX12_readBookLine_183 (by decide) (fun _ => ?_) (fun cc => absurd (by decide) cc)
                refine lv_iconst (v := 0) hx hb dX12_readBookLine_190 (by decide) ?_
                exact W.zret (v := 0) hx hb hr rfl (fun t ht hW => ⟨⟨0, (st67, sl68), rfl, ⟨hG, hF, Or.inr (⟨n71, n72, rfl, by show st67 0 10 = _; rw [hf73], by show st67 0 11 = _; rw [hf74], hf75, (bLn_p hf3 hf33 (knw_f _ (hR0.nk (a := 2) (by decide) (fun i hi => by rw [← (hT0.2.2.2.2.2.1 (by omega))]; exact hf36 i hi))) (knw_t (n := c 1) (i := n42) (show n42 < c 1 by omega) (hR0.kn (a := 1) (by decide) (show n42 < c 1 by omega) (tkc_V (m := m) (by omega) hB1 (by omega)) (hf44.trans (hT0.2.2.2.2.2.1 (by omega))))) (by omega)).trans (en_f hf58 hf76 hf75)⟩)⟩, mB.of ht hP⟩, hS.F ht⟩) hS.2.2 dX12_readBookLine_191
            · refine lv_if_eq (tgt := 190) hx hb dX12_readBookLine_164 (by decide) (fun _ => ?_) (fun cc => absurd (by decide) cc)
              refine lv_iconst (v := 0) hx hb dX12_readBookLine_190 (by decide) ?_
              exact W.zret (v := 0) hx hb hr rfl (fun t ht hW => ⟨⟨0, (st55, sl56), rfl, ⟨hG, hF, Or.inr (⟨n60, n61, rfl, by show st55 0 10 = _; rw [hf62], by show st55 0 11 = _; rw [hf63], hf64, (bLn_p hf3 hf33 (knw_f _ (hR0.nk (a := 2) (by decide) (fun i hi => by rw [← (hT0.2.2.2.2.2.1 (by omega))]; exact hf36 i hi))) (knw_t (n := c 1) (i := n42) (show n42 < c 1 by omega) (hR0.kn (a := 1) (by decide) (show n42 < c 1 by omega) (tkc_V (m := m) (by omega) hB1 (by omega)) (hf44.trans (hT0.2.2.2.2.2.1 (by omega))))) (by omega)).trans (bEn_f hf65 hf64)⟩)⟩, mB.of ht hP⟩, hS.F ht⟩) hS.2.2 dX12_readBookLine_191
          · have c14 : gl = 40 := (nI_eq (a := gl) (b := 40) (by omega) (by omega)).mp c14
            refine lv_aload_n hx hb dX12_readBookLine_90 rfl (lv_at hl 3 rfl) ?_
            refine lv_iconst (v := 4) hx hb dX12_readBookLine_91 (by decide) ?_
            refine va_calli (va_runV (As := [.int 4]) (rest := []) ⟨hx, hb, hml, hown, hts⟩ (f_bad l dC dI ar cy _ hN st sl 4 B g m p (by omega) hG.1 (MBt.fr hB hF) hT) (cwV 1 hts gX12_readBookLine_X12_bad rfl rfl rfl (by decide +kernel) ⟨Nat.le_of_ble_eq_true rfl, Nat.le_of_ble_eq_true rfl⟩) ⟨fun a U g mk q => ⟨q.1, mPre.blind q.2⟩, va_recv hK hP (ci := 11) (q0 := 0) rfl rfl, fun U hU hW => ⟨rfl, mPre.of hP hK hU hW⟩⟩ rfl rfl hl.1 rfl (lv_room (Nat.le_of_ble_eq_true rfl)) dX12_readBookLine_92 ⟨Nat.le_of_ble_eq_true rfl, Nat.le_of_ble_eq_true rfl⟩) hS (fun q _ h => MA.le hS.1 q h) (MA.le hS.1) (fun r77 x t H locs ht hvm hw hB9 _ _ hS => ?_)
            have hP := mB.at ht hB9
            clear hB9 ht hvm
            obtain ⟨st78, sl79⟩ := x
            obtain ⟨hG2, hF2, hw⟩ := hw
            dsimp only at hG2 hF2 hw
            have hP : va_P (dC, dI) vwCl (mw ar cy st78 sl79) _ := hP
            have hG : MG [1, 2, 3, 6, 7, 8, 9, 10, 11, 12, 14, 15, 20, 21, 22] st st78 := hG.tr hG2 (by decide)
            have hFst78 : FM 2 st sl st78 sl79 := hF2
            have hF : FM 7 st sl st78 sl79 := hF.tr hFst78 (by omega) (by omega)
            clear hG2 hF2
            have hR : RN c nm st78 sl79 := hR.fr hFst78
            obtain ⟨rfl, hf80, hf81, hT⟩ := hw
            have hp9 := hT.2.2.2.2.2.2
            have hk1 := tkd_lt (B := B) (g := g) (m := m) (p := p)
            have hk2 := tkx_le (B := B) (g := g) (m := m) (p := p) hp9
            have hk3 := tka_le (B := B) (g := g) (m := m) (p := p) hp9 hB.2.2.1
            have hk4 := tkv_lt (p := p) hB hp9
            have hk5 := tkw_lt (B := B) (g := g) (m := m) (p := p)
            exact W.zret (v := 0) hx hb hr rfl (fun t ht hW => ⟨⟨0, (st78, sl79), rfl, ⟨hG, hF, Or.inr (⟨4, (tka B g m p), rfl, by show st78 0 10 = _; rw [hf80, bdk_n (by have h9 := @tkw_d B g m p; omega)], by show st78 0 11 = _; rw [hf81], by omega, bLn_4 hf3 hf33 (kn_np (knw_t (n := c 1) (i := n42) (show n42 < c 1 by omega) (hR0.kn (a := 1) (by decide) (show n42 < c 1 by omega) (tkc_V (m := m) (by omega) hB1 (by omega)) (hf44.trans (hT0.2.2.2.2.2.1 (by omega)))))) (by omega)⟩)⟩, mB.of ht hP⟩, hS.F ht⟩) hS.2.2 dX12_readBookLine_95
      · refine lv_istore_n (lv' := [(2, .int (nI n37)), (3, .int (-1)), (1, .int 0), (0, .ref (ar 0))]) hx hb dX12_readBookLine_45 rfl hl (by decide) rfl (fun ls hl => ?_)
        refine lv_aload_n hx hb dX12_readBookLine_46 rfl (lv_at hl 3 rfl) ?_
        refine va_get (D := (dC, dI)) (ci := 11) (v := .ref (ar 7)) (C := RX12) (T := TX12) (N := 47) hx hb hts ii_X12_readBookLine hown hK hP 0 rfl rfl 19 (by decide) (hts _ mm_X12_readBookLine_1) (fun _ hh => hh) rfl dX12_readBookLine_47 ?_
        refine lv_iconst (v := 5) hx hb dX12_readBookLine_50 (by decide) ?_
        refine lv_aload_n hx hb dX12_readBookLine_51 rfl (lv_at hl 3 rfl) ?_
        refine va_get (D := (dC, dI)) (ci := 11) (v := .ref (ar 2)) (C := RX12) (T := TX12) (N := 47) hx hb hts ii_X12_readBookLine hown hK hP 0 rfl rfl 14 (by decide) (hts _ mm_X12_readBookLine_2) (fun _ hh => hh) rfl dX12_readBookLine_52 ?_
        refine lv_iconst (v := 1) hx hb dX12_readBookLine_55 (by decide) ?_
        refine va_iald hx hb hK hP 2 1 rfl rfl (i := 1) (zz_in (by decide)) dX12_readBookLine_56 ?_
        refine zz_top (v := (nI (c 1))) (by show st 2 1 = _; rw [hR.1 1 (by decide)]) ?_
        refine lv_aload_n hx hb dX12_readBookLine_57 rfl (lv_at hl 3 rfl) ?_
        refine va_get (D := (dC, dI)) (ci := 11) (v := .long (sl 0 12)) (C := RX12) (T := TX12) (N := 47) hx hb hts ii_X12_readBookLine hown hK hP 0 rfl rfl 12 (by decide) (hts _ mm_X12_readBookLine_3) (fun _ hh => hh) rfl dX12_readBookLine_58 ?_
        refine va_calli (va_runS (As := [.ref (ar 7), .int 5, .int (nI (c 1)), .long (sl 0 12)]) (rest := []) ⟨hx, hb, hml, hown, hts⟩ (f_findIm1 l dC dI ar cy _ hN st sl (c 1) (sl 0 12) (by omega) hG.1 ) (va_cwS 4 hts gX12_readBookLine_X12_findIn rfl rfl rfl (by decide +kernel) ⟨Nat.le_of_ble_eq_true rfl, Nat.le_of_ble_eq_true rfl⟩) ⟨fun a U g mk q => ⟨q.1, mPre.blind q.2⟩, fun U hU hW => ⟨rfl, mPre.of hP hK hU hW⟩⟩ rfl rfl hl.1 rfl (lv_room (Nat.le_of_ble_eq_true rfl)) dX12_readBookLine_61 ⟨Nat.le_of_ble_eq_true rfl, Nat.le_of_ble_eq_true rfl⟩) hS (fun q _ h => MA.le hS.1 q h) (MA.le hS.1) (fun r82 x t H locs ht hvm hw hB9 _ _ hS => ?_)
        have hP := mB.at ht hB9
        clear hB9 ht hvm
        obtain ⟨rfl, hw⟩ := hw
        have hP : va_P (dC, dI) vwCl (mw ar cy st sl) _ := hP
        rcases hw with ⟨rfl, hf83⟩ | ⟨n84, rfl, hf85, hf86⟩
        · refine lv_istore_n (lv' := [(3, .int (-1)), (2, .int (nI n37)), (1, .int 0), (0, .ref (ar 0))]) hx hb dX12_readBookLine_64 rfl hl (by decide) rfl (fun ls hl => ?_)
          refine lv_iload_n hx hb dX12_readBookLine_65 rfl (lv_at hl 1 rfl) ?_
          refine lv_iconst (v := (-1)) hx hb dX12_readBookLine_66 (by decide) ?_
          refine lv_icmp_ne (tgt := 81) hx hb dX12_readBookLine_67 (by decide) (fun _ => ?_) (fun cc => absurd cc (nI_nem (by omega)))
          refine lv_aload_n hx hb dX12_readBookLine_81 rfl (lv_at hl 3 rfl) ?_
          refine va_get (D := (dC, dI)) (ci := 11) (v := .int (st 0 40)) (C := RX12) (T := TX12) (N := 47) hx hb hts ii_X12_readBookLine hown hK hP 0 rfl rfl 40 (by decide) (hts _ mm_X12_readBookLine_4) (fun _ hh => hh) rfl dX12_readBookLine_82 ?_
          refine zz_top (v := (nI gl)) (by show st 0 40 = _; rw [h40]) ?_
          refine lv_bipush (v := 40) hx hb dX12_readBookLine_85 (by decide) ?_
          refine lv_icmp_ne (tgt := 96) hx hb dX12_readBookLine_87 (by decide) (fun c23 => ?_) (fun c23 => ?_)
          · have c23 : ¬ gl = 40 := fun hh => c23 ((nI_eq (a := gl) (b := 40) (by omega) (by omega)).mpr hh)
            refine lv_iconst (v := 5) hx hb dX12_readBookLine_96 (by decide) ?_
            refine lv_aload_n hx hb dX12_readBookLine_97 rfl (lv_at hl 3 rfl) ?_
            refine va_get (D := (dC, dI)) (ci := 11) (v := .int (st 0 40)) (C := RX12) (T := TX12) (N := 47) hx hb hts ii_X12_readBookLine hown hK hP 0 rfl rfl 40 (by decide) (hts _ mm_X12_readBookLine_4) (fun _ hh => hh) rfl dX12_readBookLine_98 ?_
            refine zz_top (v := (nI gl)) (by show st 0 40 = _; rw [h40]) ?_
            refine lv_imul hx hb dX12_readBookLine_101 ?_
            refine zz_top (v := nI (5 * gl)) (nI_mul 5 gl) ?_
            refine lv_istore (lv' := [(4, .int (nI (5 * gl))), (3, .int (-1)), (2, .int (nI n37)), (1, .int 0), (0, .ref (ar 0))]) hx hb dX12_readBookLine_102 hl (by decide) rfl (fun ls hl => ?_)
            refine lv_iload_n hx hb dX12_readBookLine_104 rfl (lv_at hl 3 rfl) ?_
            refine lv_if_eq (tgt := 130) hx hb dX12_readBookLine_105 (by decide) (fun _ => ?_) (fun cc => absurd (by decide) cc)
            refine lv_aload_n hx hb dX12_readBookLine_130 rfl (lv_at hl 4 rfl) ?_
            refine va_get (D := (dC, dI)) (ci := 11) (v := .ref (ar 14)) (C := RX12) (T := TX12) (N := 47) hx hb hts ii_X12_readBookLine hown hK hP 0 rfl rfl 38 (by decide) (hts _ mm_X12_readBookLine_5) (fun _ hh => hh) rfl dX12_readBookLine_131 ?_
            refine lv_iload hx hb dX12_readBookLine_134 (lv_at hl 0 rfl) ?_
            refine lv_iconst (v := 1) hx hb dX12_readBookLine_136 (by decide) ?_
            refine lv_iadd hx hb dX12_readBookLine_137 ?_
            refine zz_top (v := nI ((5 * gl) + 1)) (nI_add (5 * gl) 1) ?_
            refine lv_iload_n hx hb dX12_readBookLine_138 rfl (lv_at hl 2 rfl) ?_
            refine lv_iconst (v := (-1)) hx hb dX12_readBookLine_139 (by decide) ?_
            refine lv_icmp_ne (tgt := 147) hx hb dX12_readBookLine_140 (by decide) (fun _ => ?_) (fun cc => absurd cc (nI_nem (by omega)))
            refine lv_iload_n hx hb dX12_readBookLine_147 rfl (lv_at hl 2 rfl) ?_
            refine va_iast hx hb hK hP (mD hN _ _ _ _) hS 14 13 rfl rfl (i := (nI ((5 * gl) + 1))) (vp_in_nI (by omega) (by decide)) dX12_readBookLine_148 (fun H locs hP _ hS => ?_)
            rw [nI_clamp (by omega)] at hP
            have hP : va_P (dC, dI) vwCl (mw ar cy (up2 st 14 ((5 * gl) + 1) (nI n37)) sl) H := hP
            obtain ⟨st87, est87⟩ : ∃ y, y = up2 st 14 ((5 * gl) + 1) (nI n37) := ⟨_, rfl⟩
            have hG : MG [1, 2, 3, 6, 7, 8, 9, 10, 11, 12, 14, 15, 20, 21, 22] st st87 := by rw [est87]; exact hG.up (rz (mr_14_1_197 ((5 * gl) + 1) (by omega) (by omega))) (pn (pcl_14_1_197 ((5 * gl) + 1) (by omega) (by omega)) (by decide))
            rw [← est87] at hP
            have hF : FM 7 st sl st87 sl := by rw [est87]; exact hF.up (dm_ln _)
            have hT : TM B g m p st87 sl := by rw [est87]; exact hT.up (by omega)
            have hR : RN c nm st87 sl := by rw [est87]; exact hR.up (by omega)
            refine lv_aload_n hx hb dX12_readBookLine_149 rfl (lv_at hl 4 rfl) ?_
            refine va_callv (va_runV (As := []) (rest := []) ⟨hx, hb, hml, hown, hts⟩ (f_go l dC dI ar cy _ hN st87 sl B g m (tkx B g m p) hG.1 (MBt.fr hB hF) hT.1 hk2.2) (cwV 0 hts gX12_readBookLine_X12_go rfl rfl rfl (by decide +kernel) ⟨Nat.le_of_ble_eq_true rfl, Nat.le_of_ble_eq_true rfl⟩) ⟨fun a U g mk q => ⟨q.1, mPre.blind q.2⟩, va_recv hK hP (ci := 11) (q0 := 0) rfl rfl, fun U hU hW => ⟨rfl, mPre.of hP hK hU hW⟩⟩ rfl rfl hl.1 rfl (lv_room (Nat.le_of_ble_eq_true rfl)) dX12_readBookLine_150 ⟨Nat.le_of_ble_eq_true rfl, Nat.le_of_ble_eq_true rfl⟩) hS (fun q _ h => MA.le hS.1 q h) (MA.le hS.1) (fun x t H locs ht hvm hw hB9 _ _ hS => ?_)
            have hP := mB.at ht hB9
            clear hB9 ht hvm
            obtain ⟨st89, sl90⟩ := x
            obtain ⟨hG2, hF2, hw⟩ := hw
            dsimp only at hG2 hF2 hw
            have hP : va_P (dC, dI) vwCl (mw ar cy st89 sl90) _ := hP
            have hG : MG [1, 2, 3, 6, 7, 8, 9, 10, 11, 12, 14, 15, 20, 21, 22] st st89 := hG.tr hG2 (by decide)
            have hFst89 : FM 1 st87 sl st89 sl90 := hF2
            have hF : FM 7 st sl st89 sl90 := hF.tr hFst89 (by omega) (by omega)
            clear hG2 hF2
            have hR : RN c nm st89 sl90 := hR.fr hFst89
            have hT := hw
            have hp9 := hT.2.2.2.2.2.2
            have hk1 := tkd_lt (B := B) (g := g) (m := m) (p := (tkx B g m p))
            have hk2 := tkx_le (B := B) (g := g) (m := m) (p := (tkx B g m p)) hp9
            have hk3 := tka_le (B := B) (g := g) (m := m) (p := (tkx B g m p)) hp9 hB.2.2.1
            have hk4 := tkv_lt (p := (tkx B g m p)) hB hp9
            have hk5 := tkw_lt (B := B) (g := g) (m := m) (p := (tkx B g m p))
            refine lv_iload_n hx hb dX12_readBookLine_153 rfl (lv_at hl 2 rfl) ?_
            refine lv_iconst (v := (-1)) hx hb dX12_readBookLine_154 (by decide) ?_
            refine lv_icmp_ne (tgt := 170) hx hb dX12_readBookLine_155 (by decide) (fun _ => ?_) (fun cc => absurd cc (nI_nem (by omega)))
            refine lv_aload_n hx hb dX12_readBookLine_170 rfl (lv_at hl 4 rfl) ?_
            refine lv_iload hx hb dX12_readBookLine_171 (lv_at hl 0 rfl) ?_
            refine va_calli (va_runV (As := [.int (nI (5 * gl))]) (rest := []) ⟨hx, hb, hml, hown, hts⟩ (f_readDogDoes l dC dI ar cy _ hN st89 sl90 (5 * gl) B g m (tkx B g m p) c nm (by omega) hG.1 (MBt.fr hB hF) hT hR) (cwV 1 hts gX12_readBookLine_X12_readDogDoes rfl rfl rfl (by decide +kernel) ⟨Nat.le_of_ble_eq_true rfl, Nat.le_of_ble_eq_true rfl⟩) ⟨fun a U g mk q => ⟨q.1, mPre.blind q.2⟩, va_recv hK hP (ci := 11) (q0 := 0) rfl rfl, fun U hU hW => ⟨rfl, mPre.of hP hK hU hW⟩⟩ rfl rfl hl.1 rfl (lv_room (Nat.le_of_ble_eq_true rfl)) dX12_readBookLine_173 ⟨Nat.le_of_ble_eq_true rfl, Nat.le_of_ble_eq_true rfl⟩) hS (fun q _ h => MA.le hS.1 q h) (MA.le hS.1) (fun r91 x t H locs ht hvm hw hB9 _ _ hS => ?_)
            have hP := mB.at ht hB9
            clear hB9 ht hvm
            obtain ⟨st92, sl93⟩ := x
            obtain ⟨hG2, hF2, hw⟩ := hw
            dsimp only at hG2 hF2 hw
            have hP : va_P (dC, dI) vwCl (mw ar cy st92 sl93) _ := hP
            have hG : MG [1, 2, 3, 6, 7, 8, 9, 10, 11, 12, 14, 15, 20, 21, 22] st st92 := hG.tr hG2 (by decide)
            have hFst92 : FM 7 st89 sl90 st92 sl93 := hF2
            have hF : FM 7 st sl st92 sl93 := hF.tr hFst92 (by omega) (by omega)
            clear hG2 hF2
            have hR : RN c nm st92 sl93 := hR.fr hFst92
            rcases hw with ⟨n94, rfl, hT, hf95, hk96⟩ | ⟨n97, n98, rfl, hf99, hf100, hf101, hf102⟩
            · have hp9 := hT.2.2.2.2.2.2
              have hk1 := tkd_lt (B := B) (g := g) (m := m) (p := n94)
              have hk2 := tkx_le (B := B) (g := g) (m := m) (p := n94) hp9
              have hk3 := tka_le (B := B) (g := g) (m := m) (p := n94) hp9 hB.2.2.1
              have hk4 := tkv_lt (p := n94) hB hp9
              have hk5 := tkw_lt (B := B) (g := g) (m := m) (p := n94)
              refine lv_if_eq (tgt := 190) hx hb dX12_readBookLine_176 (by decide) (fun cc => absurd cc (by decide)) (fun _ => ?_)
              refine lv_aload_n hx hb dX12_readBookLine_179 rfl (lv_at hl 4 rfl) ?_
              refine va_calli (va_runV (As := []) (rest := []) ⟨hx, hb, hml, hown, hts⟩ (f_readEnd l dC dI ar cy _ hN st92 sl93 B g m n94 hG.1 (MBt.fr hB hF) hT) (cwV 0 hts gX12_readBookLine_X12_readEnd rfl rfl rfl (by decide +kernel) ⟨Nat.le_of_ble_eq_true rfl, Nat.le_of_ble_eq_true rfl⟩) ⟨fun a U g mk q => ⟨q.1, mPre.blind q.2⟩, va_recv hK hP (ci := 11) (q0 := 0) rfl rfl, fun U hU hW => ⟨rfl, mPre.of hP hK hU hW⟩⟩ rfl rfl hl.1 rfl (lv_room (Nat.le_of_ble_eq_true rfl)) dX12_readBookLine_180 ⟨Nat.le_of_ble_eq_true rfl, Nat.le_of_ble_eq_true rfl⟩) hS (fun q _ h => MA.le hS.1 q h) (MA.le hS.1) (fun r103 x t H locs ht hvm hw hB9 _ _ hS => ?_)
              have hP := mB.at ht hB9
              clear hB9 ht hvm
              obtain ⟨st104, sl105⟩ := x
              obtain ⟨hG2, hF2, hw⟩ := hw
              dsimp only at hG2 hF2 hw
              have hP : va_P (dC, dI) vwCl (mw ar cy st104 sl105) _ := hP
              have hG : MG [1, 2, 3, 6, 7, 8, 9, 10, 11, 12, 14, 15, 20, 21, 22] st st104 := hG.tr hG2 (by decide)
              have hFst104 : FM 2 st92 sl93 st104 sl105 := hF2
              have hF : FM 7 st sl st104 sl105 := hF.tr hFst104 (by omega) (by omega)
              clear hG2 hF2
              have hR : RN c nm st104 sl105 := hR.fr hFst104
              rcases hw with ⟨rfl, hT, hf106, hk107⟩ | ⟨n108, n109, rfl, hf110, hf111, hf112, hf113⟩
              · have hp9 := hT.2.2.2.2.2.2
                have hk1 := tkd_lt (B := B) (g := g) (m := m) (p := (tkx B g m n94))
                have hk2 := tkx_le (B := B) (g := g) (m := m) (p := (tkx B g m n94)) hp9
                have hk3 := tka_le (B := B) (g := g) (m := m) (p := (tkx B g m n94)) hp9 hB.2.2.1
                have hk4 := tkv_lt (p := (tkx B g m n94)) hB hp9
                have hk5 := tkw_lt (B := B) (g := g) (m := m) (p := (tkx B g m n94))
                refine lv_if_eq (tgt := 190) hx hb dX12_readBookLine_183 (by decide) (fun cc => absurd cc (by decide)) (fun _ => ?_)
                refine lv_iconst (v := 1) hx hb dX12_readBookLine_186 (by decide) ?_
                refine lv_goto (tgt := 191) hx hb dX12_readBookLine_187 (by decide) ?_
                exact W.zret (v := 1) hx hb hr rfl (fun t ht hW => ⟨⟨1, (st104, sl105), rfl, ⟨hG, hF, Or.inl (⟨(tkx B g m n94), rfl, hT, (bLn_d hf3 hf33 (knw_t (n := c 2) (i := n37) (show n37 < c 2 by omega) (hR0.kn (a := 2) (by decide) (show n37 < c 2 by omega) (tkc_V (m := m) (by omega) hB1 (by omega)) (hf39.trans (hT0.2.2.2.2.2.1 (by omega))))) (by omega)).trans (en_y hf95 hf106), by show st104 0 10 = st 0 10; rw [hk107, hk96, (hFst89 0 10 (by decide)).1, est87, up2_ne (r := 14) (k := ((5 * gl) + 1)) (a := 0) (j := 10) _ _ (by omega)]⟩)⟩, mB.of ht hP⟩, hS.F ht⟩) hS.2.2 dX12_readBookLine_191
              · refine lv_if_eq (tgt := 190) hx hb dX12_readBookLine_183 (by decide) (fun _ => ?_) (fun cc => absurd (by decide) cc)
                refine lv_iconst (v := 0) hx hb dX12_readBookLine_190 (by decide) ?_
                exact W.zret (v := 0) hx hb hr rfl (fun t ht hW => ⟨⟨0, (st104, sl105), rfl, ⟨hG, hF, Or.inr (⟨n108, n109, rfl, by show st104 0 10 = _; rw [hf110], by show st104 0 11 = _; rw [hf111], hf112, (bLn_d hf3 hf33 (knw_t (n := c 2) (i := n37) (show n37 < c 2 by omega) (hR0.kn (a := 2) (by decide) (show n37 < c 2 by omega) (tkc_V (m := m) (by omega) hB1 (by omega)) (hf39.trans (hT0.2.2.2.2.2.1 (by omega))))) (by omega)).trans (en_f hf95 hf113 hf112)⟩)⟩, mB.of ht hP⟩, hS.F ht⟩) hS.2.2 dX12_readBookLine_191
            · refine lv_if_eq (tgt := 190) hx hb dX12_readBookLine_176 (by decide) (fun _ => ?_) (fun cc => absurd (by decide) cc)
              refine lv_iconst (v := 0) hx hb dX12_readBookLine_190 (by decide) ?_
              exact W.zret (v := 0) hx hb hr rfl (fun t ht hW => ⟨⟨0, (st92, sl93), rfl, ⟨hG, hF, Or.inr (⟨n97, n98, rfl, by show st92 0 10 = _; rw [hf99], by show st92 0 11 = _; rw [hf100], hf101, (bLn_d hf3 hf33 (knw_t (n := c 2) (i := n37) (show n37 < c 2 by omega) (hR0.kn (a := 2) (by decide) (show n37 < c 2 by omega) (tkc_V (m := m) (by omega) hB1 (by omega)) (hf39.trans (hT0.2.2.2.2.2.1 (by omega))))) (by omega)).trans (bEn_f hf102 hf101)⟩)⟩, mB.of ht hP⟩, hS.F ht⟩) hS.2.2 dX12_readBookLine_191
          · have c23 : gl = 40 := (nI_eq (a := gl) (b := 40) (by omega) (by omega)).mp c23
            refine lv_aload_n hx hb dX12_readBookLine_90 rfl (lv_at hl 3 rfl) ?_
            refine lv_iconst (v := 4) hx hb dX12_readBookLine_91 (by decide) ?_
            refine va_calli (va_runV (As := [.int 4]) (rest := []) ⟨hx, hb, hml, hown, hts⟩ (f_bad l dC dI ar cy _ hN st sl 4 B g m p (by omega) hG.1 (MBt.fr hB hF) hT) (cwV 1 hts gX12_readBookLine_X12_bad rfl rfl rfl (by decide +kernel) ⟨Nat.le_of_ble_eq_true rfl, Nat.le_of_ble_eq_true rfl⟩) ⟨fun a U g mk q => ⟨q.1, mPre.blind q.2⟩, va_recv hK hP (ci := 11) (q0 := 0) rfl rfl, fun U hU hW => ⟨rfl, mPre.of hP hK hU hW⟩⟩ rfl rfl hl.1 rfl (lv_room (Nat.le_of_ble_eq_true rfl)) dX12_readBookLine_92 ⟨Nat.le_of_ble_eq_true rfl, Nat.le_of_ble_eq_true rfl⟩) hS (fun q _ h => MA.le hS.1 q h) (MA.le hS.1) (fun r114 x t H locs ht hvm hw hB9 _ _ hS => ?_)
            have hP := mB.at ht hB9
            clear hB9 ht hvm
            obtain ⟨st115, sl116⟩ := x
            obtain ⟨hG2, hF2, hw⟩ := hw
            dsimp only at hG2 hF2 hw
            have hP : va_P (dC, dI) vwCl (mw ar cy st115 sl116) _ := hP
            have hG : MG [1, 2, 3, 6, 7, 8, 9, 10, 11, 12, 14, 15, 20, 21, 22] st st115 := hG.tr hG2 (by decide)
            have hFst115 : FM 2 st sl st115 sl116 := hF2
            have hF : FM 7 st sl st115 sl116 := hF.tr hFst115 (by omega) (by omega)
            clear hG2 hF2
            have hR : RN c nm st115 sl116 := hR.fr hFst115
            obtain ⟨rfl, hf117, hf118, hT⟩ := hw
            have hp9 := hT.2.2.2.2.2.2
            have hk1 := tkd_lt (B := B) (g := g) (m := m) (p := p)
            have hk2 := tkx_le (B := B) (g := g) (m := m) (p := p) hp9
            have hk3 := tka_le (B := B) (g := g) (m := m) (p := p) hp9 hB.2.2.1
            have hk4 := tkv_lt (p := p) hB hp9
            have hk5 := tkw_lt (B := B) (g := g) (m := m) (p := p)
            exact W.zret (v := 0) hx hb hr rfl (fun t ht hW => ⟨⟨0, (st115, sl116), rfl, ⟨hG, hF, Or.inr (⟨4, (tka B g m p), rfl, by show st115 0 10 = _; rw [hf117, bdk_n (by have h9 := @tkw_d B g m p; omega)], by show st115 0 11 = _; rw [hf118], by omega, bLn_4 hf3 hf33 (kn_nd (knw_t (n := c 2) (i := n37) (show n37 < c 2 by omega) (hR0.kn (a := 2) (by decide) (show n37 < c 2 by omega) (tkc_V (m := m) (by omega) hB1 (by omega)) (hf39.trans (hT0.2.2.2.2.2.1 (by omega)))))) (by omega)⟩)⟩, mB.of ht hP⟩, hS.F ht⟩) hS.2.2 dX12_readBookLine_95
        · refine lv_istore_n (lv' := [(3, .int (nI n84)), (2, .int (nI n37)), (1, .int 0), (0, .ref (ar 0))]) hx hb dX12_readBookLine_64 rfl hl (by decide) rfl (fun ls hl => ?_)
          refine lv_iload_n hx hb dX12_readBookLine_65 rfl (lv_at hl 1 rfl) ?_
          refine lv_iconst (v := (-1)) hx hb dX12_readBookLine_66 (by decide) ?_
          refine lv_icmp_ne (tgt := 81) hx hb dX12_readBookLine_67 (by decide) (fun _ => ?_) (fun cc => absurd cc (nI_nem (by omega)))
          refine lv_aload_n hx hb dX12_readBookLine_81 rfl (lv_at hl 3 rfl) ?_
          refine va_get (D := (dC, dI)) (ci := 11) (v := .int (st 0 40)) (C := RX12) (T := TX12) (N := 47) hx hb hts ii_X12_readBookLine hown hK hP 0 rfl rfl 40 (by decide) (hts _ mm_X12_readBookLine_4) (fun _ hh => hh) rfl dX12_readBookLine_82 ?_
          refine zz_top (v := (nI gl)) (by show st 0 40 = _; rw [h40]) ?_
          refine lv_bipush (v := 40) hx hb dX12_readBookLine_85 (by decide) ?_
          refine lv_icmp_ne (tgt := 96) hx hb dX12_readBookLine_87 (by decide) (fun c32 => ?_) (fun c32 => ?_)
          · have c32 : ¬ gl = 40 := fun hh => c32 ((nI_eq (a := gl) (b := 40) (by omega) (by omega)).mpr hh)
            refine lv_iconst (v := 5) hx hb dX12_readBookLine_96 (by decide) ?_
            refine lv_aload_n hx hb dX12_readBookLine_97 rfl (lv_at hl 3 rfl) ?_
            refine va_get (D := (dC, dI)) (ci := 11) (v := .int (st 0 40)) (C := RX12) (T := TX12) (N := 47) hx hb hts ii_X12_readBookLine hown hK hP 0 rfl rfl 40 (by decide) (hts _ mm_X12_readBookLine_4) (fun _ hh => hh) rfl dX12_readBookLine_98 ?_
            refine zz_top (v := (nI gl)) (by show st 0 40 = _; rw [h40]) ?_
            refine lv_imul hx hb dX12_readBookLine_101 ?_
            refine zz_top (v := nI (5 * gl)) (nI_mul 5 gl) ?_
            refine lv_istore (lv' := [(4, .int (nI (5 * gl))), (3, .int (nI n84)), (2, .int (nI n37)), (1, .int 0), (0, .ref (ar 0))]) hx hb dX12_readBookLine_102 hl (by decide) rfl (fun ls hl => ?_)
            refine lv_iload_n hx hb dX12_readBookLine_104 rfl (lv_at hl 3 rfl) ?_
            refine lv_if_eq (tgt := 130) hx hb dX12_readBookLine_105 (by decide) (fun _ => ?_) (fun cc => absurd (by decide) cc)
            refine lv_aload_n hx hb dX12_readBookLine_130 rfl (lv_at hl 4 rfl) ?_
            refine va_get (D := (dC, dI)) (ci := 11) (v := .ref (ar 14)) (C := RX12) (T := TX12) (N := 47) hx hb hts ii_X12_readBookLine hown hK hP 0 rfl rfl 38 (by decide) (hts _ mm_X12_readBookLine_5) (fun _ hh => hh) rfl dX12_readBookLine_131 ?_
            refine lv_iload hx hb dX12_readBookLine_134 (lv_at hl 0 rfl) ?_
            refine lv_iconst (v := 1) hx hb dX12_readBookLine_136 (by decide) ?_
            refine lv_iadd hx hb dX12_readBookLine_137 ?_
            refine zz_top (v := nI ((5 * gl) + 1)) (nI_add (5 * gl) 1) ?_
            refine lv_iload_n hx hb dX12_readBookLine_138 rfl (lv_at hl 2 rfl) ?_
            refine lv_iconst (v := (-1)) hx hb dX12_readBookLine_139 (by decide) ?_
            refine lv_icmp_ne (tgt := 147) hx hb dX12_readBookLine_140 (by decide) (fun _ => ?_) (fun cc => absurd cc (nI_nem (by omega)))
            refine lv_iload_n hx hb dX12_readBookLine_147 rfl (lv_at hl 2 rfl) ?_
            refine va_iast hx hb hK hP (mD hN _ _ _ _) hS 14 13 rfl rfl (i := (nI ((5 * gl) + 1))) (vp_in_nI (by omega) (by decide)) dX12_readBookLine_148 (fun H locs hP _ hS => ?_)
            rw [nI_clamp (by omega)] at hP
            have hP : va_P (dC, dI) vwCl (mw ar cy (up2 st 14 ((5 * gl) + 1) (nI n37)) sl) H := hP
            obtain ⟨st119, est119⟩ : ∃ y, y = up2 st 14 ((5 * gl) + 1) (nI n37) := ⟨_, rfl⟩
            have hG : MG [1, 2, 3, 6, 7, 8, 9, 10, 11, 12, 14, 15, 20, 21, 22] st st119 := by rw [est119]; exact hG.up (rz (mr_14_1_197 ((5 * gl) + 1) (by omega) (by omega))) (pn (pcl_14_1_197 ((5 * gl) + 1) (by omega) (by omega)) (by decide))
            rw [← est119] at hP
            have hF : FM 7 st sl st119 sl := by rw [est119]; exact hF.up (dm_ln _)
            have hT : TM B g m p st119 sl := by rw [est119]; exact hT.up (by omega)
            have hR : RN c nm st119 sl := by rw [est119]; exact hR.up (by omega)
            refine lv_aload_n hx hb dX12_readBookLine_149 rfl (lv_at hl 4 rfl) ?_
            refine va_callv (va_runV (As := []) (rest := []) ⟨hx, hb, hml, hown, hts⟩ (f_go l dC dI ar cy _ hN st119 sl B g m (tkx B g m p) hG.1 (MBt.fr hB hF) hT.1 hk2.2) (cwV 0 hts gX12_readBookLine_X12_go rfl rfl rfl (by decide +kernel) ⟨Nat.le_of_ble_eq_true rfl, Nat.le_of_ble_eq_true rfl⟩) ⟨fun a U g mk q => ⟨q.1, mPre.blind q.2⟩, va_recv hK hP (ci := 11) (q0 := 0) rfl rfl, fun U hU hW => ⟨rfl, mPre.of hP hK hU hW⟩⟩ rfl rfl hl.1 rfl (lv_room (Nat.le_of_ble_eq_true rfl)) dX12_readBookLine_150 ⟨Nat.le_of_ble_eq_true rfl, Nat.le_of_ble_eq_true rfl⟩) hS (fun q _ h => MA.le hS.1 q h) (MA.le hS.1) (fun x t H locs ht hvm hw hB9 _ _ hS => ?_)
            have hP := mB.at ht hB9
            clear hB9 ht hvm
            obtain ⟨st121, sl122⟩ := x
            obtain ⟨hG2, hF2, hw⟩ := hw
            dsimp only at hG2 hF2 hw
            have hP : va_P (dC, dI) vwCl (mw ar cy st121 sl122) _ := hP
            have hG : MG [1, 2, 3, 6, 7, 8, 9, 10, 11, 12, 14, 15, 20, 21, 22] st st121 := hG.tr hG2 (by decide)
            have hFst121 : FM 1 st119 sl st121 sl122 := hF2
            have hF : FM 7 st sl st121 sl122 := hF.tr hFst121 (by omega) (by omega)
            clear hG2 hF2
            have hR : RN c nm st121 sl122 := hR.fr hFst121
            have hT := hw
            have hp9 := hT.2.2.2.2.2.2
            have hk1 := tkd_lt (B := B) (g := g) (m := m) (p := (tkx B g m p))
            have hk2 := tkx_le (B := B) (g := g) (m := m) (p := (tkx B g m p)) hp9
            have hk3 := tka_le (B := B) (g := g) (m := m) (p := (tkx B g m p)) hp9 hB.2.2.1
            have hk4 := tkv_lt (p := (tkx B g m p)) hB hp9
            have hk5 := tkw_lt (B := B) (g := g) (m := m) (p := (tkx B g m p))
            refine lv_iload_n hx hb dX12_readBookLine_153 rfl (lv_at hl 2 rfl) ?_
            refine lv_iconst (v := (-1)) hx hb dX12_readBookLine_154 (by decide) ?_
            refine lv_icmp_ne (tgt := 170) hx hb dX12_readBookLine_155 (by decide) (fun _ => ?_) (fun cc => absurd cc (nI_nem (by omega)))
            refine lv_aload_n hx hb dX12_readBookLine_170 rfl (lv_at hl 4 rfl) ?_
            refine lv_iload hx hb dX12_readBookLine_171 (lv_at hl 0 rfl) ?_
            refine va_calli (va_runV (As := [.int (nI (5 * gl))]) (rest := []) ⟨hx, hb, hml, hown, hts⟩ (f_readDogDoes l dC dI ar cy _ hN st121 sl122 (5 * gl) B g m (tkx B g m p) c nm (by omega) hG.1 (MBt.fr hB hF) hT hR) (cwV 1 hts gX12_readBookLine_X12_readDogDoes rfl rfl rfl (by decide +kernel) ⟨Nat.le_of_ble_eq_true rfl, Nat.le_of_ble_eq_true rfl⟩) ⟨fun a U g mk q => ⟨q.1, mPre.blind q.2⟩, va_recv hK hP (ci := 11) (q0 := 0) rfl rfl, fun U hU hW => ⟨rfl, mPre.of hP hK hU hW⟩⟩ rfl rfl hl.1 rfl (lv_room (Nat.le_of_ble_eq_true rfl)) dX12_readBookLine_173 ⟨Nat.le_of_ble_eq_true rfl, Nat.le_of_ble_eq_true rfl⟩) hS (fun q _ h => MA.le hS.1 q h) (MA.le hS.1) (fun r123 x t H locs ht hvm hw hB9 _ _ hS => ?_)
            have hP := mB.at ht hB9
            clear hB9 ht hvm
            obtain ⟨st124, sl125⟩ := x
            obtain ⟨hG2, hF2, hw⟩ := hw
            dsimp only at hG2 hF2 hw
            have hP : va_P (dC, dI) vwCl (mw ar cy st124 sl125) _ := hP
            have hG : MG [1, 2, 3, 6, 7, 8, 9, 10, 11, 12, 14, 15, 20, 21, 22] st st124 := hG.tr hG2 (by decide)
            have hFst124 : FM 7 st121 sl122 st124 sl125 := hF2
            have hF : FM 7 st sl st124 sl125 := hF.tr hFst124 (by omega) (by omega)
            clear hG2 hF2
            have hR : RN c nm st124 sl125 := hR.fr hFst124
            rcases hw with ⟨n126, rfl, hT, hf127, hk128⟩ | ⟨n129, n130, rfl, hf131, hf132, hf133, hf134⟩
            · have hp9 := hT.2.2.2.2.2.2
              have hk1 := tkd_lt (B := B) (g := g) (m := m) (p := n126)
              have hk2 := tkx_le (B := B) (g := g) (m := m) (p := n126) hp9
              have hk3 := tka_le (B := B) (g := g) (m := m) (p := n126) hp9 hB.2.2.1
              have hk4 := tkv_lt (p := n126) hB hp9
              have hk5 := tkw_lt (B := B) (g := g) (m := m) (p := n126)
              refine lv_if_eq (tgt := 190) hx hb dX12_readBookLine_176 (by decide) (fun cc => absurd cc (by decide)) (fun _ => ?_)
              refine lv_aload_n hx hb dX12_readBookLine_179 rfl (lv_at hl 4 rfl) ?_
              refine va_calli (va_runV (As := []) (rest := []) ⟨hx, hb, hml, hown, hts⟩ (f_readEnd l dC dI ar cy _ hN st124 sl125 B g m n126 hG.1 (MBt.fr hB hF) hT) (cwV 0 hts gX12_readBookLine_X12_readEnd rfl rfl rfl (by decide +kernel) ⟨Nat.le_of_ble_eq_true rfl, Nat.le_of_ble_eq_true rfl⟩) ⟨fun a U g mk q => ⟨q.1, mPre.blind q.2⟩, va_recv hK hP (ci := 11) (q0 := 0) rfl rfl, fun U hU hW => ⟨rfl, mPre.of hP hK hU hW⟩⟩ rfl rfl hl.1 rfl (lv_room (Nat.le_of_ble_eq_true rfl)) dX12_readBookLine_180 ⟨Nat.le_of_ble_eq_true rfl, Nat.le_of_ble_eq_true rfl⟩) hS (fun q _ h => MA.le hS.1 q h) (MA.le hS.1) (fun r135 x t H locs ht hvm hw hB9 _ _ hS => ?_)
              have hP := mB.at ht hB9
              clear hB9 ht hvm
              obtain ⟨st136, sl137⟩ := x
              obtain ⟨hG2, hF2, hw⟩ := hw
              dsimp only at hG2 hF2 hw
              have hP : va_P (dC, dI) vwCl (mw ar cy st136 sl137) _ := hP
              have hG : MG [1, 2, 3, 6, 7, 8, 9, 10, 11, 12, 14, 15, 20, 21, 22] st st136 := hG.tr hG2 (by decide)
              have hFst136 : FM 2 st124 sl125 st136 sl137 := hF2
              have hF : FM 7 st sl st136 sl137 := hF.tr hFst136 (by omega) (by omega)
              clear hG2 hF2
              have hR : RN c nm st136 sl137 := hR.fr hFst136
              rcases hw with ⟨rfl, hT, hf138, hk139⟩ | ⟨n140, n141, rfl, hf142, hf143, hf144, hf145⟩
              · have hp9 := hT.2.2.2.2.2.2
                have hk1 := tkd_lt (B := B) (g := g) (m := m) (p := (tkx B g m n126))
                have hk2 := tkx_le (B := B) (g := g) (m := m) (p := (tkx B g m n126)) hp9
                have hk3 := tka_le (B := B) (g := g) (m := m) (p := (tkx B g m n126)) hp9 hB.2.2.1
                have hk4 := tkv_lt (p := (tkx B g m n126)) hB hp9
                have hk5 := tkw_lt (B := B) (g := g) (m := m) (p := (tkx B g m n126))
                refine lv_if_eq (tgt := 190) hx hb dX12_readBookLine_183 (by decide) (fun cc => absurd cc (by decide)) (fun _ => ?_)
                refine lv_iconst (v := 1) hx hb dX12_readBookLine_186 (by decide) ?_
                refine lv_goto (tgt := 191) hx hb dX12_readBookLine_187 (by decide) ?_
                exact W.zret (v := 1) hx hb hr rfl (fun t ht hW => ⟨⟨1, (st136, sl137), rfl, ⟨hG, hF, Or.inl (⟨(tkx B g m n126), rfl, hT, (bLn_d hf3 hf33 (knw_t (n := c 2) (i := n37) (show n37 < c 2 by omega) (hR0.kn (a := 2) (by decide) (show n37 < c 2 by omega) (tkc_V (m := m) (by omega) hB1 (by omega)) (hf39.trans (hT0.2.2.2.2.2.1 (by omega))))) (by omega)).trans (en_y hf127 hf138), by show st136 0 10 = st 0 10; rw [hk139, hk128, (hFst121 0 10 (by decide)).1, est119, up2_ne (r := 14) (k := ((5 * gl) + 1)) (a := 0) (j := 10) _ _ (by omega)]⟩)⟩, mB.of ht hP⟩, hS.F ht⟩) hS.2.2 dX12_readBookLine_191
              · refine lv_if_eq (tgt := 190) hx hb dX12_readBookLine_183 (by decide) (fun _ => ?_) (fun cc => absurd (by decide) cc)
                refine lv_iconst (v := 0) hx hb dX12_readBookLine_190 (by decide) ?_
                exact W.zret (v := 0) hx hb hr rfl (fun t ht hW => ⟨⟨0, (st136, sl137), rfl, ⟨hG, hF, Or.inr (⟨n140, n141, rfl, by show st136 0 10 = _; rw [hf142], by show st136 0 11 = _; rw [hf143], hf144, (bLn_d hf3 hf33 (knw_t (n := c 2) (i := n37) (show n37 < c 2 by omega) (hR0.kn (a := 2) (by decide) (show n37 < c 2 by omega) (tkc_V (m := m) (by omega) hB1 (by omega)) (hf39.trans (hT0.2.2.2.2.2.1 (by omega))))) (by omega)).trans (en_f hf127 hf145 hf144)⟩)⟩, mB.of ht hP⟩, hS.F ht⟩) hS.2.2 dX12_readBookLine_191
            · refine lv_if_eq (tgt := 190) hx hb dX12_readBookLine_176 (by decide) (fun _ => ?_) (fun cc => absurd (by decide) cc)
              refine lv_iconst (v := 0) hx hb dX12_readBookLine_190 (by decide) ?_
              exact W.zret (v := 0) hx hb hr rfl (fun t ht hW => ⟨⟨0, (st124, sl125), rfl, ⟨hG, hF, Or.inr (⟨n129, n130, rfl, by show st124 0 10 = _; rw [hf131], by show st124 0 11 = _; rw [hf132], hf133, (bLn_d hf3 hf33 (knw_t (n := c 2) (i := n37) (show n37 < c 2 by omega) (hR0.kn (a := 2) (by decide) (show n37 < c 2 by omega) (tkc_V (m := m) (by omega) hB1 (by omega)) (hf39.trans (hT0.2.2.2.2.2.1 (by omega))))) (by omega)).trans (bEn_f hf134 hf133)⟩)⟩, mB.of ht hP⟩, hS.F ht⟩) hS.2.2 dX12_readBookLine_191
          · have c32 : gl = 40 := (nI_eq (a := gl) (b := 40) (by omega) (by omega)).mp c32
            refine lv_aload_n hx hb dX12_readBookLine_90 rfl (lv_at hl 3 rfl) ?_
            refine lv_iconst (v := 4) hx hb dX12_readBookLine_91 (by decide) ?_
            refine va_calli (va_runV (As := [.int 4]) (rest := []) ⟨hx, hb, hml, hown, hts⟩ (f_bad l dC dI ar cy _ hN st sl 4 B g m p (by omega) hG.1 (MBt.fr hB hF) hT) (cwV 1 hts gX12_readBookLine_X12_bad rfl rfl rfl (by decide +kernel) ⟨Nat.le_of_ble_eq_true rfl, Nat.le_of_ble_eq_true rfl⟩) ⟨fun a U g mk q => ⟨q.1, mPre.blind q.2⟩, va_recv hK hP (ci := 11) (q0 := 0) rfl rfl, fun U hU hW => ⟨rfl, mPre.of hP hK hU hW⟩⟩ rfl rfl hl.1 rfl (lv_room (Nat.le_of_ble_eq_true rfl)) dX12_readBookLine_92 ⟨Nat.le_of_ble_eq_true rfl, Nat.le_of_ble_eq_true rfl⟩) hS (fun q _ h => MA.le hS.1 q h) (MA.le hS.1) (fun r146 x t H locs ht hvm hw hB9 _ _ hS => ?_)
            have hP := mB.at ht hB9
            clear hB9 ht hvm
            obtain ⟨st147, sl148⟩ := x
            obtain ⟨hG2, hF2, hw⟩ := hw
            dsimp only at hG2 hF2 hw
            have hP : va_P (dC, dI) vwCl (mw ar cy st147 sl148) _ := hP
            have hG : MG [1, 2, 3, 6, 7, 8, 9, 10, 11, 12, 14, 15, 20, 21, 22] st st147 := hG.tr hG2 (by decide)
            have hFst147 : FM 2 st sl st147 sl148 := hF2
            have hF : FM 7 st sl st147 sl148 := hF.tr hFst147 (by omega) (by omega)
            clear hG2 hF2
            have hR : RN c nm st147 sl148 := hR.fr hFst147
            obtain ⟨rfl, hf149, hf150, hT⟩ := hw
            have hp9 := hT.2.2.2.2.2.2
            have hk1 := tkd_lt (B := B) (g := g) (m := m) (p := p)
            have hk2 := tkx_le (B := B) (g := g) (m := m) (p := p) hp9
            have hk3 := tka_le (B := B) (g := g) (m := m) (p := p) hp9 hB.2.2.1
            have hk4 := tkv_lt (p := p) hB hp9
            have hk5 := tkw_lt (B := B) (g := g) (m := m) (p := p)
            exact W.zret (v := 0) hx hb hr rfl (fun t ht hW => ⟨⟨0, (st147, sl148), rfl, ⟨hG, hF, Or.inr (⟨4, (tka B g m p), rfl, by show st147 0 10 = _; rw [hf149, bdk_n (by have h9 := @tkw_d B g m p; omega)], by show st147 0 11 = _; rw [hf150], by omega, bLn_4 hf3 hf33 (kn_nd (knw_t (n := c 2) (i := n37) (show n37 < c 2 by omega) (hR0.kn (a := 2) (by decide) (show n37 < c 2 by omega) (tkc_V (m := m) (by omega) hB1 (by omega)) (hf39.trans (hT0.2.2.2.2.2.1 (by omega)))))) (by omega)⟩)⟩, mB.of ht hP⟩, hS.F ht⟩) hS.2.2 dX12_readBookLine_95
    · refine lv_if_ne (tgt := 26) hx hb dX12_readBookLine_17 (by decide) (fun cc => absurd (by decide) cc) (fun _ => ?_)
      refine lv_aload_n hx hb dX12_readBookLine_20 rfl (lv_at hl 3 rfl) ?_
      refine lv_iconst (v := 1) hx hb dX12_readBookLine_21 (by decide) ?_
      refine va_calli (va_runV (As := [.int 1]) (rest := []) ⟨hx, hb, hml, hown, hts⟩ (f_bad l dC dI ar cy _ hN st sl 1 B g m p (by omega) hG.1 (MBt.fr hB hF) hT) (cwV 1 hts gX12_readBookLine_X12_bad rfl rfl rfl (by decide +kernel) ⟨Nat.le_of_ble_eq_true rfl, Nat.le_of_ble_eq_true rfl⟩) ⟨fun a U g mk q => ⟨q.1, mPre.blind q.2⟩, va_recv hK hP (ci := 11) (q0 := 0) rfl rfl, fun U hU hW => ⟨rfl, mPre.of hP hK hU hW⟩⟩ rfl rfl hl.1 rfl (lv_room (Nat.le_of_ble_eq_true rfl)) dX12_readBookLine_22 ⟨Nat.le_of_ble_eq_true rfl, Nat.le_of_ble_eq_true rfl⟩) hS (fun q _ h => MA.le hS.1 q h) (MA.le hS.1) (fun r151 x t H locs ht hvm hw hB9 _ _ hS => ?_)
      have hP := mB.at ht hB9
      clear hB9 ht hvm
      obtain ⟨st152, sl153⟩ := x
      obtain ⟨hG2, hF2, hw⟩ := hw
      dsimp only at hG2 hF2 hw
      have hP : va_P (dC, dI) vwCl (mw ar cy st152 sl153) _ := hP
      have hG : MG [1, 2, 3, 6, 7, 8, 9, 10, 11, 12, 14, 15, 20, 21, 22] st st152 := hG.tr hG2 (by decide)
      have hFst152 : FM 2 st sl st152 sl153 := hF2
      have hF : FM 7 st sl st152 sl153 := hF.tr hFst152 (by omega) (by omega)
      clear hG2 hF2
      have hR : RN c nm st152 sl153 := hR.fr hFst152
      obtain ⟨rfl, hf154, hf155, hT⟩ := hw
      have hp9 := hT.2.2.2.2.2.2
      have hk1 := tkd_lt (B := B) (g := g) (m := m) (p := p)
      have hk2 := tkx_le (B := B) (g := g) (m := m) (p := p) hp9
      have hk3 := tka_le (B := B) (g := g) (m := m) (p := p) hp9 hB.2.2.1
      have hk4 := tkv_lt (p := p) hB hp9
      have hk5 := tkw_lt (B := B) (g := g) (m := m) (p := p)
      exact W.zret (v := 0) hx hb hr rfl (fun t ht hW => ⟨⟨0, (st152, sl153), rfl, ⟨hG, hF, Or.inr (⟨1, (tka B g m p), rfl, by show st152 0 10 = _; rw [hf154, bdk_1], by show st152 0 11 = _; rw [hf155], by omega, bLn_1 hf3 hf34⟩)⟩, mB.of ht hP⟩, hS.F ht⟩) hS.2.2 dX12_readBookLine_25
