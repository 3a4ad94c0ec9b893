set_option maxHeartbeats 4000000 in
set_option maxRecDepth 100000 in
theorem y_readCond_8 (l : Launch) (dC : Nat → ClassId) (dI : Nat → Nat → Nat) (ad : Nat → Nat) (E : EP) (hEE : EC ad E) (A : Nat → Nat) (C : Nat → ClassId) (nb sz : Nat) (hN : XN A) (st : Nat → Nat → Int32) (sl : Nat → Nat → Int64) (so : Nat → XR) (B : Nat → Nat) (g m : Nat) (p : Nat) (c : Nat → Nat) (nm : Nat → Nat → Nat) (go : Nat) (hI : XI st) (hOI : OI ad so) (hB : CBt B g m st) (hT : TC B g m p ad st sl so) (hR : CN c nm st sl 0) (h4 : st (20 + 4 * 1) 4 = nI go) (hgo : go ≤ 20) : Met l yX7_readCond wsX7_readCond ({ frames := 9, cells := 0, slots := 0, locals := 203 }) (va_Pc [.ref (A (20 + 4 * 1)), .ref (A 1), .ref (A (36 + 20 * 0)), .int 8] (xPre E dC dI A C nb sz st sl so)) (va_Qi (fun (r : Int32) (x : XT) => XG [1, 2, 3, 4, 5, 6, 7, 12, 13, 14, 15] st x.1 ∧ OG ad [2, 4] so x.2.2 ∧ FX 5 st sl so x.1 x.2.1 x.2.2 ∧ ((∃ q : Nat, ∃ o1 : Nat, r = 1 ∧ TC B g m q ad x.1 x.2.1 x.2.2 ∧ x.1 1 13 = st 1 13 ∧ x.1 (20 + 4 * 1) 4 = nI o1 ∧ go + 1 ≤ o1 ∧ o1 ≤ 20 ∧ sCond B g m (sOne B g m c nm 1) p go = (0, q, o1)) ∨ (∃ f : Nat, ∃ a : Nat, r = 0 ∧ x.1 1 13 = nI f ∧ x.1 1 14 = nI a ∧ (1 ≤ f ∧ f < 9) ∧ sCond B g m (sOne B g m c nm 1) p go = sf f a))) (xB dC dI A C nb) (XA A sz)) 0 0 (XA A sz) := by
  refine Met.ofW (cc := cX7_readCond) (maxL := 7) (ret := (some .boolean)) (by decide) rfl ?_
  intro p9 e s m9 args below meth c9 s₁ B9 hml hv
  obtain ⟨rfl, hsz, hP, hK, hE⟩ := hv
  have hx := B9.exec
  have hb := B9.bytes
  have hr := B9.returns
  have hts := atoms_spec (ws := wsX7_readCond) B9.pre
  have hown : s.vm.findClass RX7 = some m9.cls := findClass_of_methodNamed B9.named
  subst hsz
  have hEv := hEE.1 _ _ _ hE
  have hS : va_S (XA A s.heap.size) s.heap s.heap [] := va_S.rf
  have hG : XG [1, 2, 3, 4, 5, 6, 7, 12, 13, 14, 15] st st := XG.rf hI
  have hO : OG ad [2, 4] so so := OG.rf hOI
  have hl := lv_entry ([.ref (A (20 + 4 * 1)), .ref (A 1), .ref (A (36 + 20 * 0)), .int 8]) (n := 7) (Nat.le_of_ble_eq_true rfl)
  rw [lg_entry_eq]
  generalize (lg_sl ([.ref (A (20 + 4 * 1)), .ref (A 1), .ref (A (36 + 20 * 0)), .int 8]) ++ List.replicate (7 - (lg_sl ([.ref (A (20 + 4 * 1)), .ref (A 1), .ref (A (36 + 20 * 0)), .int 8])).length) Slot.unset).toArray = ls at hl ⊢
  have hl : lv_has ls 7 [(0, .ref (A (20 + 4 * 1))), (1, .ref (A 1)), (2, .ref (A (36 + 20 * 0))), (3, .int 8)] := hl
  have hB1 := hB.2.2.1
  have hB2 := hB.2.2.2.1
  have hF : FX 5 st sl so st sl so := FX.rf
  have hp9 := hT.2.2.2.2.2.2
  have hk1 := tkd_lt (B := B) (g := g) (m := m) (p := p)
  have hk2 := tkx_le (B := B) (g := g) (m := m) (p := p) hp9
  have hk3 := tka_le (B := B) (g := g) (m := m) (p := p) hp9 hB.2.2.1
  have hk4 := tkv_ltc (p := p) hB hp9
  have hk5 := tkw_lt (B := B) (g := g) (m := m) (p := p)
  have hR9 := hR.2.1
  refine lv_aload_n hx hb dX7_readCond_0 rfl (lv_at hl 0 rfl) ?_
  refine lv_aload_n hx hb dX7_readCond_1 rfl (lv_at hl 1 rfl) ?_
  refine lv_aload_n hx hb dX7_readCond_2 rfl (lv_at hl 2 rfl) ?_
  refine lv_iload_n hx hb dX7_readCond_3 rfl (lv_at hl 3 rfl) ?_
  refine va_calli (va_runV (As := [.ref (A 1), .ref (A (36 + 20 * 0)), .int 8]) (rest := []) ⟨hx, hb, hml, hown, hts⟩ (y_readOne_8 l dC dI ad E hEE A C nb _ hN st sl so B g m p c nm go hG.1 hO.1 (CBt.fr hB hF) hT hR (by rw [h4]) (by omega)) (cwV 3 hts gX7_readCond_X7_readOne rfl rfl rfl (by decide +kernel) ⟨Nat.le_of_ble_eq_true rfl, Nat.le_of_ble_eq_true rfl⟩) ⟨fun a U g mk q => ⟨q.1, xPre.blind hEE q.2⟩, va_recv hK hP (ci := 8) (q0 := (20 + 4 * 1)) rfl (xw_is (r := (20 + 4 * 1)) (by omega) (xc_sn (q := 1) (o := 0) (by omega) (by omega))), fun U hU hW => ⟨rfl, xPre.of hEE hP hK hE hS hU hW⟩⟩ rfl rfl hl.1 rfl (lv_room (Nat.le_of_ble_eq_true rfl)) dX7_readCond_4 ⟨Nat.le_of_ble_eq_true rfl, Nat.le_of_ble_eq_true rfl⟩) hS (fun q _ h => XA.le hS.1 q h) (XA.le hS.1) (fun r1 x t H locs ht hvm hw hB9 _ _ hS => ?_)
  have hP := xB.at ht hB9
  clear hB9 ht hvm
  obtain ⟨st2, sl3, so4⟩ := x
  obtain ⟨hGst2, hOst2, hFst2, hw⟩ := hw
  dsimp only at hGst2 hOst2 hFst2 hw
  have hO : OG ad [2, 4] so so4 := hO.tr hOst2 (by decide)
  have hP : va_P (dC, dI) vwCl (xw A C nb st2 sl3 so4) _ := hP
  have hG : XG [1, 2, 3, 4, 5, 6, 7, 12, 13, 14, 15] st st2 := hG.tr hGst2 (by decide)
  have hF : FX 5 st sl so st2 sl3 so4 := hF.tr hFst2 (by omega) (by omega)
  have hR : CN c nm st2 sl3 0 := hR.fr0 hFst2
  rcases hw with ⟨n5, n6, rfl, hT, hf7, hf8, hf9, hf10, hf11⟩ | ⟨n12, n13, rfl, hf14, hf15, hf16, hf17⟩
  · have hp9 := hT.2.2.2.2.2.2
    have hk1 := tkd_lt (B := B) (g := g) (m := m) (p := n5)
    have hk2 := tkx_le (B := B) (g := g) (m := m) (p := n5) hp9
    have hk3 := tka_le (B := B) (g := g) (m := m) (p := n5) hp9 hB.2.2.1
    have hk4 := tkv_ltc (p := n5) hB hp9
    have hk5 := tkw_lt (B := B) (g := g) (m := m) (p := n5)
    refine lv_istore (lv' := [(4, .int 1), (0, .ref (A (20 + 4 * 1))), (1, .ref (A 1)), (2, .ref (A (36 + 20 * 0))), (3, .int 8)]) hx hb dX7_readCond_7 hl (by decide) rfl (fun ls hl => ?_)
    refine lv_iconst (v := 0) hx hb dX7_readCond_9 (by decide) ?_
    refine lv_istore (lv' := [(5, .int 0), (4, .int 1), (0, .ref (A (20 + 4 * 1))), (1, .ref (A 1)), (2, .ref (A (36 + 20 * 0))), (3, .int 8)]) hx hb dX7_readCond_10 hl (by decide) rfl (fun ls hl => ?_)
    refine lv_iconst (v := 0) hx hb dX7_readCond_12 (by decide) ?_
    refine lv_istore (lv' := [(6, .int 0), (5, .int 0), (4, .int 1), (0, .ref (A (20 + 4 * 1))), (1, .ref (A 1)), (2, .ref (A (36 + 20 * 0))), (3, .int 8)]) hx hb dX7_readCond_13 hl (by decide) rfl (fun ls hl => ?_)
    refine zz_wf (fun n stk H locs ls => ∃ k18 : Nat, ∃ k19 : Nat, ∃ k20 : Nat, ∃ st21 : Nat → Nat → Int32, ∃ sl22 : Nat → Nat → Int64, ∃ so23 : Nat → XR, n = 21 - k18 ∧ 0 ≤ k18 ∧ k18 < 21 ∧ 0 ≤ k19 ∧ k19 < 2 ∧ 0 ≤ k20 ∧ k20 < 2 ∧ (zz_im (k20 = 1) (∃ (p7 o7 : Nat), TC B g m p7 ad st21 sl22 so23 ∧ st21 1 13 = st 1 13 ∧ st21 (20 + 4 * 1) 4 = nI o7 ∧ go + 1 + k18 ≤ o7 ∧ o7 ≤ 20 ∧ sCond B g m (sOne B g m c nm 1) p go = sLoop B g m (sOne B g m c nm 1) 21 p7 o7)) ∧ (zz_im (k20 = 0) (∃ (f7 a7 : Nat), st21 1 13 = nI f7 ∧ st21 1 14 = nI a7 ∧ (1 ≤ f7 ∧ f7 < 9) ∧ sCond B g m (sOne B g m c nm 1) p go = sf f7 a7)) ∧ CN c nm st21 sl22 0 ∧ FX 5 st sl so st21 sl22 so23 ∧ va_P (dC, dI) vwCl (xw A C nb st21 sl22 so23) H ∧ XG [1, 2, 3, 4, 5, 6, 7, 12, 13, 14, 15] st st21 ∧ OG ad [2, 4] so so23 ∧ va_S (XA A s.heap.size) s.heap H locs ∧ lv_has ls 7 [(6, .int (nI k18)), (5, .int (nI k19)), (4, .int (nI k20)), (0, .ref (A (20 + 4 * 1))), (1, .ref (A 1)), (2, .ref (A (36 + 20 * 0))), (3, .int 8)] ∧ stk = []) ?_ (21 - 0) _ _ _ _ ⟨0, 0, 1, st2, sl3, so4, rfl, by omega, by omega, by omega, by omega, by omega, by omega, fun _ => ⟨n5, n6, hT, by show st2 1 13 = st 1 13; rw [hf7], by show st2 (20 + 4 * 1) 4 = _; rw [hf8], by omega, by omega, sC_y hf11⟩, fun h9 => absurd h9 (by decide), hR, hF, hP, hG, hO, hS, lv_sub hl [0, 1, 2, 3, 4, 5, 6] rfl, rfl⟩
    rintro nn stk H locs ls ⟨k18, k19, k20, st21, sl22, so23, hm33, hv24_0, hv25_1, hv26_2, hv27_3, hv28_4, hv29_5, hv30_0, hv31_1, hv32_2, hv33_3, hP, hG, hO, hS, hl, rfl⟩ ih34
    have hF := hv33_3
    have hR := hv32_2
    refine lv_iload hx hb dX7_readCond_15 (lv_at hl 0 rfl) ?_
    refine lv_bipush (v := 20) hx hb dX7_readCond_17 (by decide) ?_
    refine lv_icmp_ge (tgt := 108) hx hb dX7_readCond_19 (by decide) (fun c1 => ?_) (fun c1 => ?_)
    · have c1 : 20 ≤ k18 := (nI_leI (a := 20) (b := k18) (by omega) (by omega)).mp c1
      have hz4 : k20 = 0 := by
        by_cases h9 : k20 = 1
        · obtain ⟨p7, o7, -, -, -, hoa, hob, -⟩ := hv30_0 h9; omega
        · omega
      have hg35 : k20 = 0 := by omega
      have hl : lv_has ls 7 [(6, .int (nI k18)), (5, .int (nI k19)), (4, .int 0), (0, .ref (A (20 + 4 * 1))), (1, .ref (A 1)), (2, .ref (A (36 + 20 * 0))), (3, .int 8)] := by rw [hg35] at hl; exact hl
      obtain ⟨f7, a7, h13, h14, hfa, hco⟩ := hv31_1 hz4
      refine lv_iload hx hb dX7_readCond_108 (lv_at hl 1 rfl) ?_
      refine lv_if_eq (tgt := 122) hx hb dX7_readCond_110 (by decide) (fun c2 => ?_) (fun c2 => ?_)
      · have c2 : k19 = 0 := (nI_eq (a := k19) (b := 0) (by omega) (by omega)).mp c2
        refine lv_iload hx hb dX7_readCond_122 (lv_at hl 2 rfl) ?_
        refine lv_if_eq (tgt := 146) hx hb dX7_readCond_124 (by decide) (fun _ => ?_) (fun cc => absurd (by decide) cc)
        refine lv_iload hx hb dX7_readCond_146 (lv_at hl 2 rfl) ?_
        exact W.zret (v := 0) hx hb hr rfl (fun t ht hW => ⟨⟨0, (st21, sl22, so23), rfl, ⟨hG, hO, hF, Or.inr (⟨f7, a7, rfl, by show st21 1 13 = _; rw [h13], by show st21 1 14 = _; rw [h14], hfa, hco⟩)⟩, xB.of ht hP⟩, hS.F ht⟩) hS.2.2 dX7_readCond_148
      · have c2 : ¬ k19 = 0 := fun hh => c2 ((nI_eq (a := k19) (b := 0) (by omega) (by omega)).mpr hh)
        refine lv_aload_n hx hb dX7_readCond_113 rfl (lv_at hl 3 rfl) ?_
        refine va_gets (v := .ref (ad 13)) hx hb (EV.word hEv (i := 13) (by decide)) hS hown (hts _ mm_X7_readCond_2) (fun _ hh => hh) dX7_readCond_114 ?_
        refine lv_iconst (v := 0) hx hb dX7_readCond_117 (by decide) ?_
        refine lv_iconst (v := 0) hx hb dX7_readCond_118 (by decide) ?_
        refine va_callv (va_runV (As := [.ref (ad 13), .int 0, .int 0]) (rest := []) ⟨hx, hb, hml, hown, hts⟩ (y_addN l dC dI ad E hEE A C nb _ hN st21 sl22 so23 13 0 0 (by omega) hG.1 hO.1 ) (cwV 3 hts gX7_readCond_X7_add rfl rfl rfl (by decide +kernel) ⟨Nat.le_of_ble_eq_true rfl, Nat.le_of_ble_eq_true rfl⟩) ⟨fun a U g mk q => ⟨q.1, xPre.blind hEE q.2⟩, va_recv hK hP (ci := 8) (q0 := (20 + 4 * 1)) rfl (xw_is (r := (20 + 4 * 1)) (by omega) (xc_sn (q := 1) (o := 0) (by omega) (by omega))), fun U hU hW => ⟨rfl, xPre.of hEE hP hK hE hS hU hW⟩⟩ rfl rfl hl.1 rfl (lv_room (Nat.le_of_ble_eq_true rfl)) dX7_readCond_119 ⟨Nat.le_of_ble_eq_true rfl, Nat.le_of_ble_eq_true rfl⟩) hS (fun q _ h => XA.le hS.1 q h) (XA.le hS.1) (fun x t H locs ht hvm hw hB9 _ _ hS => ?_)
        have hP := xB.at ht hB9
        clear hB9 ht hvm
        obtain ⟨st37, sl38, so39⟩ := x
        obtain ⟨hGst37, hOst37, hFst37, hw⟩ := hw
        dsimp only at hGst37 hOst37 hFst37 hw
        have hO : OG ad [2, 4] so so39 := hO.tr hOst37 (by decide)
        have hP : va_P (dC, dI) vwCl (xw A C nb st37 sl38 so39) _ := hP
        have hG : XG [1, 2, 3, 4, 5, 6, 7, 12, 13, 14, 15] st st37 := hG.tr hGst37 (by decide)
        have hF : FX 5 st sl so st37 sl38 so39 := hF.tr hFst37 (by omega) (by omega)
        have hR : CN c nm st37 sl38 0 := hR.fr0 hFst37
        obtain ⟨hf40, hf41, hf42⟩ := hw
        refine lv_iload hx hb dX7_readCond_122 (lv_at hl 2 rfl) ?_
        refine lv_if_eq (tgt := 146) hx hb dX7_readCond_124 (by decide) (fun _ => ?_) (fun cc => absurd (by decide) cc)
        refine lv_iload hx hb dX7_readCond_146 (lv_at hl 2 rfl) ?_
        exact W.zret (v := 0) hx hb hr rfl (fun t ht hW => ⟨⟨0, (st37, sl38, so39), rfl, ⟨hG, hO, hF, Or.inr (⟨f7, a7, rfl, by show st37 1 13 = _; rw [hf40, h13], by show st37 1 14 = _; rw [hf41, h14], hfa, hco⟩)⟩, xB.of ht hP⟩, hS.F ht⟩) hS.2.2 dX7_readCond_148
    · have c1 : ¬ 20 ≤ k18 := fun hh => c1 ((nI_leI (a := 20) (b := k18) (by omega) (by omega)).mpr hh)
      refine lv_iload hx hb dX7_readCond_22 (lv_at hl 2 rfl) ?_
      refine lv_if_eq (tgt := 108) hx hb dX7_readCond_24 (by decide) (fun c5 => ?_) (fun c5 => ?_)
      · have c5 : k20 = 0 := (nI_eq (a := k20) (b := 0) (by omega) (by omega)).mp c5
        have hz4 : k20 = 0 := by
          by_cases h9 : k20 = 1
          · obtain ⟨p7, o7, -, -, -, hoa, hob, -⟩ := hv30_0 h9; omega
          · omega
        have hg43 : k20 = 0 := by omega
        have hl : lv_has ls 7 [(6, .int (nI k18)), (5, .int (nI k19)), (4, .int 0), (0, .ref (A (20 + 4 * 1))), (1, .ref (A 1)), (2, .ref (A (36 + 20 * 0))), (3, .int 8)] := by rw [hg43] at hl; exact hl
        obtain ⟨f7, a7, h13, h14, hfa, hco⟩ := hv31_1 hz4
        refine lv_iload hx hb dX7_readCond_108 (lv_at hl 1 rfl) ?_
        refine lv_if_eq (tgt := 122) hx hb dX7_readCond_110 (by decide) (fun c6 => ?_) (fun c6 => ?_)
        · have c6 : k19 = 0 := (nI_eq (a := k19) (b := 0) (by omega) (by omega)).mp c6
          refine lv_iload hx hb dX7_readCond_122 (lv_at hl 2 rfl) ?_
          refine lv_if_eq (tgt := 146) hx hb dX7_readCond_124 (by decide) (fun _ => ?_) (fun cc => absurd (by decide) cc)
          refine lv_iload hx hb dX7_readCond_146 (lv_at hl 2 rfl) ?_
          exact W.zret (v := 0) hx hb hr rfl (fun t ht hW => ⟨⟨0, (st21, sl22, so23), rfl, ⟨hG, hO, hF, Or.inr (⟨f7, a7, rfl, by show st21 1 13 = _; rw [h13], by show st21 1 14 = _; rw [h14], hfa, hco⟩)⟩, xB.of ht hP⟩, hS.F ht⟩) hS.2.2 dX7_readCond_148
        · have c6 : ¬ k19 = 0 := fun hh => c6 ((nI_eq (a := k19) (b := 0) (by omega) (by omega)).mpr hh)
          refine lv_aload_n hx hb dX7_readCond_113 rfl (lv_at hl 3 rfl) ?_
          refine va_gets (v := .ref (ad 13)) hx hb (EV.word hEv (i := 13) (by decide)) hS hown (hts _ mm_X7_readCond_2) (fun _ hh => hh) dX7_readCond_114 ?_
          refine lv_iconst (v := 0) hx hb dX7_readCond_117 (by decide) ?_
          refine lv_iconst (v := 0) hx hb dX7_readCond_118 (by decide) ?_
          refine va_callv (va_runV (As := [.ref (ad 13), .int 0, .int 0]) (rest := []) ⟨hx, hb, hml, hown, hts⟩ (y_addN l dC dI ad E hEE A C nb _ hN st21 sl22 so23 13 0 0 (by omega) hG.1 hO.1 ) (cwV 3 hts gX7_readCond_X7_add rfl rfl rfl (by decide +kernel) ⟨Nat.le_of_ble_eq_true rfl, Nat.le_of_ble_eq_true rfl⟩) ⟨fun a U g mk q => ⟨q.1, xPre.blind hEE q.2⟩, va_recv hK hP (ci := 8) (q0 := (20 + 4 * 1)) rfl (xw_is (r := (20 + 4 * 1)) (by omega) (xc_sn (q := 1) (o := 0) (by omega) (by omega))), fun U hU hW => ⟨rfl, xPre.of hEE hP hK hE hS hU hW⟩⟩ rfl rfl hl.1 rfl (lv_room (Nat.le_of_ble_eq_true rfl)) dX7_readCond_119 ⟨Nat.le_of_ble_eq_true rfl, Nat.le_of_ble_eq_true rfl⟩) hS (fun q _ h => XA.le hS.1 q h) (XA.le hS.1) (fun x t H locs ht hvm hw hB9 _ _ hS => ?_)
          have hP := xB.at ht hB9
          clear hB9 ht hvm
          obtain ⟨st45, sl46, so47⟩ := x
          obtain ⟨hGst45, hOst45, hFst45, hw⟩ := hw
          dsimp only at hGst45 hOst45 hFst45 hw
          have hO : OG ad [2, 4] so so47 := hO.tr hOst45 (by decide)
          have hP : va_P (dC, dI) vwCl (xw A C nb st45 sl46 so47) _ := hP
          have hG : XG [1, 2, 3, 4, 5, 6, 7, 12, 13, 14, 15] st st45 := hG.tr hGst45 (by decide)
          have hF : FX 5 st sl so st45 sl46 so47 := hF.tr hFst45 (by omega) (by omega)
          have hR : CN c nm st45 sl46 0 := hR.fr0 hFst45
          obtain ⟨hf48, hf49, hf50⟩ := hw
          refine lv_iload hx hb dX7_readCond_122 (lv_at hl 2 rfl) ?_
          refine lv_if_eq (tgt := 146) hx hb dX7_readCond_124 (by decide) (fun _ => ?_) (fun cc => absurd (by decide) cc)
          refine lv_iload hx hb dX7_readCond_146 (lv_at hl 2 rfl) ?_
          exact W.zret (v := 0) hx hb hr rfl (fun t ht hW => ⟨⟨0, (st45, sl46, so47), rfl, ⟨hG, hO, hF, Or.inr (⟨f7, a7, rfl, by show st45 1 13 = _; rw [hf48, h13], by show st45 1 14 = _; rw [hf49, h14], hfa, hco⟩)⟩, xB.of ht hP⟩, hS.F ht⟩) hS.2.2 dX7_readCond_148
      · have c5 : ¬ k20 = 0 := fun hh => c5 ((nI_eq (a := k20) (b := 0) (by omega) (by omega)).mpr hh)
        obtain ⟨p7, o7, hT, h13, ho7, hoa, hob, hco⟩ := hv30_0 (by omega)
        have hp9 := hT.2.2.2.2.2.2
        have hk1 := tkd_lt (B := B) (g := g) (m := m) (p := p7)
        have hk2 := tkx_le (B := B) (g := g) (m := m) (p := p7) hp9
        have hk3 := tka_le (B := B) (g := g) (m := m) (p := p7) hp9 hB.2.2.1
        have hk4 := tkv_ltc (p := p7) hB hp9
        have hk5 := tkw_lt (B := B) (g := g) (m := m) (p := p7)
        have hg51 : k20 = 1 := by omega
        have hl : lv_has ls 7 [(6, .int (nI k18)), (5, .int (nI k19)), (4, .int 1), (0, .ref (A (20 + 4 * 1))), (1, .ref (A 1)), (2, .ref (A (36 + 20 * 0))), (3, .int 8)] := by rw [hg51] at hl; exact hl
        refine lv_aload_n hx hb dX7_readCond_27 rfl (lv_at hl 4 rfl) ?_
        refine va_getN (host := "OffTheLead") (D := (dC, dI)) (ci := 9) (v := va_rf (so23 1 7)) (C := RX8) (T := TX8) (N := 15) hx hb hts ii_X7_readCond_X8 hown hK hP 1 (xw_is (r := 1) (by omega) (xc_fix (r := 1) (by omega))) rfl 7 (by decide) (va_Nw.use rfl (nf_X7_35 hEv)) (fun _ hh => hh) rfl dX7_readCond_28 ?_
        refine zz_topq (r := some (ad (tkw B g m p7))) (by rw [hT.2.2.2.2.2.1]) ?_
        refine va_gets (v := .ref (ad 14)) hx hb (EV.word hEv (i := 14) (by decide)) hS hown (hts _ mm_X7_readCond_1) (fun _ hh => hh) dX7_readCond_31 ?_
        refine lv_acmp_ne (rx := (some (ad (tkw B g m p7)))) (ry := (some (ad 14))) (tgt := 62) hx hb dX7_readCond_34 (by decide) (fun c9 => ?_) (fun c9 => ?_)
        · have c9 : ¬ (tkw B g m p7) = 14 := fun hh => c9 ((EV.eqw hEv (i := (tkw B g m p7)) (j := 14) (by omega) (by omega)).mpr hh)
          refine lv_aload_n hx hb dX7_readCond_62 rfl (lv_at hl 4 rfl) ?_
          refine va_getN (host := "OffTheLead") (D := (dC, dI)) (ci := 9) (v := va_rf (so23 1 7)) (C := RX8) (T := TX8) (N := 15) hx hb hts ii_X7_readCond_X8 hown hK hP 1 (xw_is (r := 1) (by omega) (xc_fix (r := 1) (by omega))) rfl 7 (by decide) (va_Nw.use rfl (nf_X7_35 hEv)) (fun _ hh => hh) rfl dX7_readCond_63 ?_
          refine zz_topq (r := some (ad (tkw B g m p7))) (by rw [hT.2.2.2.2.2.1]) ?_
          refine va_gets (v := .ref (ad 13)) hx hb (EV.word hEv (i := 13) (by decide)) hS hown (hts _ mm_X7_readCond_2) (fun _ hh => hh) dX7_readCond_66 ?_
          refine lv_acmp_ne (rx := (some (ad (tkw B g m p7)))) (ry := (some (ad 13))) (tgt := 108) hx hb dX7_readCond_69 (by decide) (fun c10 => ?_) (fun c10 => ?_)
          · have c10 : ¬ (tkw B g m p7) = 13 := fun hh => c10 ((EV.eqw hEv (i := (tkw B g m p7)) (j := 13) (by omega) (by omega)).mpr hh)
            refine lv_iload hx hb dX7_readCond_108 (lv_at hl 1 rfl) ?_
            refine lv_if_eq (tgt := 122) hx hb dX7_readCond_110 (by decide) (fun c11 => ?_) (fun c11 => ?_)
            · have c11 : k19 = 0 := (nI_eq (a := k19) (b := 0) (by omega) (by omega)).mp c11
              refine lv_iload hx hb dX7_readCond_122 (lv_at hl 2 rfl) ?_
              refine lv_if_eq (tgt := 146) hx hb dX7_readCond_124 (by decide) (fun cc => absurd cc (by decide)) (fun _ => ?_)
              refine lv_iload_n hx hb dX7_readCond_127 rfl (lv_at hl 6 rfl) ?_
              refine lv_iconst (v := 1) hx hb dX7_readCond_128 (by decide) ?_
              refine lv_icmp_ne (tgt := 146) hx hb dX7_readCond_129 (by decide) (fun _ => ?_) (fun cc => absurd cc (by decide))
              refine lv_iload hx hb dX7_readCond_146 (lv_at hl 2 rfl) ?_
              exact W.zret (v := 1) hx hb hr rfl (fun t ht hW => ⟨⟨1, (st21, sl22, so23), rfl, ⟨hG, hO, hF, Or.inl (⟨p7, o7, rfl, hT, by show st21 1 13 = st 1 13; exact h13, by show st21 (20 + 4 * 1) 4 = _; rw [ho7], by omega, by omega, hco.trans (sL_n (by omega))⟩)⟩, xB.of ht hP⟩, hS.F ht⟩) hS.2.2 dX7_readCond_148
            · have c11 : ¬ k19 = 0 := fun hh => c11 ((nI_eq (a := k19) (b := 0) (by omega) (by omega)).mpr hh)
              refine lv_aload_n hx hb dX7_readCond_113 rfl (lv_at hl 3 rfl) ?_
              refine va_gets (v := .ref (ad 13)) hx hb (EV.word hEv (i := 13) (by decide)) hS hown (hts _ mm_X7_readCond_2) (fun _ hh => hh) dX7_readCond_114 ?_
              refine lv_iconst (v := 0) hx hb dX7_readCond_117 (by decide) ?_
              refine lv_iconst (v := 0) hx hb dX7_readCond_118 (by decide) ?_
              refine va_callv (va_runV (As := [.ref (ad 13), .int 0, .int 0]) (rest := []) ⟨hx, hb, hml, hown, hts⟩ (y_addT l dC dI ad E hEE A C nb _ hN st21 sl22 so23 13 0 0 B g m p7 (by omega) hG.1 hO.1 (CBt.fr hB hF) hT) (cwV 3 hts gX7_readCond_X7_add rfl rfl rfl (by decide +kernel) ⟨Nat.le_of_ble_eq_true rfl, Nat.le_of_ble_eq_true rfl⟩) ⟨fun a U g mk q => ⟨q.1, xPre.blind hEE q.2⟩, va_recv hK hP (ci := 8) (q0 := (20 + 4 * 1)) rfl (xw_is (r := (20 + 4 * 1)) (by omega) (xc_sn (q := 1) (o := 0) (by omega) (by omega))), fun U hU hW => ⟨rfl, xPre.of hEE hP hK hE hS hU hW⟩⟩ rfl rfl hl.1 rfl (lv_room (Nat.le_of_ble_eq_true rfl)) dX7_readCond_119 ⟨Nat.le_of_ble_eq_true rfl, Nat.le_of_ble_eq_true rfl⟩) hS (fun q _ h => XA.le hS.1 q h) (XA.le hS.1) (fun x t H locs ht hvm hw hB9 _ _ hS => ?_)
              have hP := xB.at ht hB9
              clear hB9 ht hvm
              obtain ⟨st53, sl54, so55⟩ := x
              obtain ⟨hGst53, hOst53, hFst53, hw⟩ := hw
              dsimp only at hGst53 hOst53 hFst53 hw
              have hO : OG ad [2, 4] so so55 := hO.tr hOst53 (by decide)
              have hP : va_P (dC, dI) vwCl (xw A C nb st53 sl54 so55) _ := hP
              have hG : XG [1, 2, 3, 4, 5, 6, 7, 12, 13, 14, 15] st st53 := hG.tr hGst53 (by decide)
              have hF : FX 5 st sl so st53 sl54 so55 := hF.tr hFst53 (by omega) (by omega)
              have hR : CN c nm st53 sl54 0 := hR.fr0 hFst53
              obtain ⟨hf56, hf57, hf58, hT⟩ := hw
              have hp9 := hT.2.2.2.2.2.2
              have hk1 := tkd_lt (B := B) (g := g) (m := m) (p := p7)
              have hk2 := tkx_le (B := B) (g := g) (m := m) (p := p7) hp9
              have hk3 := tka_le (B := B) (g := g) (m := m) (p := p7) hp9 hB.2.2.1
              have hk4 := tkv_ltc (p := p7) hB hp9
              have hk5 := tkw_lt (B := B) (g := g) (m := m) (p := p7)
              refine lv_iload hx hb dX7_readCond_122 (lv_at hl 2 rfl) ?_
              refine lv_if_eq (tgt := 146) hx hb dX7_readCond_124 (by decide) (fun cc => absurd cc (by decide)) (fun _ => ?_)
              refine lv_iload_n hx hb dX7_readCond_127 rfl (lv_at hl 6 rfl) ?_
              refine lv_iconst (v := 1) hx hb dX7_readCond_128 (by decide) ?_
              refine lv_icmp_ne (tgt := 146) hx hb dX7_readCond_129 (by decide) (fun _ => ?_) (fun cc => absurd cc (by decide))
              refine lv_iload hx hb dX7_readCond_146 (lv_at hl 2 rfl) ?_
              exact W.zret (v := 1) hx hb hr rfl (fun t ht hW => ⟨⟨1, (st53, sl54, so55), rfl, ⟨hG, hO, hF, Or.inl (⟨p7, o7, rfl, hT, by show st53 1 13 = st 1 13; rw [hf56]; exact h13, by show st53 (20 + 4 * 1) 4 = _; rw [hf58, ho7], by omega, by omega, hco.trans (sL_n (by omega))⟩)⟩, xB.of ht hP⟩, hS.F ht⟩) hS.2.2 dX7_readCond_148
          · have c10 : (tkw B g m p7) = 13 := (EV.eqw hEv (i := (tkw B g m p7)) (j := 13) (by omega) (by omega)).mp c10
            refine lv_iload hx hb dX7_readCond_72 (lv_at hl 1 rfl) ?_
            refine lv_if_eq (tgt := 86) hx hb dX7_readCond_74 (by decide) (fun c16 => ?_) (fun c16 => ?_)
            · have c16 : k19 = 0 := (nI_eq (a := k19) (b := 0) (by omega) (by omega)).mp c16
              refine lv_iconst (v := 1) hx hb dX7_readCond_86 (by decide) ?_
              refine lv_istore (lv' := [(5, .int 1), (6, .int (nI k18)), (4, .int 1), (0, .ref (A (20 + 4 * 1))), (1, .ref (A 1)), (2, .ref (A (36 + 20 * 0))), (3, .int 8)]) hx hb dX7_readCond_87 hl (by decide) rfl (fun ls hl => ?_)
              refine lv_aload_n hx hb dX7_readCond_89 rfl (lv_at hl 4 rfl) ?_
              refine va_callv (va_runV (As := []) (rest := []) ⟨hx, hb, hml, hown, hts⟩ (y_X8_step l dC dI ad E hEE A C nb _ hN st21 sl22 so23 B g m (tkx B g m p7) hG.1 hO.1 (CBt.fr hB hF) hT.1 hk2.2) (cwV 0 hts gX7_readCond_X8_step rfl rfl rfl (by decide +kernel) ⟨Nat.le_of_ble_eq_true rfl, Nat.le_of_ble_eq_true rfl⟩) ⟨fun a U g mk q => ⟨q.1, xPre.blind hEE q.2⟩, va_recv hK hP (ci := 9) (q0 := 1) rfl (xw_is (r := 1) (by omega) (xc_fix (r := 1) (by omega))), fun U hU hW => ⟨rfl, xPre.of hEE hP hK hE hS hU hW⟩⟩ rfl rfl hl.1 rfl (lv_room (Nat.le_of_ble_eq_true rfl)) dX7_readCond_90 ⟨Nat.le_of_ble_eq_true rfl, Nat.le_of_ble_eq_true rfl⟩) hS (fun q _ h => XA.le hS.1 q h) (XA.le hS.1) (fun x t H locs ht hvm hw hB9 _ _ hS => ?_)
              have hP := xB.at ht hB9
              clear hB9 ht hvm
              obtain ⟨st60, sl61, so62⟩ := x
              obtain ⟨hGst60, hOst60, hFst60, hw⟩ := hw
              dsimp only at hGst60 hOst60 hFst60 hw
              have hO : OG ad [2, 4] so so62 := hO.tr hOst60 (by decide)
              have hP : va_P (dC, dI) vwCl (xw A C nb st60 sl61 so62) _ := hP
              have hG : XG [1, 2, 3, 4, 5, 6, 7, 12, 13, 14, 15] st st60 := hG.tr hGst60 (by decide)
              have hF : FX 5 st sl so st60 sl61 so62 := hF.tr hFst60 (by omega) (by omega)
              have hR : CN c nm st60 sl61 0 := hR.fr0 hFst60
              have hT := hw
              have hp9 := hT.2.2.2.2.2.2
              have hk1 := tkd_lt (B := B) (g := g) (m := m) (p := (tkx B g m p7))
              have hk2 := tkx_le (B := B) (g := g) (m := m) (p := (tkx B g m p7)) hp9
              have hk3 := tka_le (B := B) (g := g) (m := m) (p := (tkx B g m p7)) hp9 hB.2.2.1
              have hk4 := tkv_ltc (p := (tkx B g m p7)) hB hp9
              have hk5 := tkw_lt (B := B) (g := g) (m := m) (p := (tkx B g m p7))
              refine lv_aload_n hx hb dX7_readCond_93 rfl (lv_at hl 3 rfl) ?_
              refine lv_aload_n hx hb dX7_readCond_94 rfl (lv_at hl 4 rfl) ?_
              refine lv_aload_n hx hb dX7_readCond_95 rfl (lv_at hl 5 rfl) ?_
              refine lv_iload_n hx hb dX7_readCond_96 rfl (lv_at hl 6 rfl) ?_
              refine va_calli (va_runV (As := [.ref (A 1), .ref (A (36 + 20 * 0)), .int 8]) (rest := []) ⟨hx, hb, hml, hown, hts⟩ (y_readOne_8 l dC dI ad E hEE A C nb _ hN st60 sl61 so62 B g m (tkx B g m p7) c nm o7 hG.1 hO.1 (CBt.fr hB hF) hT hR (by rw [(hFst60 (20 + 4 * 1) 4 (by decide)).1, ho7]) (by omega)) (cwV 3 hts gX7_readCond_X7_readOne rfl rfl rfl (by decide +kernel) ⟨Nat.le_of_ble_eq_true rfl, Nat.le_of_ble_eq_true rfl⟩) ⟨fun a U g mk q => ⟨q.1, xPre.blind hEE q.2⟩, va_recv hK hP (ci := 8) (q0 := (20 + 4 * 1)) rfl (xw_is (r := (20 + 4 * 1)) (by omega) (xc_sn (q := 1) (o := 0) (by omega) (by omega))), fun U hU hW => ⟨rfl, xPre.of hEE hP hK hE hS hU hW⟩⟩ rfl rfl hl.1 rfl (lv_room (Nat.le_of_ble_eq_true rfl)) dX7_readCond_97 ⟨Nat.le_of_ble_eq_true rfl, Nat.le_of_ble_eq_true rfl⟩) hS (fun q _ h => XA.le hS.1 q h) (XA.le hS.1) (fun r63 x t H locs ht hvm hw hB9 _ _ hS => ?_)
              have hP := xB.at ht hB9
              clear hB9 ht hvm
              obtain ⟨st64, sl65, so66⟩ := x
              obtain ⟨hGst64, hOst64, hFst64, hw⟩ := hw
              dsimp only at hGst64 hOst64 hFst64 hw
              have hO : OG ad [2, 4] so so66 := hO.tr hOst64 (by decide)
              have hP : va_P (dC, dI) vwCl (xw A C nb st64 sl65 so66) _ := hP
              have hG : XG [1, 2, 3, 4, 5, 6, 7, 12, 13, 14, 15] st st64 := hG.tr hGst64 (by decide)
              have hF : FX 5 st sl so st64 sl65 so66 := hF.tr hFst64 (by omega) (by omega)
              have hR : CN c nm st64 sl65 0 := hR.fr0 hFst64
              rcases hw with ⟨n67, n68, rfl, hT, hf69, hf70, hf71, hf72, hf73⟩ | ⟨n74, n75, rfl, hf76, hf77, hf78, hf79⟩
              · have hp9 := hT.2.2.2.2.2.2
                have hk1 := tkd_lt (B := B) (g := g) (m := m) (p := n67)
                have hk2 := tkx_le (B := B) (g := g) (m := m) (p := n67) hp9
                have hk3 := tka_le (B := B) (g := g) (m := m) (p := n67) hp9 hB.2.2.1
                have hk4 := tkv_ltc (p := n67) hB hp9
                have hk5 := tkw_lt (B := B) (g := g) (m := m) (p := n67)
                refine lv_istore (lv' := [(4, .int 1), (5, .int 1), (6, .int (nI k18)), (0, .ref (A (20 + 4 * 1))), (1, .ref (A 1)), (2, .ref (A (36 + 20 * 0))), (3, .int 8)]) hx hb dX7_readCond_100 hl (by decide) rfl (fun ls hl => ?_)
                refine lv_iinc (v := (nI (k18 + 1))) (lv' := [(6, .int (nI (k18 + 1))), (4, .int 1), (5, .int 1), (0, .ref (A (20 + 4 * 1))), (1, .ref (A 1)), (2, .ref (A (36 + 20 * 0))), (3, .int 8)]) hx hb dX7_readCond_102 hl (k := 2) rfl (nI_add k18 1) (by decide) rfl (fun ls hl => ?_)
                refine lv_goto (tgt := 15) hx hb dX7_readCond_105 (by decide) ?_
                exact ih34 (21 - (k18 + 1)) _ _ _ _ (by omega) ⟨(k18 + 1), 1, 1, st64, sl65, so66, rfl, by omega, by omega, by omega, by omega, by omega, by omega, fun _ => ⟨n67, n68, hT, by show st64 1 13 = st 1 13; rw [hf69, (hFst60 1 13 (by decide)).1]; exact h13, by show st64 (20 + 4 * 1) 4 = _; rw [hf70], by omega, by omega, hco.trans (sL_y (sOne_pr _) (by omega) (by omega) hf73)⟩, fun h9 => absurd h9 (by decide), hR, hF, hP, hG, hO, hS, lv_sub hl [0, 2, 1, 3, 4, 5, 6] rfl, rfl⟩
              · refine lv_istore (lv' := [(4, .int 0), (5, .int 1), (6, .int (nI k18)), (0, .ref (A (20 + 4 * 1))), (1, .ref (A 1)), (2, .ref (A (36 + 20 * 0))), (3, .int 8)]) hx hb dX7_readCond_100 hl (by decide) rfl (fun ls hl => ?_)
                refine lv_iinc (v := (nI (k18 + 1))) (lv' := [(6, .int (nI (k18 + 1))), (4, .int 0), (5, .int 1), (0, .ref (A (20 + 4 * 1))), (1, .ref (A 1)), (2, .ref (A (36 + 20 * 0))), (3, .int 8)]) hx hb dX7_readCond_102 hl (k := 2) rfl (nI_add k18 1) (by decide) rfl (fun ls hl => ?_)
                refine lv_goto (tgt := 15) hx hb dX7_readCond_105 (by decide) ?_
                exact ih34 (21 - (k18 + 1)) _ _ _ _ (by omega) ⟨(k18 + 1), 1, 0, st64, sl65, so66, rfl, by omega, by omega, by omega, by omega, by omega, by omega, fun h9 => absurd h9 (by decide), fun _ => ⟨n74, n75, by show st64 1 13 = _; rw [hf76], by show st64 1 14 = _; rw [hf77], hf78, hco.trans (sL_f (by omega) hf79 (by omega))⟩, hR, hF, hP, hG, hO, hS, lv_sub hl [0, 2, 1, 3, 4, 5, 6] rfl, rfl⟩
            · have c16 : ¬ k19 = 0 := fun hh => c16 ((nI_eq (a := k19) (b := 0) (by omega) (by omega)).mpr hh)
              refine lv_aload_n hx hb dX7_readCond_77 rfl (lv_at hl 3 rfl) ?_
              refine va_gets (v := .ref (ad 13)) hx hb (EV.word hEv (i := 13) (by decide)) hS hown (hts _ mm_X7_readCond_2) (fun _ hh => hh) dX7_readCond_78 ?_
              refine lv_iconst (v := 0) hx hb dX7_readCond_81 (by decide) ?_
              refine lv_iconst (v := 0) hx hb dX7_readCond_82 (by decide) ?_
              refine va_callv (va_runV (As := [.ref (ad 13), .int 0, .int 0]) (rest := []) ⟨hx, hb, hml, hown, hts⟩ (y_addT l dC dI ad E hEE A C nb _ hN st21 sl22 so23 13 0 0 B g m p7 (by omega) hG.1 hO.1 (CBt.fr hB hF) hT) (cwV 3 hts gX7_readCond_X7_add rfl rfl rfl (by decide +kernel) ⟨Nat.le_of_ble_eq_true rfl, Nat.le_of_ble_eq_true rfl⟩) ⟨fun a U g mk q => ⟨q.1, xPre.blind hEE q.2⟩, va_recv hK hP (ci := 8) (q0 := (20 + 4 * 1)) rfl (xw_is (r := (20 + 4 * 1)) (by omega) (xc_sn (q := 1) (o := 0) (by omega) (by omega))), fun U hU hW => ⟨rfl, xPre.of hEE hP hK hE hS hU hW⟩⟩ rfl rfl hl.1 rfl (lv_room (Nat.le_of_ble_eq_true rfl)) dX7_readCond_83 ⟨Nat.le_of_ble_eq_true rfl, Nat.le_of_ble_eq_true rfl⟩) hS (fun q _ h => XA.le hS.1 q h) (XA.le hS.1) (fun x t H locs ht hvm hw hB9 _ _ hS => ?_)
              have hP := xB.at ht hB9
              clear hB9 ht hvm
              obtain ⟨st81, sl82, so83⟩ := x
              obtain ⟨hGst81, hOst81, hFst81, hw⟩ := hw
              dsimp only at hGst81 hOst81 hFst81 hw
              have hO : OG ad [2, 4] so so83 := hO.tr hOst81 (by decide)
              have hP : va_P (dC, dI) vwCl (xw A C nb st81 sl82 so83) _ := hP
              have hG : XG [1, 2, 3, 4, 5, 6, 7, 12, 13, 14, 15] st st81 := hG.tr hGst81 (by decide)
              have hF : FX 5 st sl so st81 sl82 so83 := hF.tr hFst81 (by omega) (by omega)
              have hR : CN c nm st81 sl82 0 := hR.fr0 hFst81
              obtain ⟨hf84, hf85, hf86, hT⟩ := hw
              have hp9 := hT.2.2.2.2.2.2
              have hk1 := tkd_lt (B := B) (g := g) (m := m) (p := p7)
              have hk2 := tkx_le (B := B) (g := g) (m := m) (p := p7) hp9
              have hk3 := tka_le (B := B) (g := g) (m := m) (p := p7) hp9 hB.2.2.1
              have hk4 := tkv_ltc (p := p7) hB hp9
              have hk5 := tkw_lt (B := B) (g := g) (m := m) (p := p7)
              refine lv_iconst (v := 1) hx hb dX7_readCond_86 (by decide) ?_
              refine lv_istore (lv' := [(5, .int 1), (6, .int (nI k18)), (4, .int 1), (0, .ref (A (20 + 4 * 1))), (1, .ref (A 1)), (2, .ref (A (36 + 20 * 0))), (3, .int 8)]) hx hb dX7_readCond_87 hl (by decide) rfl (fun ls hl => ?_)
              refine lv_aload_n hx hb dX7_readCond_89 rfl (lv_at hl 4 rfl) ?_
              refine va_callv (va_runV (As := []) (rest := []) ⟨hx, hb, hml, hown, hts⟩ (y_X8_step l dC dI ad E hEE A C nb _ hN st81 sl82 so83 B g m (tkx B g m p7) hG.1 hO.1 (CBt.fr hB hF) hT.1 hk2.2) (cwV 0 hts gX7_readCond_X8_step rfl rfl rfl (by decide +kernel) ⟨Nat.le_of_ble_eq_true rfl, Nat.le_of_ble_eq_true rfl⟩) ⟨fun a U g mk q => ⟨q.1, xPre.blind hEE q.2⟩, va_recv hK hP (ci := 9) (q0 := 1) rfl (xw_is (r := 1) (by omega) (xc_fix (r := 1) (by omega))), fun U hU hW => ⟨rfl, xPre.of hEE hP hK hE hS hU hW⟩⟩ rfl rfl hl.1 rfl (lv_room (Nat.le_of_ble_eq_true rfl)) dX7_readCond_90 ⟨Nat.le_of_ble_eq_true rfl, Nat.le_of_ble_eq_true rfl⟩) hS (fun q _ h => XA.le hS.1 q h) (XA.le hS.1) (fun x t H locs ht hvm hw hB9 _ _ hS => ?_)
              have hP := xB.at ht hB9
              clear hB9 ht hvm
              obtain ⟨st88, sl89, so90⟩ := x
              obtain ⟨hGst88, hOst88, hFst88, hw⟩ := hw
              dsimp only at hGst88 hOst88 hFst88 hw
              have hO : OG ad [2, 4] so so90 := hO.tr hOst88 (by decide)
              have hP : va_P (dC, dI) vwCl (xw A C nb st88 sl89 so90) _ := hP
              have hG : XG [1, 2, 3, 4, 5, 6, 7, 12, 13, 14, 15] st st88 := hG.tr hGst88 (by decide)
              have hF : FX 5 st sl so st88 sl89 so90 := hF.tr hFst88 (by omega) (by omega)
              have hR : CN c nm st88 sl89 0 := hR.fr0 hFst88
              have hT := hw
              have hp9 := hT.2.2.2.2.2.2
              have hk1 := tkd_lt (B := B) (g := g) (m := m) (p := (tkx B g m p7))
              have hk2 := tkx_le (B := B) (g := g) (m := m) (p := (tkx B g m p7)) hp9
              have hk3 := tka_le (B := B) (g := g) (m := m) (p := (tkx B g m p7)) hp9 hB.2.2.1
              have hk4 := tkv_ltc (p := (tkx B g m p7)) hB hp9
              have hk5 := tkw_lt (B := B) (g := g) (m := m) (p := (tkx B g m p7))
              refine lv_aload_n hx hb dX7_readCond_93 rfl (lv_at hl 3 rfl) ?_
              refine lv_aload_n hx hb dX7_readCond_94 rfl (lv_at hl 4 rfl) ?_
              refine lv_aload_n hx hb dX7_readCond_95 rfl (lv_at hl 5 rfl) ?_
              refine lv_iload_n hx hb dX7_readCond_96 rfl (lv_at hl 6 rfl) ?_
              refine va_calli (va_runV (As := [.ref (A 1), .ref (A (36 + 20 * 0)), .int 8]) (rest := []) ⟨hx, hb, hml, hown, hts⟩ (y_readOne_8 l dC dI ad E hEE A C nb _ hN st88 sl89 so90 B g m (tkx B g m p7) c nm o7 hG.1 hO.1 (CBt.fr hB hF) hT hR (by rw [(hFst88 (20 + 4 * 1) 4 (by decide)).1, hf86, ho7]) (by omega)) (cwV 3 hts gX7_readCond_X7_readOne rfl rfl rfl (by decide +kernel) ⟨Nat.le_of_ble_eq_true rfl, Nat.le_of_ble_eq_true rfl⟩) ⟨fun a U g mk q => ⟨q.1, xPre.blind hEE q.2⟩, va_recv hK hP (ci := 8) (q0 := (20 + 4 * 1)) rfl (xw_is (r := (20 + 4 * 1)) (by omega) (xc_sn (q := 1) (o := 0) (by omega) (by omega))), fun U hU hW => ⟨rfl, xPre.of hEE hP hK hE hS hU hW⟩⟩ rfl rfl hl.1 rfl (lv_room (Nat.le_of_ble_eq_true rfl)) dX7_readCond_97 ⟨Nat.le_of_ble_eq_true rfl, Nat.le_of_ble_eq_true rfl⟩) hS (fun q _ h => XA.le hS.1 q h) (XA.le hS.1) (fun r91 x t H locs ht hvm hw hB9 _ _ hS => ?_)
              have hP := xB.at ht hB9
              clear hB9 ht hvm
              obtain ⟨st92, sl93, so94⟩ := x
              obtain ⟨hGst92, hOst92, hFst92, hw⟩ := hw
              dsimp only at hGst92 hOst92 hFst92 hw
              have hO : OG ad [2, 4] so so94 := hO.tr hOst92 (by decide)
              have hP : va_P (dC, dI) vwCl (xw A C nb st92 sl93 so94) _ := hP
              have hG : XG [1, 2, 3, 4, 5, 6, 7, 12, 13, 14, 15] st st92 := hG.tr hGst92 (by decide)
              have hF : FX 5 st sl so st92 sl93 so94 := hF.tr hFst92 (by omega) (by omega)
              have hR : CN c nm st92 sl93 0 := hR.fr0 hFst92
              rcases hw with ⟨n95, n96, rfl, hT, hf97, hf98, hf99, hf100, hf101⟩ | ⟨n102, n103, rfl, hf104, hf105, hf106, hf107⟩
              · have hp9 := hT.2.2.2.2.2.2
                have hk1 := tkd_lt (B := B) (g := g) (m := m) (p := n95)
                have hk2 := tkx_le (B := B) (g := g) (m := m) (p := n95) hp9
                have hk3 := tka_le (B := B) (g := g) (m := m) (p := n95) hp9 hB.2.2.1
                have hk4 := tkv_ltc (p := n95) hB hp9
                have hk5 := tkw_lt (B := B) (g := g) (m := m) (p := n95)
                refine lv_istore (lv' := [(4, .int 1), (5, .int 1), (6, .int (nI k18)), (0, .ref (A (20 + 4 * 1))), (1, .ref (A 1)), (2, .ref (A (36 + 20 * 0))), (3, .int 8)]) hx hb dX7_readCond_100 hl (by decide) rfl (fun ls hl => ?_)
                refine lv_iinc (v := (nI (k18 + 1))) (lv' := [(6, .int (nI (k18 + 1))), (4, .int 1), (5, .int 1), (0, .ref (A (20 + 4 * 1))), (1, .ref (A 1)), (2, .ref (A (36 + 20 * 0))), (3, .int 8)]) hx hb dX7_readCond_102 hl (k := 2) rfl (nI_add k18 1) (by decide) rfl (fun ls hl => ?_)
                refine lv_goto (tgt := 15) hx hb dX7_readCond_105 (by decide) ?_
                exact ih34 (21 - (k18 + 1)) _ _ _ _ (by omega) ⟨(k18 + 1), 1, 1, st92, sl93, so94, rfl, by omega, by omega, by omega, by omega, by omega, by omega, fun _ => ⟨n95, n96, hT, by show st92 1 13 = st 1 13; rw [hf97, (hFst88 1 13 (by decide)).1, hf84]; exact h13, by show st92 (20 + 4 * 1) 4 = _; rw [hf98], by omega, by omega, hco.trans (sL_y (sOne_pr _) (by omega) (by omega) hf101)⟩, fun h9 => absurd h9 (by decide), hR, hF, hP, hG, hO, hS, lv_sub hl [0, 2, 1, 3, 4, 5, 6] rfl, rfl⟩
              · refine lv_istore (lv' := [(4, .int 0), (5, .int 1), (6, .int (nI k18)), (0, .ref (A (20 + 4 * 1))), (1, .ref (A 1)), (2, .ref (A (36 + 20 * 0))), (3, .int 8)]) hx hb dX7_readCond_100 hl (by decide) rfl (fun ls hl => ?_)
                refine lv_iinc (v := (nI (k18 + 1))) (lv' := [(6, .int (nI (k18 + 1))), (4, .int 0), (5, .int 1), (0, .ref (A (20 + 4 * 1))), (1, .ref (A 1)), (2, .ref (A (36 + 20 * 0))), (3, .int 8)]) hx hb dX7_readCond_102 hl (k := 2) rfl (nI_add k18 1) (by decide) rfl (fun ls hl => ?_)
                refine lv_goto (tgt := 15) hx hb dX7_readCond_105 (by decide) ?_
                exact ih34 (21 - (k18 + 1)) _ _ _ _ (by omega) ⟨(k18 + 1), 1, 0, st92, sl93, so94, rfl, by omega, by omega, by omega, by omega, by omega, by omega, fun h9 => absurd h9 (by decide), fun _ => ⟨n102, n103, by show st92 1 13 = _; rw [hf104], by show st92 1 14 = _; rw [hf105], hf106, hco.trans (sL_f (by omega) hf107 (by omega))⟩, hR, hF, hP, hG, hO, hS, lv_sub hl [0, 2, 1, 3, 4, 5, 6] rfl, rfl⟩
        · have c9 : (tkw B g m p7) = 14 := (EV.eqw hEv (i := (tkw B g m p7)) (j := 14) (by omega) (by omega)).mp c9
          refine lv_aload_n hx hb dX7_readCond_37 rfl (lv_at hl 4 rfl) ?_
          refine va_callv (va_runV (As := []) (rest := []) ⟨hx, hb, hml, hown, hts⟩ (y_X8_step l dC dI ad E hEE A C nb _ hN st21 sl22 so23 B g m (tkx B g m p7) hG.1 hO.1 (CBt.fr hB hF) hT.1 hk2.2) (cwV 0 hts gX7_readCond_X8_step rfl rfl rfl (by decide +kernel) ⟨Nat.le_of_ble_eq_true rfl, Nat.le_of_ble_eq_true rfl⟩) ⟨fun a U g mk q => ⟨q.1, xPre.blind hEE q.2⟩, va_recv hK hP (ci := 9) (q0 := 1) rfl (xw_is (r := 1) (by omega) (xc_fix (r := 1) (by omega))), fun U hU hW => ⟨rfl, xPre.of hEE hP hK hE hS hU hW⟩⟩ rfl rfl hl.1 rfl (lv_room (Nat.le_of_ble_eq_true rfl)) dX7_readCond_38 ⟨Nat.le_of_ble_eq_true rfl, Nat.le_of_ble_eq_true rfl⟩) hS (fun q _ h => XA.le hS.1 q h) (XA.le hS.1) (fun x t H locs ht hvm hw hB9 _ _ hS => ?_)
          have hP := xB.at ht hB9
          clear hB9 ht hvm
          obtain ⟨st109, sl110, so111⟩ := x
          obtain ⟨hGst109, hOst109, hFst109, hw⟩ := hw
          dsimp only at hGst109 hOst109 hFst109 hw
          have hO : OG ad [2, 4] so so111 := hO.tr hOst109 (by decide)
          have hP : va_P (dC, dI) vwCl (xw A C nb st109 sl110 so111) _ := hP
          have hG : XG [1, 2, 3, 4, 5, 6, 7, 12, 13, 14, 15] st st109 := hG.tr hGst109 (by decide)
          have hF : FX 5 st sl so st109 sl110 so111 := hF.tr hFst109 (by omega) (by omega)
          have hR : CN c nm st109 sl110 0 := hR.fr0 hFst109
          have hT := hw
          have hp9 := hT.2.2.2.2.2.2
          have hk1 := tkd_lt (B := B) (g := g) (m := m) (p := (tkx B g m p7))
          have hk2 := tkx_le (B := B) (g := g) (m := m) (p := (tkx B g m p7)) hp9
          have hk3 := tka_le (B := B) (g := g) (m := m) (p := (tkx B g m p7)) hp9 hB.2.2.1
          have hk4 := tkv_ltc (p := (tkx B g m p7)) hB hp9
          have hk5 := tkw_lt (B := B) (g := g) (m := m) (p := (tkx B g m p7))
          refine lv_aload_n hx hb dX7_readCond_41 rfl (lv_at hl 3 rfl) ?_
          refine lv_aload_n hx hb dX7_readCond_42 rfl (lv_at hl 4 rfl) ?_
          refine lv_aload_n hx hb dX7_readCond_43 rfl (lv_at hl 5 rfl) ?_
          refine lv_iload_n hx hb dX7_readCond_44 rfl (lv_at hl 6 rfl) ?_
          refine va_calli (va_runV (As := [.ref (A 1), .ref (A (36 + 20 * 0)), .int 8]) (rest := []) ⟨hx, hb, hml, hown, hts⟩ (y_readOne_8 l dC dI ad E hEE A C nb _ hN st109 sl110 so111 B g m (tkx B g m p7) c nm o7 hG.1 hO.1 (CBt.fr hB hF) hT hR (by rw [(hFst109 (20 + 4 * 1) 4 (by decide)).1, ho7]) (by omega)) (cwV 3 hts gX7_readCond_X7_readOne rfl rfl rfl (by decide +kernel) ⟨Nat.le_of_ble_eq_true rfl, Nat.le_of_ble_eq_true rfl⟩) ⟨fun a U g mk q => ⟨q.1, xPre.blind hEE q.2⟩, va_recv hK hP (ci := 8) (q0 := (20 + 4 * 1)) rfl (xw_is (r := (20 + 4 * 1)) (by omega) (xc_sn (q := 1) (o := 0) (by omega) (by omega))), fun U hU hW => ⟨rfl, xPre.of hEE hP hK hE hS hU hW⟩⟩ rfl rfl hl.1 rfl (lv_room (Nat.le_of_ble_eq_true rfl)) dX7_readCond_45 ⟨Nat.le_of_ble_eq_true rfl, Nat.le_of_ble_eq_true rfl⟩) hS (fun q _ h => XA.le hS.1 q h) (XA.le hS.1) (fun r112 x t H locs ht hvm hw hB9 _ _ hS => ?_)
          have hP := xB.at ht hB9
          clear hB9 ht hvm
          obtain ⟨st113, sl114, so115⟩ := x
          obtain ⟨hGst113, hOst113, hFst113, hw⟩ := hw
          dsimp only at hGst113 hOst113 hFst113 hw
          have hO : OG ad [2, 4] so so115 := hO.tr hOst113 (by decide)
          have hP : va_P (dC, dI) vwCl (xw A C nb st113 sl114 so115) _ := hP
          have hG : XG [1, 2, 3, 4, 5, 6, 7, 12, 13, 14, 15] st st113 := hG.tr hGst113 (by decide)
          have hF : FX 5 st sl so st113 sl114 so115 := hF.tr hFst113 (by omega) (by omega)
          have hR : CN c nm st113 sl114 0 := hR.fr0 hFst113
          rcases hw with ⟨n116, n117, rfl, hT, hf118, hf119, hf120, hf121, hf122⟩ | ⟨n123, n124, rfl, hf125, hf126, hf127, hf128⟩
          · have hp9 := hT.2.2.2.2.2.2
            have hk1 := tkd_lt (B := B) (g := g) (m := m) (p := n116)
            have hk2 := tkx_le (B := B) (g := g) (m := m) (p := n116) hp9
            have hk3 := tka_le (B := B) (g := g) (m := m) (p := n116) hp9 hB.2.2.1
            have hk4 := tkv_ltc (p := n116) hB hp9
            have hk5 := tkw_lt (B := B) (g := g) (m := m) (p := n116)
            refine lv_istore (lv' := [(4, .int 1), (6, .int (nI k18)), (5, .int (nI k19)), (0, .ref (A (20 + 4 * 1))), (1, .ref (A 1)), (2, .ref (A (36 + 20 * 0))), (3, .int 8)]) hx hb dX7_readCond_48 hl (by decide) rfl (fun ls hl => ?_)
            refine lv_aload_n hx hb dX7_readCond_50 rfl (lv_at hl 3 rfl) ?_
            refine va_gets (v := .ref (ad 14)) hx hb (EV.word hEv (i := 14) (by decide)) hS hown (hts _ mm_X7_readCond_1) (fun _ hh => hh) dX7_readCond_51 ?_
            refine lv_iconst (v := 0) hx hb dX7_readCond_54 (by decide) ?_
            refine lv_iconst (v := 0) hx hb dX7_readCond_55 (by decide) ?_
            refine va_callv (va_runV (As := [.ref (ad 14), .int 0, .int 0]) (rest := []) ⟨hx, hb, hml, hown, hts⟩ (y_addT l dC dI ad E hEE A C nb _ hN st113 sl114 so115 14 0 0 B g m n116 (by omega) hG.1 hO.1 (CBt.fr hB hF) hT) (cwV 3 hts gX7_readCond_X7_add rfl rfl rfl (by decide +kernel) ⟨Nat.le_of_ble_eq_true rfl, Nat.le_of_ble_eq_true rfl⟩) ⟨fun a U g mk q => ⟨q.1, xPre.blind hEE q.2⟩, va_recv hK hP (ci := 8) (q0 := (20 + 4 * 1)) rfl (xw_is (r := (20 + 4 * 1)) (by omega) (xc_sn (q := 1) (o := 0) (by omega) (by omega))), fun U hU hW => ⟨rfl, xPre.of hEE hP hK hE hS hU hW⟩⟩ rfl rfl hl.1 rfl (lv_room (Nat.le_of_ble_eq_true rfl)) dX7_readCond_56 ⟨Nat.le_of_ble_eq_true rfl, Nat.le_of_ble_eq_true rfl⟩) hS (fun q _ h => XA.le hS.1 q h) (XA.le hS.1) (fun x t H locs ht hvm hw hB9 _ _ hS => ?_)
            have hP := xB.at ht hB9
            clear hB9 ht hvm
            obtain ⟨st130, sl131, so132⟩ := x
            obtain ⟨hGst130, hOst130, hFst130, hw⟩ := hw
            dsimp only at hGst130 hOst130 hFst130 hw
            have hO : OG ad [2, 4] so so132 := hO.tr hOst130 (by decide)
            have hP : va_P (dC, dI) vwCl (xw A C nb st130 sl131 so132) _ := hP
            have hG : XG [1, 2, 3, 4, 5, 6, 7, 12, 13, 14, 15] st st130 := hG.tr hGst130 (by decide)
            have hF : FX 5 st sl so st130 sl131 so132 := hF.tr hFst130 (by omega) (by omega)
            have hR : CN c nm st130 sl131 0 := hR.fr0 hFst130
            obtain ⟨hf133, hf134, hf135, hT⟩ := hw
            have hp9 := hT.2.2.2.2.2.2
            have hk1 := tkd_lt (B := B) (g := g) (m := m) (p := n116)
            have hk2 := tkx_le (B := B) (g := g) (m := m) (p := n116) hp9
            have hk3 := tka_le (B := B) (g := g) (m := m) (p := n116) hp9 hB.2.2.1
            have hk4 := tkv_ltc (p := n116) hB hp9
            have hk5 := tkw_lt (B := B) (g := g) (m := m) (p := n116)
            refine lv_goto (tgt := 102) hx hb dX7_readCond_59 (by decide) ?_
            refine lv_iinc (v := (nI (k18 + 1))) (lv' := [(6, .int (nI (k18 + 1))), (4, .int 1), (5, .int (nI k19)), (0, .ref (A (20 + 4 * 1))), (1, .ref (A 1)), (2, .ref (A (36 + 20 * 0))), (3, .int 8)]) hx hb dX7_readCond_102 hl (k := 1) rfl (nI_add k18 1) (by decide) rfl (fun ls hl => ?_)
            refine lv_goto (tgt := 15) hx hb dX7_readCond_105 (by decide) ?_
            exact ih34 (21 - (k18 + 1)) _ _ _ _ (by omega) ⟨(k18 + 1), k19, 1, st130, sl131, so132, rfl, by omega, by omega, by omega, by omega, by omega, by omega, fun _ => ⟨n116, n117, hT, by show st130 1 13 = st 1 13; rw [hf133, hf118, (hFst109 1 13 (by decide)).1]; exact h13, by show st130 (20 + 4 * 1) 4 = _; rw [hf135, hf119], by omega, by omega, hco.trans (sL_y (sOne_pr _) (by omega) (by omega) hf122)⟩, fun h9 => absurd h9 (by decide), hR, hF, hP, hG, hO, hS, lv_sub hl [0, 2, 1, 3, 4, 5, 6] rfl, rfl⟩
          · refine lv_istore (lv' := [(4, .int 0), (6, .int (nI k18)), (5, .int (nI k19)), (0, .ref (A (20 + 4 * 1))), (1, .ref (A 1)), (2, .ref (A (36 + 20 * 0))), (3, .int 8)]) hx hb dX7_readCond_48 hl (by decide) rfl (fun ls hl => ?_)
            refine lv_aload_n hx hb dX7_readCond_50 rfl (lv_at hl 3 rfl) ?_
            refine va_gets (v := .ref (ad 14)) hx hb (EV.word hEv (i := 14) (by decide)) hS hown (hts _ mm_X7_readCond_1) (fun _ hh => hh) dX7_readCond_51 ?_
            refine lv_iconst (v := 0) hx hb dX7_readCond_54 (by decide) ?_
            refine lv_iconst (v := 0) hx hb dX7_readCond_55 (by decide) ?_
            refine va_callv (va_runV (As := [.ref (ad 14), .int 0, .int 0]) (rest := []) ⟨hx, hb, hml, hown, hts⟩ (y_addN l dC dI ad E hEE A C nb _ hN st113 sl114 so115 14 0 0 (by omega) hG.1 hO.1 ) (cwV 3 hts gX7_readCond_X7_add rfl rfl rfl (by decide +kernel) ⟨Nat.le_of_ble_eq_true rfl, Nat.le_of_ble_eq_true rfl⟩) ⟨fun a U g mk q => ⟨q.1, xPre.blind hEE q.2⟩, va_recv hK hP (ci := 8) (q0 := (20 + 4 * 1)) rfl (xw_is (r := (20 + 4 * 1)) (by omega) (xc_sn (q := 1) (o := 0) (by omega) (by omega))), fun U hU hW => ⟨rfl, xPre.of hEE hP hK hE hS hU hW⟩⟩ rfl rfl hl.1 rfl (lv_room (Nat.le_of_ble_eq_true rfl)) dX7_readCond_56 ⟨Nat.le_of_ble_eq_true rfl, Nat.le_of_ble_eq_true rfl⟩) hS (fun q _ h => XA.le hS.1 q h) (XA.le hS.1) (fun x t H locs ht hvm hw hB9 _ _ hS => ?_)
            have hP := xB.at ht hB9
            clear hB9 ht hvm
            obtain ⟨st137, sl138, so139⟩ := x
            obtain ⟨hGst137, hOst137, hFst137, hw⟩ := hw
            dsimp only at hGst137 hOst137 hFst137 hw
            have hO : OG ad [2, 4] so so139 := hO.tr hOst137 (by decide)
            have hP : va_P (dC, dI) vwCl (xw A C nb st137 sl138 so139) _ := hP
            have hG : XG [1, 2, 3, 4, 5, 6, 7, 12, 13, 14, 15] st st137 := hG.tr hGst137 (by decide)
            have hF : FX 5 st sl so st137 sl138 so139 := hF.tr hFst137 (by omega) (by omega)
            have hR : CN c nm st137 sl138 0 := hR.fr0 hFst137
            obtain ⟨hf140, hf141, hf142⟩ := hw
            refine lv_goto (tgt := 102) hx hb dX7_readCond_59 (by decide) ?_
            refine lv_iinc (v := (nI (k18 + 1))) (lv' := [(6, .int (nI (k18 + 1))), (4, .int 0), (5, .int (nI k19)), (0, .ref (A (20 + 4 * 1))), (1, .ref (A 1)), (2, .ref (A (36 + 20 * 0))), (3, .int 8)]) hx hb dX7_readCond_102 hl (k := 1) rfl (nI_add k18 1) (by decide) rfl (fun ls hl => ?_)
            refine lv_goto (tgt := 15) hx hb dX7_readCond_105 (by decide) ?_
            exact ih34 (21 - (k18 + 1)) _ _ _ _ (by omega) ⟨(k18 + 1), k19, 0, st137, sl138, so139, rfl, by omega, by omega, by omega, by omega, by omega, by omega, fun h9 => absurd h9 (by decide), fun _ => ⟨n123, n124, by show st137 1 13 = _; rw [hf140, hf125], by show st137 1 14 = _; rw [hf141, hf126], hf127, hco.trans (sL_f (by omega) hf128 (by omega))⟩, hR, hF, hP, hG, hO, hS, lv_sub hl [0, 2, 1, 3, 4, 5, 6] rfl, rfl⟩
  · refine lv_istore (lv' := [(4, .int 0), (0, .ref (A (20 + 4 * 1))), (1, .ref (A 1)), (2, .ref (A (36 + 20 * 0))), (3, .int 8)]) hx hb dX7_readCond_7 hl (by decide) rfl (fun ls hl => ?_)
    refine lv_iconst (v := 0) hx hb dX7_readCond_9 (by decide) ?_
    refine lv_istore (lv' := [(5, .int 0), (4, .int 0), (0, .ref (A (20 + 4 * 1))), (1, .ref (A 1)), (2, .ref (A (36 + 20 * 0))), (3, .int 8)]) hx hb dX7_readCond_10 hl (by decide) rfl (fun ls hl => ?_)
    refine lv_iconst (v := 0) hx hb dX7_readCond_12 (by decide) ?_
    refine lv_istore (lv' := [(6, .int 0), (5, .int 0), (4, .int 0), (0, .ref (A (20 + 4 * 1))), (1, .ref (A 1)), (2, .ref (A (36 + 20 * 0))), (3, .int 8)]) hx hb dX7_readCond_13 hl (by decide) rfl (fun ls hl => ?_)
    refine zz_wf (fun n stk H locs ls => ∃ k143 : Nat, ∃ k144 : Nat, ∃ k145 : Nat, ∃ st146 : Nat → Nat → Int32, ∃ sl147 : Nat → Nat → Int64, ∃ so148 : Nat → XR, n = 21 - k143 ∧ 0 ≤ k143 ∧ k143 < 21 ∧ 0 ≤ k144 ∧ k144 < 2 ∧ 0 ≤ k145 ∧ k145 < 2 ∧ (zz_im (k145 = 1) (∃ (p7 o7 : Nat), TC B g m p7 ad st146 sl147 so148 ∧ st146 1 13 = st 1 13 ∧ st146 (20 + 4 * 1) 4 = nI o7 ∧ go + 1 + k143 ≤ o7 ∧ o7 ≤ 20 ∧ sCond B g m (sOne B g m c nm 1) p go = sLoop B g m (sOne B g m c nm 1) 21 p7 o7)) ∧ (zz_im (k145 = 0) (∃ (f7 a7 : Nat), st146 1 13 = nI f7 ∧ st146 1 14 = nI a7 ∧ (1 ≤ f7 ∧ f7 < 9) ∧ sCond B g m (sOne B g m c nm 1) p go = sf f7 a7)) ∧ CN c nm st146 sl147 0 ∧ FX 5 st sl so st146 sl147 so148 ∧ va_P (dC, dI) vwCl (xw A C nb st146 sl147 so148) H ∧ XG [1, 2, 3, 4, 5, 6, 7, 12, 13, 14, 15] st st146 ∧ OG ad [2, 4] so so148 ∧ va_S (XA A s.heap.size) s.heap H locs ∧ lv_has ls 7 [(6, .int (nI k143)), (5, .int (nI k144)), (4, .int (nI k145)), (0, .ref (A (20 + 4 * 1))), (1, .ref (A 1)), (2, .ref (A (36 + 20 * 0))), (3, .int 8)] ∧ stk = []) ?_ (21 - 0) _ _ _ _ ⟨0, 0, 0, st2, sl3, so4, rfl, by omega, by omega, by omega, by omega, by omega, by omega, fun h9 => absurd h9 (by decide), fun _ => ⟨n12, n13, by show st2 1 13 = _; rw [hf14], by show st2 1 14 = _; rw [hf15], hf16, sC_f hf17 (by omega)⟩, hR, hF, hP, hG, hO, hS, lv_sub hl [0, 1, 2, 3, 4, 5, 6] rfl, rfl⟩
    rintro nn stk H locs ls ⟨k143, k144, k145, st146, sl147, so148, hm158, hv149_0, hv150_1, hv151_2, hv152_3, hv153_4, hv154_5, hv155_0, hv156_1, hv157_2, hv158_3, hP, hG, hO, hS, hl, rfl⟩ ih159
    have hF := hv158_3
    have hR := hv157_2
    refine lv_iload hx hb dX7_readCond_15 (lv_at hl 0 rfl) ?_
    refine lv_bipush (v := 20) hx hb dX7_readCond_17 (by decide) ?_
    refine lv_icmp_ge (tgt := 108) hx hb dX7_readCond_19 (by decide) (fun c17 => ?_) (fun c17 => ?_)
    · have c17 : 20 ≤ k143 := (nI_leI (a := 20) (b := k143) (by omega) (by omega)).mp c17
      have hz4 : k145 = 0 := by
        by_cases h9 : k145 = 1
        · obtain ⟨p7, o7, -, -, -, hoa, hob, -⟩ := hv155_0 h9; omega
        · omega
      have hg160 : k145 = 0 := by omega
      have hl : lv_has ls 7 [(6, .int (nI k143)), (5, .int (nI k144)), (4, .int 0), (0, .ref (A (20 + 4 * 1))), (1, .ref (A 1)), (2, .ref (A (36 + 20 * 0))), (3, .int 8)] := by rw [hg160] at hl; exact hl
      obtain ⟨f7, a7, h13, h14, hfa, hco⟩ := hv156_1 hz4
      refine lv_iload hx hb dX7_readCond_108 (lv_at hl 1 rfl) ?_
      refine lv_if_eq (tgt := 122) hx hb dX7_readCond_110 (by decide) (fun c18 => ?_) (fun c18 => ?_)
      · have c18 : k144 = 0 := (nI_eq (a := k144) (b := 0) (by omega) (by omega)).mp c18
        refine lv_iload hx hb dX7_readCond_122 (lv_at hl 2 rfl) ?_
        refine lv_if_eq (tgt := 146) hx hb dX7_readCond_124 (by decide) (fun _ => ?_) (fun cc => absurd (by decide) cc)
        refine lv_iload hx hb dX7_readCond_146 (lv_at hl 2 rfl) ?_
        exact W.zret (v := 0) hx hb hr rfl (fun t ht hW => ⟨⟨0, (st146, sl147, so148), rfl, ⟨hG, hO, hF, Or.inr (⟨f7, a7, rfl, by show st146 1 13 = _; rw [h13], by show st146 1 14 = _; rw [h14], hfa, hco⟩)⟩, xB.of ht hP⟩, hS.F ht⟩) hS.2.2 dX7_readCond_148
      · have c18 : ¬ k144 = 0 := fun hh => c18 ((nI_eq (a := k144) (b := 0) (by omega) (by omega)).mpr hh)
        refine lv_aload_n hx hb dX7_readCond_113 rfl (lv_at hl 3 rfl) ?_
        refine va_gets (v := .ref (ad 13)) hx hb (EV.word hEv (i := 13) (by decide)) hS hown (hts _ mm_X7_readCond_2) (fun _ hh => hh) dX7_readCond_114 ?_
        refine lv_iconst (v := 0) hx hb dX7_readCond_117 (by decide) ?_
        refine lv_iconst (v := 0) hx hb dX7_readCond_118 (by decide) ?_
        refine va_callv (va_runV (As := [.ref (ad 13), .int 0, .int 0]) (rest := []) ⟨hx, hb, hml, hown, hts⟩ (y_addN l dC dI ad E hEE A C nb _ hN st146 sl147 so148 13 0 0 (by omega) hG.1 hO.1 ) (cwV 3 hts gX7_readCond_X7_add rfl rfl rfl (by decide +kernel) ⟨Nat.le_of_ble_eq_true rfl, Nat.le_of_ble_eq_true rfl⟩) ⟨fun a U g mk q => ⟨q.1, xPre.blind hEE q.2⟩, va_recv hK hP (ci := 8) (q0 := (20 + 4 * 1)) rfl (xw_is (r := (20 + 4 * 1)) (by omega) (xc_sn (q := 1) (o := 0) (by omega) (by omega))), fun U hU hW => ⟨rfl, xPre.of hEE hP hK hE hS hU hW⟩⟩ rfl rfl hl.1 rfl (lv_room (Nat.le_of_ble_eq_true rfl)) dX7_readCond_119 ⟨Nat.le_of_ble_eq_true rfl, Nat.le_of_ble_eq_true rfl⟩) hS (fun q _ h => XA.le hS.1 q h) (XA.le hS.1) (fun x t H locs ht hvm hw hB9 _ _ hS => ?_)
        have hP := xB.at ht hB9
        clear hB9 ht hvm
        obtain ⟨st162, sl163, so164⟩ := x
        obtain ⟨hGst162, hOst162, hFst162, hw⟩ := hw
        dsimp only at hGst162 hOst162 hFst162 hw
        have hO : OG ad [2, 4] so so164 := hO.tr hOst162 (by decide)
        have hP : va_P (dC, dI) vwCl (xw A C nb st162 sl163 so164) _ := hP
        have hG : XG [1, 2, 3, 4, 5, 6, 7, 12, 13, 14, 15] st st162 := hG.tr hGst162 (by decide)
        have hF : FX 5 st sl so st162 sl163 so164 := hF.tr hFst162 (by omega) (by omega)
        have hR : CN c nm st162 sl163 0 := hR.fr0 hFst162
        obtain ⟨hf165, hf166, hf167⟩ := hw
        refine lv_iload hx hb dX7_readCond_122 (lv_at hl 2 rfl) ?_
        refine lv_if_eq (tgt := 146) hx hb dX7_readCond_124 (by decide) (fun _ => ?_) (fun cc => absurd (by decide) cc)
        refine lv_iload hx hb dX7_readCond_146 (lv_at hl 2 rfl) ?_
        exact W.zret (v := 0) hx hb hr rfl (fun t ht hW => ⟨⟨0, (st162, sl163, so164), rfl, ⟨hG, hO, hF, Or.inr (⟨f7, a7, rfl, by show st162 1 13 = _; rw [hf165, h13], by show st162 1 14 = _; rw [hf166, h14], hfa, hco⟩)⟩, xB.of ht hP⟩, hS.F ht⟩) hS.2.2 dX7_readCond_148
    · have c17 : ¬ 20 ≤ k143 := fun hh => c17 ((nI_leI (a := 20) (b := k143) (by omega) (by omega)).mpr hh)
      refine lv_iload hx hb dX7_readCond_22 (lv_at hl 2 rfl) ?_
      refine lv_if_eq (tgt := 108) hx hb dX7_readCond_24 (by decide) (fun c21 => ?_) (fun c21 => ?_)
      · have c21 : k145 = 0 := (nI_eq (a := k145) (b := 0) (by omega) (by omega)).mp c21
        have hz4 : k145 = 0 := by
          by_cases h9 : k145 = 1
          · obtain ⟨p7, o7, -, -, -, hoa, hob, -⟩ := hv155_0 h9; omega
          · omega
        have hg168 : k145 = 0 := by omega
        have hl : lv_has ls 7 [(6, .int (nI k143)), (5, .int (nI k144)), (4, .int 0), (0, .ref (A (20 + 4 * 1))), (1, .ref (A 1)), (2, .ref (A (36 + 20 * 0))), (3, .int 8)] := by rw [hg168] at hl; exact hl
        obtain ⟨f7, a7, h13, h14, hfa, hco⟩ := hv156_1 hz4
        refine lv_iload hx hb dX7_readCond_108 (lv_at hl 1 rfl) ?_
        refine lv_if_eq (tgt := 122) hx hb dX7_readCond_110 (by decide) (fun c22 => ?_) (fun c22 => ?_)
        · have c22 : k144 = 0 := (nI_eq (a := k144) (b := 0) (by omega) (by omega)).mp c22
          refine lv_iload hx hb dX7_readCond_122 (lv_at hl 2 rfl) ?_
          refine lv_if_eq (tgt := 146) hx hb dX7_readCond_124 (by decide) (fun _ => ?_) (fun cc => absurd (by decide) cc)
          refine lv_iload hx hb dX7_readCond_146 (lv_at hl 2 rfl) ?_
          exact W.zret (v := 0) hx hb hr rfl (fun t ht hW => ⟨⟨0, (st146, sl147, so148), rfl, ⟨hG, hO, hF, Or.inr (⟨f7, a7, rfl, by show st146 1 13 = _; rw [h13], by show st146 1 14 = _; rw [h14], hfa, hco⟩)⟩, xB.of ht hP⟩, hS.F ht⟩) hS.2.2 dX7_readCond_148
        · have c22 : ¬ k144 = 0 := fun hh => c22 ((nI_eq (a := k144) (b := 0) (by omega) (by omega)).mpr hh)
          refine lv_aload_n hx hb dX7_readCond_113 rfl (lv_at hl 3 rfl) ?_
          refine va_gets (v := .ref (ad 13)) hx hb (EV.word hEv (i := 13) (by decide)) hS hown (hts _ mm_X7_readCond_2) (fun _ hh => hh) dX7_readCond_114 ?_
          refine lv_iconst (v := 0) hx hb dX7_readCond_117 (by decide) ?_
          refine lv_iconst (v := 0) hx hb dX7_readCond_118 (by decide) ?_
          refine va_callv (va_runV (As := [.ref (ad 13), .int 0, .int 0]) (rest := []) ⟨hx, hb, hml, hown, hts⟩ (y_addN l dC dI ad E hEE A C nb _ hN st146 sl147 so148 13 0 0 (by omega) hG.1 hO.1 ) (cwV 3 hts gX7_readCond_X7_add rfl rfl rfl (by decide +kernel) ⟨Nat.le_of_ble_eq_true rfl, Nat.le_of_ble_eq_true rfl⟩) ⟨fun a U g mk q => ⟨q.1, xPre.blind hEE q.2⟩, va_recv hK hP (ci := 8) (q0 := (20 + 4 * 1)) rfl (xw_is (r := (20 + 4 * 1)) (by omega) (xc_sn (q := 1) (o := 0) (by omega) (by omega))), fun U hU hW => ⟨rfl, xPre.of hEE hP hK hE hS hU hW⟩⟩ rfl rfl hl.1 rfl (lv_room (Nat.le_of_ble_eq_true rfl)) dX7_readCond_119 ⟨Nat.le_of_ble_eq_true rfl, Nat.le_of_ble_eq_true rfl⟩) hS (fun q _ h => XA.le hS.1 q h) (XA.le hS.1) (fun x t H locs ht hvm hw hB9 _ _ hS => ?_)
          have hP := xB.at ht hB9
          clear hB9 ht hvm
          obtain ⟨st170, sl171, so172⟩ := x
          obtain ⟨hGst170, hOst170, hFst170, hw⟩ := hw
          dsimp only at hGst170 hOst170 hFst170 hw
          have hO : OG ad [2, 4] so so172 := hO.tr hOst170 (by decide)
          have hP : va_P (dC, dI) vwCl (xw A C nb st170 sl171 so172) _ := hP
          have hG : XG [1, 2, 3, 4, 5, 6, 7, 12, 13, 14, 15] st st170 := hG.tr hGst170 (by decide)
          have hF : FX 5 st sl so st170 sl171 so172 := hF.tr hFst170 (by omega) (by omega)
          have hR : CN c nm st170 sl171 0 := hR.fr0 hFst170
          obtain ⟨hf173, hf174, hf175⟩ := hw
          refine lv_iload hx hb dX7_readCond_122 (lv_at hl 2 rfl) ?_
          refine lv_if_eq (tgt := 146) hx hb dX7_readCond_124 (by decide) (fun _ => ?_) (fun cc => absurd (by decide) cc)
          refine lv_iload hx hb dX7_readCond_146 (lv_at hl 2 rfl) ?_
          exact W.zret (v := 0) hx hb hr rfl (fun t ht hW => ⟨⟨0, (st170, sl171, so172), rfl, ⟨hG, hO, hF, Or.inr (⟨f7, a7, rfl, by show st170 1 13 = _; rw [hf173, h13], by show st170 1 14 = _; rw [hf174, h14], hfa, hco⟩)⟩, xB.of ht hP⟩, hS.F ht⟩) hS.2.2 dX7_readCond_148
      · have c21 : ¬ k145 = 0 := fun hh => c21 ((nI_eq (a := k145) (b := 0) (by omega) (by omega)).mpr hh)
        obtain ⟨p7, o7, hT, h13, ho7, hoa, hob, hco⟩ := hv155_0 (by omega)
        have hp9 := hT.2.2.2.2.2.2
        have hk1 := tkd_lt (B := B) (g := g) (m := m) (p := p7)
        have hk2 := tkx_le (B := B) (g := g) (m := m) (p := p7) hp9
        have hk3 := tka_le (B := B) (g := g) (m := m) (p := p7) hp9 hB.2.2.1
        have hk4 := tkv_ltc (p := p7) hB hp9
        have hk5 := tkw_lt (B := B) (g := g) (m := m) (p := p7)
        have hg176 : k145 = 1 := by omega
        have hl : lv_has ls 7 [(6, .int (nI k143)), (5, .int (nI k144)), (4, .int 1), (0, .ref (A (20 + 4 * 1))), (1, .ref (A 1)), (2, .ref (A (36 + 20 * 0))), (3, .int 8)] := by rw [hg176] at hl; exact hl
        refine lv_aload_n hx hb dX7_readCond_27 rfl (lv_at hl 4 rfl) ?_
        refine va_getN (host := "OffTheLead") (D := (dC, dI)) (ci := 9) (v := va_rf (so148 1 7)) (C := RX8) (T := TX8) (N := 15) hx hb hts ii_X7_readCond_X8 hown hK hP 1 (xw_is (r := 1) (by omega) (xc_fix (r := 1) (by omega))) rfl 7 (by decide) (va_Nw.use rfl (nf_X7_35 hEv)) (fun _ hh => hh) rfl dX7_readCond_28 ?_
        refine zz_topq (r := some (ad (tkw B g m p7))) (by rw [hT.2.2.2.2.2.1]) ?_
        refine va_gets (v := .ref (ad 14)) hx hb (EV.word hEv (i := 14) (by decide)) hS hown (hts _ mm_X7_readCond_1) (fun _ hh => hh) dX7_readCond_31 ?_
        refine lv_acmp_ne (rx := (some (ad (tkw B g m p7)))) (ry := (some (ad 14))) (tgt := 62) hx hb dX7_readCond_34 (by decide) (fun c25 => ?_) (fun c25 => ?_)
        · have c25 : ¬ (tkw B g m p7) = 14 := fun hh => c25 ((EV.eqw hEv (i := (tkw B g m p7)) (j := 14) (by omega) (by omega)).mpr hh)
          refine lv_aload_n hx hb dX7_readCond_62 rfl (lv_at hl 4 rfl) ?_
          refine va_getN (host := "OffTheLead") (D := (dC, dI)) (ci := 9) (v := va_rf (so148 1 7)) (C := RX8) (T := TX8) (N := 15) hx hb hts ii_X7_readCond_X8 hown hK hP 1 (xw_is (r := 1) (by omega) (xc_fix (r := 1) (by omega))) rfl 7 (by decide) (va_Nw.use rfl (nf_X7_35 hEv)) (fun _ hh => hh) rfl dX7_readCond_63 ?_
          refine zz_topq (r := some (ad (tkw B g m p7))) (by rw [hT.2.2.2.2.2.1]) ?_
          refine va_gets (v := .ref (ad 13)) hx hb (EV.word hEv (i := 13) (by decide)) hS hown (hts _ mm_X7_readCond_2) (fun _ hh => hh) dX7_readCond_66 ?_
          refine lv_acmp_ne (rx := (some (ad (tkw B g m p7)))) (ry := (some (ad 13))) (tgt := 108) hx hb dX7_readCond_69 (by decide) (fun c26 => ?_) (fun c26 => ?_)
          · have c26 : ¬ (tkw B g m p7) = 13 := fun hh => c26 ((EV.eqw hEv (i := (tkw B g m p7)) (j := 13) (by omega) (by omega)).mpr hh)
            refine lv_iload hx hb dX7_readCond_108 (lv_at hl 1 rfl) ?_
            refine lv_if_eq (tgt := 122) hx hb dX7_readCond_110 (by decide) (fun c27 => ?_) (fun c27 => ?_)
            · have c27 : k144 = 0 := (nI_eq (a := k144) (b := 0) (by omega) (by omega)).mp c27
              refine lv_iload hx hb dX7_readCond_122 (lv_at hl 2 rfl) ?_
              refine lv_if_eq (tgt := 146) hx hb dX7_readCond_124 (by decide) (fun cc => absurd cc (by decide)) (fun _ => ?_)
              refine lv_iload_n hx hb dX7_readCond_127 rfl (lv_at hl 6 rfl) ?_
              refine lv_iconst (v := 1) hx hb dX7_readCond_128 (by decide) ?_
              refine lv_icmp_ne (tgt := 146) hx hb dX7_readCond_129 (by decide) (fun _ => ?_) (fun cc => absurd cc (by decide))
              refine lv_iload hx hb dX7_readCond_146 (lv_at hl 2 rfl) ?_
              exact W.zret (v := 1) hx hb hr rfl (fun t ht hW => ⟨⟨1, (st146, sl147, so148), rfl, ⟨hG, hO, hF, Or.inl (⟨p7, o7, rfl, hT, by show st146 1 13 = st 1 13; exact h13, by show st146 (20 + 4 * 1) 4 = _; rw [ho7], by omega, by omega, hco.trans (sL_n (by omega))⟩)⟩, xB.of ht hP⟩, hS.F ht⟩) hS.2.2 dX7_readCond_148
            · have c27 : ¬ k144 = 0 := fun hh => c27 ((nI_eq (a := k144) (b := 0) (by omega) (by omega)).mpr hh)
              refine lv_aload_n hx hb dX7_readCond_113 rfl (lv_at hl 3 rfl) ?_
              refine va_gets (v := .ref (ad 13)) hx hb (EV.word hEv (i := 13) (by decide)) hS hown (hts _ mm_X7_readCond_2) (fun _ hh => hh) dX7_readCond_114 ?_
              refine lv_iconst (v := 0) hx hb dX7_readCond_117 (by decide) ?_
              refine lv_iconst (v := 0) hx hb dX7_readCond_118 (by decide) ?_
              refine va_callv (va_runV (As := [.ref (ad 13), .int 0, .int 0]) (rest := []) ⟨hx, hb, hml, hown, hts⟩ (y_addT l dC dI ad E hEE A C nb _ hN st146 sl147 so148 13 0 0 B g m p7 (by omega) hG.1 hO.1 (CBt.fr hB hF) hT) (cwV 3 hts gX7_readCond_X7_add rfl rfl rfl (by decide +kernel) ⟨Nat.le_of_ble_eq_true rfl, Nat.le_of_ble_eq_true rfl⟩) ⟨fun a U g mk q => ⟨q.1, xPre.blind hEE q.2⟩, va_recv hK hP (ci := 8) (q0 := (20 + 4 * 1)) rfl (xw_is (r := (20 + 4 * 1)) (by omega) (xc_sn (q := 1) (o := 0) (by omega) (by omega))), fun U hU hW => ⟨rfl, xPre.of hEE hP hK hE hS hU hW⟩⟩ rfl rfl hl.1 rfl (lv_room (Nat.le_of_ble_eq_true rfl)) dX7_readCond_119 ⟨Nat.le_of_ble_eq_true rfl, Nat.le_of_ble_eq_true rfl⟩) hS (fun q _ h => XA.le hS.1 q h) (XA.le hS.1) (fun x t H locs ht hvm hw hB9 _ _ hS => ?_)
              have hP := xB.at ht hB9
              clear hB9 ht hvm
              obtain ⟨st178, sl179, so180⟩ := x
              obtain ⟨hGst178, hOst178, hFst178, hw⟩ := hw
              dsimp only at hGst178 hOst178 hFst178 hw
              have hO : OG ad [2, 4] so so180 := hO.tr hOst178 (by decide)
              have hP : va_P (dC, dI) vwCl (xw A C nb st178 sl179 so180) _ := hP
              have hG : XG [1, 2, 3, 4, 5, 6, 7, 12, 13, 14, 15] st st178 := hG.tr hGst178 (by decide)
              have hF : FX 5 st sl so st178 sl179 so180 := hF.tr hFst178 (by omega) (by omega)
              have hR : CN c nm st178 sl179 0 := hR.fr0 hFst178
              obtain ⟨hf181, hf182, hf183, hT⟩ := hw
              have hp9 := hT.2.2.2.2.2.2
              have hk1 := tkd_lt (B := B) (g := g) (m := m) (p := p7)
              have hk2 := tkx_le (B := B) (g := g) (m := m) (p := p7) hp9
              have hk3 := tka_le (B := B) (g := g) (m := m) (p := p7) hp9 hB.2.2.1
              have hk4 := tkv_ltc (p := p7) hB hp9
              have hk5 := tkw_lt (B := B) (g := g) (m := m) (p := p7)
              refine lv_iload hx hb dX7_readCond_122 (lv_at hl 2 rfl) ?_
              refine lv_if_eq (tgt := 146) hx hb dX7_readCond_124 (by decide) (fun cc => absurd cc (by decide)) (fun _ => ?_)
              refine lv_iload_n hx hb dX7_readCond_127 rfl (lv_at hl 6 rfl) ?_
              refine lv_iconst (v := 1) hx hb dX7_readCond_128 (by decide) ?_
              refine lv_icmp_ne (tgt := 146) hx hb dX7_readCond_129 (by decide) (fun _ => ?_) (fun cc => absurd cc (by decide))
              refine lv_iload hx hb dX7_readCond_146 (lv_at hl 2 rfl) ?_
              exact W.zret (v := 1) hx hb hr rfl (fun t ht hW => ⟨⟨1, (st178, sl179, so180), rfl, ⟨hG, hO, hF, Or.inl (⟨p7, o7, rfl, hT, by show st178 1 13 = st 1 13; rw [hf181]; exact h13, by show st178 (20 + 4 * 1) 4 = _; rw [hf183, ho7], by omega, by omega, hco.trans (sL_n (by omega))⟩)⟩, xB.of ht hP⟩, hS.F ht⟩) hS.2.2 dX7_readCond_148
          · have c26 : (tkw B g m p7) = 13 := (EV.eqw hEv (i := (tkw B g m p7)) (j := 13) (by omega) (by omega)).mp c26
            refine lv_iload hx hb dX7_readCond_72 (lv_at hl 1 rfl) ?_
            refine lv_if_eq (tgt := 86) hx hb dX7_readCond_74 (by decide) (fun c32 => ?_) (fun c32 => ?_)
            · have c32 : k144 = 0 := (nI_eq (a := k144) (b := 0) (by omega) (by omega)).mp c32
              refine lv_iconst (v := 1) hx hb dX7_readCond_86 (by decide) ?_
              refine lv_istore (lv' := [(5, .int 1), (6, .int (nI k143)), (4, .int 1), (0, .ref (A (20 + 4 * 1))), (1, .ref (A 1)), (2, .ref (A (36 + 20 * 0))), (3, .int 8)]) hx hb dX7_readCond_87 hl (by decide) rfl (fun ls hl => ?_)
              refine lv_aload_n hx hb dX7_readCond_89 rfl (lv_at hl 4 rfl) ?_
              refine va_callv (va_runV (As := []) (rest := []) ⟨hx, hb, hml, hown, hts⟩ (y_X8_step l dC dI ad E hEE A C nb _ hN st146 sl147 so148 B g m (tkx B g m p7) hG.1 hO.1 (CBt.fr hB hF) hT.1 hk2.2) (cwV 0 hts gX7_readCond_X8_step rfl rfl rfl (by decide +kernel) ⟨Nat.le_of_ble_eq_true rfl, Nat.le_of_ble_eq_true rfl⟩) ⟨fun a U g mk q => ⟨q.1, xPre.blind hEE q.2⟩, va_recv hK hP (ci := 9) (q0 := 1) rfl (xw_is (r := 1) (by omega) (xc_fix (r := 1) (by omega))), fun U hU hW => ⟨rfl, xPre.of hEE hP hK hE hS hU hW⟩⟩ rfl rfl hl.1 rfl (lv_room (Nat.le_of_ble_eq_true rfl)) dX7_readCond_90 ⟨Nat.le_of_ble_eq_true rfl, Nat.le_of_ble_eq_true rfl⟩) hS (fun q _ h => XA.le hS.1 q h) (XA.le hS.1) (fun x t H locs ht hvm hw hB9 _ _ hS => ?_)
              have hP := xB.at ht hB9
              clear hB9 ht hvm
              obtain ⟨st185, sl186, so187⟩ := x
              obtain ⟨hGst185, hOst185, hFst185, hw⟩ := hw
              dsimp only at hGst185 hOst185 hFst185 hw
              have hO : OG ad [2, 4] so so187 := hO.tr hOst185 (by decide)
              have hP : va_P (dC, dI) vwCl (xw A C nb st185 sl186 so187) _ := hP
              have hG : XG [1, 2, 3, 4, 5, 6, 7, 12, 13, 14, 15] st st185 := hG.tr hGst185 (by decide)
              have hF : FX 5 st sl so st185 sl186 so187 := hF.tr hFst185 (by omega) (by omega)
              have hR : CN c nm st185 sl186 0 := hR.fr0 hFst185
              have hT := hw
              have hp9 := hT.2.2.2.2.2.2
              have hk1 := tkd_lt (B := B) (g := g) (m := m) (p := (tkx B g m p7))
              have hk2 := tkx_le (B := B) (g := g) (m := m) (p := (tkx B g m p7)) hp9
              have hk3 := tka_le (B := B) (g := g) (m := m) (p := (tkx B g m p7)) hp9 hB.2.2.1
              have hk4 := tkv_ltc (p := (tkx B g m p7)) hB hp9
              have hk5 := tkw_lt (B := B) (g := g) (m := m) (p := (tkx B g m p7))
              refine lv_aload_n hx hb dX7_readCond_93 rfl (lv_at hl 3 rfl) ?_
              refine lv_aload_n hx hb dX7_readCond_94 rfl (lv_at hl 4 rfl) ?_
              refine lv_aload_n hx hb dX7_readCond_95 rfl (lv_at hl 5 rfl) ?_
              refine lv_iload_n hx hb dX7_readCond_96 rfl (lv_at hl 6 rfl) ?_
              refine va_calli (va_runV (As := [.ref (A 1), .ref (A (36 + 20 * 0)), .int 8]) (rest := []) ⟨hx, hb, hml, hown, hts⟩ (y_readOne_8 l dC dI ad E hEE A C nb _ hN st185 sl186 so187 B g m (tkx B g m p7) c nm o7 hG.1 hO.1 (CBt.fr hB hF) hT hR (by rw [(hFst185 (20 + 4 * 1) 4 (by decide)).1, ho7]) (by omega)) (cwV 3 hts gX7_readCond_X7_readOne rfl rfl rfl (by decide +kernel) ⟨Nat.le_of_ble_eq_true rfl, Nat.le_of_ble_eq_true rfl⟩) ⟨fun a U g mk q => ⟨q.1, xPre.blind hEE q.2⟩, va_recv hK hP (ci := 8) (q0 := (20 + 4 * 1)) rfl (xw_is (r := (20 + 4 * 1)) (by omega) (xc_sn (q := 1) (o := 0) (by omega) (by omega))), fun U hU hW => ⟨rfl, xPre.of hEE hP hK hE hS hU hW⟩⟩ rfl rfl hl.1 rfl (lv_room (Nat.le_of_ble_eq_true rfl)) dX7_readCond_97 ⟨Nat.le_of_ble_eq_true rfl, Nat.le_of_ble_eq_true rfl⟩) hS (fun q _ h => XA.le hS.1 q h) (XA.le hS.1) (fun r188 x t H locs ht hvm hw hB9 _ _ hS => ?_)
              have hP := xB.at ht hB9
              clear hB9 ht hvm
              obtain ⟨st189, sl190, so191⟩ := x
              obtain ⟨hGst189, hOst189, hFst189, hw⟩ := hw
              dsimp only at hGst189 hOst189 hFst189 hw
              have hO : OG ad [2, 4] so so191 := hO.tr hOst189 (by decide)
              have hP : va_P (dC, dI) vwCl (xw A C nb st189 sl190 so191) _ := hP
              have hG : XG [1, 2, 3, 4, 5, 6, 7, 12, 13, 14, 15] st st189 := hG.tr hGst189 (by decide)
              have hF : FX 5 st sl so st189 sl190 so191 := hF.tr hFst189 (by omega) (by omega)
              have hR : CN c nm st189 sl190 0 := hR.fr0 hFst189
              rcases hw with ⟨n192, n193, rfl, hT, hf194, hf195, hf196, hf197, hf198⟩ | ⟨n199, n200, rfl, hf201, hf202, hf203, hf204⟩
              · have hp9 := hT.2.2.2.2.2.2
                have hk1 := tkd_lt (B := B) (g := g) (m := m) (p := n192)
                have hk2 := tkx_le (B := B) (g := g) (m := m) (p := n192) hp9
                have hk3 := tka_le (B := B) (g := g) (m := m) (p := n192) hp9 hB.2.2.1
                have hk4 := tkv_ltc (p := n192) hB hp9
                have hk5 := tkw_lt (B := B) (g := g) (m := m) (p := n192)
                refine lv_istore (lv' := [(4, .int 1), (5, .int 1), (6, .int (nI k143)), (0, .ref (A (20 + 4 * 1))), (1, .ref (A 1)), (2, .ref (A (36 + 20 * 0))), (3, .int 8)]) hx hb dX7_readCond_100 hl (by decide) rfl (fun ls hl => ?_)
                refine lv_iinc (v := (nI (k143 + 1))) (lv' := [(6, .int (nI (k143 + 1))), (4, .int 1), (5, .int 1), (0, .ref (A (20 + 4 * 1))), (1, .ref (A 1)), (2, .ref (A (36 + 20 * 0))), (3, .int 8)]) hx hb dX7_readCond_102 hl (k := 2) rfl (nI_add k143 1) (by decide) rfl (fun ls hl => ?_)
                refine lv_goto (tgt := 15) hx hb dX7_readCond_105 (by decide) ?_
                exact ih159 (21 - (k143 + 1)) _ _ _ _ (by omega) ⟨(k143 + 1), 1, 1, st189, sl190, so191, rfl, by omega, by omega, by omega, by omega, by omega, by omega, fun _ => ⟨n192, n193, hT, by show st189 1 13 = st 1 13; rw [hf194, (hFst185 1 13 (by decide)).1]; exact h13, by show st189 (20 + 4 * 1) 4 = _; rw [hf195], by omega, by omega, hco.trans (sL_y (sOne_pr _) (by omega) (by omega) hf198)⟩, fun h9 => absurd h9 (by decide), hR, hF, hP, hG, hO, hS, lv_sub hl [0, 2, 1, 3, 4, 5, 6] rfl, rfl⟩
              · refine lv_istore (lv' := [(4, .int 0), (5, .int 1), (6, .int (nI k143)), (0, .ref (A (20 + 4 * 1))), (1, .ref (A 1)), (2, .ref (A (36 + 20 * 0))), (3, .int 8)]) hx hb dX7_readCond_100 hl (by decide) rfl (fun ls hl => ?_)
                refine lv_iinc (v := (nI (k143 + 1))) (lv' := [(6, .int (nI (k143 + 1))), (4, .int 0), (5, .int 1), (0, .ref (A (20 + 4 * 1))), (1, .ref (A 1)), (2, .ref (A (36 + 20 * 0))), (3, .int 8)]) hx hb dX7_readCond_102 hl (k := 2) rfl (nI_add k143 1) (by decide) rfl (fun ls hl => ?_)
                refine lv_goto (tgt := 15) hx hb dX7_readCond_105 (by decide) ?_
                exact ih159 (21 - (k143 + 1)) _ _ _ _ (by omega) ⟨(k143 + 1), 1, 0, st189, sl190, so191, rfl, by omega, by omega, by omega, by omega, by omega, by omega, fun h9 => absurd h9 (by decide), fun _ => ⟨n199, n200, by show st189 1 13 = _; rw [hf201], by show st189 1 14 = _; rw [hf202], hf203, hco.trans (sL_f (by omega) hf204 (by omega))⟩, hR, hF, hP, hG, hO, hS, lv_sub hl [0, 2, 1, 3, 4, 5, 6] rfl, rfl⟩
            · have c32 : ¬ k144 = 0 := fun hh => c32 ((nI_eq (a := k144) (b := 0) (by omega) (by omega)).mpr hh)
              refine lv_aload_n hx hb dX7_readCond_77 rfl (lv_at hl 3 rfl) ?_
              refine va_gets (v := .ref (ad 13)) hx hb (EV.word hEv (i := 13) (by decide)) hS hown (hts _ mm_X7_readCond_2) (fun _ hh => hh) dX7_readCond_78 ?_
              refine lv_iconst (v := 0) hx hb dX7_readCond_81 (by decide) ?_
              refine lv_iconst (v := 0) hx hb dX7_readCond_82 (by decide) ?_
              refine va_callv (va_runV (As := [.ref (ad 13), .int 0, .int 0]) (rest := []) ⟨hx, hb, hml, hown, hts⟩ (y_addT l dC dI ad E hEE A C nb _ hN st146 sl147 so148 13 0 0 B g m p7 (by omega) hG.1 hO.1 (CBt.fr hB hF) hT) (cwV 3 hts gX7_readCond_X7_add rfl rfl rfl (by decide +kernel) ⟨Nat.le_of_ble_eq_true rfl, Nat.le_of_ble_eq_true rfl⟩) ⟨fun a U g mk q => ⟨q.1, xPre.blind hEE q.2⟩, va_recv hK hP (ci := 8) (q0 := (20 + 4 * 1)) rfl (xw_is (r := (20 + 4 * 1)) (by omega) (xc_sn (q := 1) (o := 0) (by omega) (by omega))), fun U hU hW => ⟨rfl, xPre.of hEE hP hK hE hS hU hW⟩⟩ rfl rfl hl.1 rfl (lv_room (Nat.le_of_ble_eq_true rfl)) dX7_readCond_83 ⟨Nat.le_of_ble_eq_true rfl, Nat.le_of_ble_eq_true rfl⟩) hS (fun q _ h => XA.le hS.1 q h) (XA.le hS.1) (fun x t H locs ht hvm hw hB9 _ _ hS => ?_)
              have hP := xB.at ht hB9
              clear hB9 ht hvm
              obtain ⟨st206, sl207, so208⟩ := x
              obtain ⟨hGst206, hOst206, hFst206, hw⟩ := hw
              dsimp only at hGst206 hOst206 hFst206 hw
              have hO : OG ad [2, 4] so so208 := hO.tr hOst206 (by decide)
              have hP : va_P (dC, dI) vwCl (xw A C nb st206 sl207 so208) _ := hP
              have hG : XG [1, 2, 3, 4, 5, 6, 7, 12, 13, 14, 15] st st206 := hG.tr hGst206 (by decide)
              have hF : FX 5 st sl so st206 sl207 so208 := hF.tr hFst206 (by omega) (by omega)
              have hR : CN c nm st206 sl207 0 := hR.fr0 hFst206
              obtain ⟨hf209, hf210, hf211, hT⟩ := hw
              have hp9 := hT.2.2.2.2.2.2
              have hk1 := tkd_lt (B := B) (g := g) (m := m) (p := p7)
              have hk2 := tkx_le (B := B) (g := g) (m := m) (p := p7) hp9
              have hk3 := tka_le (B := B) (g := g) (m := m) (p := p7) hp9 hB.2.2.1
              have hk4 := tkv_ltc (p := p7) hB hp9
              have hk5 := tkw_lt (B := B) (g := g) (m := m) (p := p7)
              refine lv_iconst (v := 1) hx hb dX7_readCond_86 (by decide) ?_
              refine lv_istore (lv' := [(5, .int 1), (6, .int (nI k143)), (4, .int 1), (0, .ref (A (20 + 4 * 1))), (1, .ref (A 1)), (2, .ref (A (36 + 20 * 0))), (3, .int 8)]) hx hb dX7_readCond_87 hl (by decide) rfl (fun ls hl => ?_)
              refine lv_aload_n hx hb dX7_readCond_89 rfl (lv_at hl 4 rfl) ?_
              refine va_callv (va_runV (As := []) (rest := []) ⟨hx, hb, hml, hown, hts⟩ (y_X8_step l dC dI ad E hEE A C nb _ hN st206 sl207 so208 B g m (tkx B g m p7) hG.1 hO.1 (CBt.fr hB hF) hT.1 hk2.2) (cwV 0 hts gX7_readCond_X8_step rfl rfl rfl (by decide +kernel) ⟨Nat.le_of_ble_eq_true rfl, Nat.le_of_ble_eq_true rfl⟩) ⟨fun a U g mk q => ⟨q.1, xPre.blind hEE q.2⟩, va_recv hK hP (ci := 9) (q0 := 1) rfl (xw_is (r := 1) (by omega) (xc_fix (r := 1) (by omega))), fun U hU hW => ⟨rfl, xPre.of hEE hP hK hE hS hU hW⟩⟩ rfl rfl hl.1 rfl (lv_room (Nat.le_of_ble_eq_true rfl)) dX7_readCond_90 ⟨Nat.le_of_ble_eq_true rfl, Nat.le_of_ble_eq_true rfl⟩) hS (fun q _ h => XA.le hS.1 q h) (XA.le hS.1) (fun x t H locs ht hvm hw hB9 _ _ hS => ?_)
              have hP := xB.at ht hB9
              clear hB9 ht hvm
              obtain ⟨st213, sl214, so215⟩ := x
              obtain ⟨hGst213, hOst213, hFst213, hw⟩ := hw
              dsimp only at hGst213 hOst213 hFst213 hw
              have hO : OG ad [2, 4] so so215 := hO.tr hOst213 (by decide)
              have hP : va_P (dC, dI) vwCl (xw A C nb st213 sl214 so215) _ := hP
              have hG : XG [1, 2, 3, 4, 5, 6, 7, 12, 13, 14, 15] st st213 := hG.tr hGst213 (by decide)
              have hF : FX 5 st sl so st213 sl214 so215 := hF.tr hFst213 (by omega) (by omega)
              have hR : CN c nm st213 sl214 0 := hR.fr0 hFst213
              have hT := hw
              have hp9 := hT.2.2.2.2.2.2
              have hk1 := tkd_lt (B := B) (g := g) (m := m) (p := (tkx B g m p7))
              have hk2 := tkx_le (B := B) (g := g) (m := m) (p := (tkx B g m p7)) hp9
              have hk3 := tka_le (B := B) (g := g) (m := m) (p := (tkx B g m p7)) hp9 hB.2.2.1
              have hk4 := tkv_ltc (p := (tkx B g m p7)) hB hp9
              have hk5 := tkw_lt (B := B) (g := g) (m := m) (p := (tkx B g m p7))
              refine lv_aload_n hx hb dX7_readCond_93 rfl (lv_at hl 3 rfl) ?_
              refine lv_aload_n hx hb dX7_readCond_94 rfl (lv_at hl 4 rfl) ?_
              refine lv_aload_n hx hb dX7_readCond_95 rfl (lv_at hl 5 rfl) ?_
              refine lv_iload_n hx hb dX7_readCond_96 rfl (lv_at hl 6 rfl) ?_
              refine va_calli (va_runV (As := [.ref (A 1), .ref (A (36 + 20 * 0)), .int 8]) (rest := []) ⟨hx, hb, hml, hown, hts⟩ (y_readOne_8 l dC dI ad E hEE A C nb _ hN st213 sl214 so215 B g m (tkx B g m p7) c nm o7 hG.1 hO.1 (CBt.fr hB hF) hT hR (by rw [(hFst213 (20 + 4 * 1) 4 (by decide)).1, hf211, ho7]) (by omega)) (cwV 3 hts gX7_readCond_X7_readOne rfl rfl rfl (by decide +kernel) ⟨Nat.le_of_ble_eq_true rfl, Nat.le_of_ble_eq_true rfl⟩) ⟨fun a U g mk q => ⟨q.1, xPre.blind hEE q.2⟩, va_recv hK hP (ci := 8) (q0 := (20 + 4 * 1)) rfl (xw_is (r := (20 + 4 * 1)) (by omega) (xc_sn (q := 1) (o := 0) (by omega) (by omega))), fun U hU hW => ⟨rfl, xPre.of hEE hP hK hE hS hU hW⟩⟩ rfl rfl hl.1 rfl (lv_room (Nat.le_of_ble_eq_true rfl)) dX7_readCond_97 ⟨Nat.le_of_ble_eq_true rfl, Nat.le_of_ble_eq_true rfl⟩) hS (fun q _ h => XA.le hS.1 q h) (XA.le hS.1) (fun r216 x t H locs ht hvm hw hB9 _ _ hS => ?_)
              have hP := xB.at ht hB9
              clear hB9 ht hvm
              obtain ⟨st217, sl218, so219⟩ := x
              obtain ⟨hGst217, hOst217, hFst217, hw⟩ := hw
              dsimp only at hGst217 hOst217 hFst217 hw
              have hO : OG ad [2, 4] so so219 := hO.tr hOst217 (by decide)
              have hP : va_P (dC, dI) vwCl (xw A C nb st217 sl218 so219) _ := hP
              have hG : XG [1, 2, 3, 4, 5, 6, 7, 12, 13, 14, 15] st st217 := hG.tr hGst217 (by decide)
              have hF : FX 5 st sl so st217 sl218 so219 := hF.tr hFst217 (by omega) (by omega)
              have hR : CN c nm st217 sl218 0 := hR.fr0 hFst217
              rcases hw with ⟨n220, n221, rfl, hT, hf222, hf223, hf224, hf225, hf226⟩ | ⟨n227, n228, rfl, hf229, hf230, hf231, hf232⟩
              · have hp9 := hT.2.2.2.2.2.2
                have hk1 := tkd_lt (B := B) (g := g) (m := m) (p := n220)
                have hk2 := tkx_le (B := B) (g := g) (m := m) (p := n220) hp9
                have hk3 := tka_le (B := B) (g := g) (m := m) (p := n220) hp9 hB.2.2.1
                have hk4 := tkv_ltc (p := n220) hB hp9
                have hk5 := tkw_lt (B := B) (g := g) (m := m) (p := n220)
                refine lv_istore (lv' := [(4, .int 1), (5, .int 1), (6, .int (nI k143)), (0, .ref (A (20 + 4 * 1))), (1, .ref (A 1)), (2, .ref (A (36 + 20 * 0))), (3, .int 8)]) hx hb dX7_readCond_100 hl (by decide) rfl (fun ls hl => ?_)
                refine lv_iinc (v := (nI (k143 + 1))) (lv' := [(6, .int (nI (k143 + 1))), (4, .int 1), (5, .int 1), (0, .ref (A (20 + 4 * 1))), (1, .ref (A 1)), (2, .ref (A (36 + 20 * 0))), (3, .int 8)]) hx hb dX7_readCond_102 hl (k := 2) rfl (nI_add k143 1) (by decide) rfl (fun ls hl => ?_)
                refine lv_goto (tgt := 15) hx hb dX7_readCond_105 (by decide) ?_
                exact ih159 (21 - (k143 + 1)) _ _ _ _ (by omega) ⟨(k143 + 1), 1, 1, st217, sl218, so219, rfl, by omega, by omega, by omega, by omega, by omega, by omega, fun _ => ⟨n220, n221, hT, by show st217 1 13 = st 1 13; rw [hf222, (hFst213 1 13 (by decide)).1, hf209]; exact h13, by show st217 (20 + 4 * 1) 4 = _; rw [hf223], by omega, by omega, hco.trans (sL_y (sOne_pr _) (by omega) (by omega) hf226)⟩, fun h9 => absurd h9 (by decide), hR, hF, hP, hG, hO, hS, lv_sub hl [0, 2, 1, 3, 4, 5, 6] rfl, rfl⟩
              · refine lv_istore (lv' := [(4, .int 0), (5, .int 1), (6, .int (nI k143)), (0, .ref (A (20 + 4 * 1))), (1, .ref (A 1)), (2, .ref (A (36 + 20 * 0))), (3, .int 8)]) hx hb dX7_readCond_100 hl (by decide) rfl (fun ls hl => ?_)
                refine lv_iinc (v := (nI (k143 + 1))) (lv' := [(6, .int (nI (k143 + 1))), (4, .int 0), (5, .int 1), (0, .ref (A (20 + 4 * 1))), (1, .ref (A 1)), (2, .ref (A (36 + 20 * 0))), (3, .int 8)]) hx hb dX7_readCond_102 hl (k := 2) rfl (nI_add k143 1) (by decide) rfl (fun ls hl => ?_)
                refine lv_goto (tgt := 15) hx hb dX7_readCond_105 (by decide) ?_
                exact ih159 (21 - (k143 + 1)) _ _ _ _ (by omega) ⟨(k143 + 1), 1, 0, st217, sl218, so219, rfl, by omega, by omega, by omega, by omega, by omega, by omega, fun h9 => absurd h9 (by decide), fun _ => ⟨n227, n228, by show st217 1 13 = _; rw [hf229], by show st217 1 14 = _; rw [hf230], hf231, hco.trans (sL_f (by omega) hf232 (by omega))⟩, hR, hF, hP, hG, hO, hS, lv_sub hl [0, 2, 1, 3, 4, 5, 6] rfl, rfl⟩
        · have c25 : (tkw B g m p7) = 14 := (EV.eqw hEv (i := (tkw B g m p7)) (j := 14) (by omega) (by omega)).mp c25
          refine lv_aload_n hx hb dX7_readCond_37 rfl (lv_at hl 4 rfl) ?_
          refine va_callv (va_runV (As := []) (rest := []) ⟨hx, hb, hml, hown, hts⟩ (y_X8_step l dC dI ad E hEE A C nb _ hN st146 sl147 so148 B g m (tkx B g m p7) hG.1 hO.1 (CBt.fr hB hF) hT.1 hk2.2) (cwV 0 hts gX7_readCond_X8_step rfl rfl rfl (by decide +kernel) ⟨Nat.le_of_ble_eq_true rfl, Nat.le_of_ble_eq_true rfl⟩) ⟨fun a U g mk q => ⟨q.1, xPre.blind hEE q.2⟩, va_recv hK hP (ci := 9) (q0 := 1) rfl (xw_is (r := 1) (by omega) (xc_fix (r := 1) (by omega))), fun U hU hW => ⟨rfl, xPre.of hEE hP hK hE hS hU hW⟩⟩ rfl rfl hl.1 rfl (lv_room (Nat.le_of_ble_eq_true rfl)) dX7_readCond_38 ⟨Nat.le_of_ble_eq_true rfl, Nat.le_of_ble_eq_true rfl⟩) hS (fun q _ h => XA.le hS.1 q h) (XA.le hS.1) (fun x t H locs ht hvm hw hB9 _ _ hS => ?_)
          have hP := xB.at ht hB9
          clear hB9 ht hvm
          obtain ⟨st234, sl235, so236⟩ := x
          obtain ⟨hGst234, hOst234, hFst234, hw⟩ := hw
          dsimp only at hGst234 hOst234 hFst234 hw
          have hO : OG ad [2, 4] so so236 := hO.tr hOst234 (by decide)
          have hP : va_P (dC, dI) vwCl (xw A C nb st234 sl235 so236) _ := hP
          have hG : XG [1, 2, 3, 4, 5, 6, 7, 12, 13, 14, 15] st st234 := hG.tr hGst234 (by decide)
          have hF : FX 5 st sl so st234 sl235 so236 := hF.tr hFst234 (by omega) (by omega)
          have hR : CN c nm st234 sl235 0 := hR.fr0 hFst234
          have hT := hw
          have hp9 := hT.2.2.2.2.2.2
          have hk1 := tkd_lt (B := B) (g := g) (m := m) (p := (tkx B g m p7))
          have hk2 := tkx_le (B := B) (g := g) (m := m) (p := (tkx B g m p7)) hp9
          have hk3 := tka_le (B := B) (g := g) (m := m) (p := (tkx B g m p7)) hp9 hB.2.2.1
          have hk4 := tkv_ltc (p := (tkx B g m p7)) hB hp9
          have hk5 := tkw_lt (B := B) (g := g) (m := m) (p := (tkx B g m p7))
          refine lv_aload_n hx hb dX7_readCond_41 rfl (lv_at hl 3 rfl) ?_
          refine lv_aload_n hx hb dX7_readCond_42 rfl (lv_at hl 4 rfl) ?_
          refine lv_aload_n hx hb dX7_readCond_43 rfl (lv_at hl 5 rfl) ?_
          refine lv_iload_n hx hb dX7_readCond_44 rfl (lv_at hl 6 rfl) ?_
          refine va_calli (va_runV (As := [.ref (A 1), .ref (A (36 + 20 * 0)), .int 8]) (rest := []) ⟨hx, hb, hml, hown, hts⟩ (y_readOne_8 l dC dI ad E hEE A C nb _ hN st234 sl235 so236 B g m (tkx B g m p7) c nm o7 hG.1 hO.1 (CBt.fr hB hF) hT hR (by rw [(hFst234 (20 + 4 * 1) 4 (by decide)).1, ho7]) (by omega)) (cwV 3 hts gX7_readCond_X7_readOne rfl rfl rfl (by decide +kernel) ⟨Nat.le_of_ble_eq_true rfl, Nat.le_of_ble_eq_true rfl⟩) ⟨fun a U g mk q => ⟨q.1, xPre.blind hEE q.2⟩, va_recv hK hP (ci := 8) (q0 := (20 + 4 * 1)) rfl (xw_is (r := (20 + 4 * 1)) (by omega) (xc_sn (q := 1) (o := 0) (by omega) (by omega))), fun U hU hW => ⟨rfl, xPre.of hEE hP hK hE hS hU hW⟩⟩ rfl rfl hl.1 rfl (lv_room (Nat.le_of_ble_eq_true rfl)) dX7_readCond_45 ⟨Nat.le_of_ble_eq_true rfl, Nat.le_of_ble_eq_true rfl⟩) hS (fun q _ h => XA.le hS.1 q h) (XA.le hS.1) (fun r237 x t H locs ht hvm hw hB9 _ _ hS => ?_)
          have hP := xB.at ht hB9
          clear hB9 ht hvm
          obtain ⟨st238, sl239, so240⟩ := x
          obtain ⟨hGst238, hOst238, hFst238, hw⟩ := hw
          dsimp only at hGst238 hOst238 hFst238 hw
          have hO : OG ad [2, 4] so so240 := hO.tr hOst238 (by decide)
          have hP : va_P (dC, dI) vwCl (xw A C nb st238 sl239 so240) _ := hP
          have hG : XG [1, 2, 3, 4, 5, 6, 7, 12, 13, 14, 15] st st238 := hG.tr hGst238 (by decide)
          have hF : FX 5 st sl so st238 sl239 so240 := hF.tr hFst238 (by omega) (by omega)
          have hR : CN c nm st238 sl239 0 := hR.fr0 hFst238
          rcases hw with ⟨n241, n242, rfl, hT, hf243, hf244, hf245, hf246, hf247⟩ | ⟨n248, n249, rfl, hf250, hf251, hf252, hf253⟩
          · have hp9 := hT.2.2.2.2.2.2
            have hk1 := tkd_lt (B := B) (g := g) (m := m) (p := n241)
            have hk2 := tkx_le (B := B) (g := g) (m := m) (p := n241) hp9
            have hk3 := tka_le (B := B) (g := g) (m := m) (p := n241) hp9 hB.2.2.1
            have hk4 := tkv_ltc (p := n241) hB hp9
            have hk5 := tkw_lt (B := B) (g := g) (m := m) (p := n241)
            refine lv_istore (lv' := [(4, .int 1), (6, .int (nI k143)), (5, .int (nI k144)), (0, .ref (A (20 + 4 * 1))), (1, .ref (A 1)), (2, .ref (A (36 + 20 * 0))), (3, .int 8)]) hx hb dX7_readCond_48 hl (by decide) rfl (fun ls hl => ?_)
            refine lv_aload_n hx hb dX7_readCond_50 rfl (lv_at hl 3 rfl) ?_
            refine va_gets (v := .ref (ad 14)) hx hb (EV.word hEv (i := 14) (by decide)) hS hown (hts _ mm_X7_readCond_1) (fun _ hh => hh) dX7_readCond_51 ?_
            refine lv_iconst (v := 0) hx hb dX7_readCond_54 (by decide) ?_
            refine lv_iconst (v := 0) hx hb dX7_readCond_55 (by decide) ?_
            refine va_callv (va_runV (As := [.ref (ad 14), .int 0, .int 0]) (rest := []) ⟨hx, hb, hml, hown, hts⟩ (y_addT l dC dI ad E hEE A C nb _ hN st238 sl239 so240 14 0 0 B g m n241 (by omega) hG.1 hO.1 (CBt.fr hB hF) hT) (cwV 3 hts gX7_readCond_X7_add rfl rfl rfl (by decide +kernel) ⟨Nat.le_of_ble_eq_true rfl, Nat.le_of_ble_eq_true rfl⟩) ⟨fun a U g mk q => ⟨q.1, xPre.blind hEE q.2⟩, va_recv hK hP (ci := 8) (q0 := (20 + 4 * 1)) rfl (xw_is (r := (20 + 4 * 1)) (by omega) (xc_sn (q := 1) (o := 0) (by omega) (by omega))), fun U hU hW => ⟨rfl, xPre.of hEE hP hK hE hS hU hW⟩⟩ rfl rfl hl.1 rfl (lv_room (Nat.le_of_ble_eq_true rfl)) dX7_readCond_56 ⟨Nat.le_of_ble_eq_true rfl, Nat.le_of_ble_eq_true rfl⟩) hS (fun q _ h => XA.le hS.1 q h) (XA.le hS.1) (fun x t H locs ht hvm hw hB9 _ _ hS => ?_)
            have hP := xB.at ht hB9
            clear hB9 ht hvm
            obtain ⟨st255, sl256, so257⟩ := x
            obtain ⟨hGst255, hOst255, hFst255, hw⟩ := hw
            dsimp only at hGst255 hOst255 hFst255 hw
            have hO : OG ad [2, 4] so so257 := hO.tr hOst255 (by decide)
            have hP : va_P (dC, dI) vwCl (xw A C nb st255 sl256 so257) _ := hP
            have hG : XG [1, 2, 3, 4, 5, 6, 7, 12, 13, 14, 15] st st255 := hG.tr hGst255 (by decide)
            have hF : FX 5 st sl so st255 sl256 so257 := hF.tr hFst255 (by omega) (by omega)
            have hR : CN c nm st255 sl256 0 := hR.fr0 hFst255
            obtain ⟨hf258, hf259, hf260, hT⟩ := hw
            have hp9 := hT.2.2.2.2.2.2
            have hk1 := tkd_lt (B := B) (g := g) (m := m) (p := n241)
            have hk2 := tkx_le (B := B) (g := g) (m := m) (p := n241) hp9
            have hk3 := tka_le (B := B) (g := g) (m := m) (p := n241) hp9 hB.2.2.1
            have hk4 := tkv_ltc (p := n241) hB hp9
            have hk5 := tkw_lt (B := B) (g := g) (m := m) (p := n241)
            refine lv_goto (tgt := 102) hx hb dX7_readCond_59 (by decide) ?_
            refine lv_iinc (v := (nI (k143 + 1))) (lv' := [(6, .int (nI (k143 + 1))), (4, .int 1), (5, .int (nI k144)), (0, .ref (A (20 + 4 * 1))), (1, .ref (A 1)), (2, .ref (A (36 + 20 * 0))), (3, .int 8)]) hx hb dX7_readCond_102 hl (k := 1) rfl (nI_add k143 1) (by decide) rfl (fun ls hl => ?_)
            refine lv_goto (tgt := 15) hx hb dX7_readCond_105 (by decide) ?_
            exact ih159 (21 - (k143 + 1)) _ _ _ _ (by omega) ⟨(k143 + 1), k144, 1, st255, sl256, so257, rfl, by omega, by omega, by omega, by omega, by omega, by omega, fun _ => ⟨n241, n242, hT, by show st255 1 13 = st 1 13; rw [hf258, hf243, (hFst234 1 13 (by decide)).1]; exact h13, by show st255 (20 + 4 * 1) 4 = _; rw [hf260, hf244], by omega, by omega, hco.trans (sL_y (sOne_pr _) (by omega) (by omega) hf247)⟩, fun h9 => absurd h9 (by decide), hR, hF, hP, hG, hO, hS, lv_sub hl [0, 2, 1, 3, 4, 5, 6] rfl, rfl⟩
          · refine lv_istore (lv' := [(4, .int 0), (6, .int (nI k143)), (5, .int (nI k144)), (0, .ref (A (20 + 4 * 1))), (1, .ref (A 1)), (2, .ref (A (36 + 20 * 0))), (3, .int 8)]) hx hb dX7_readCond_48 hl (by decide) rfl (fun ls hl => ?_)
            refine lv_aload_n hx hb dX7_readCond_50 rfl (lv_at hl 3 rfl) ?_
            refine va_gets (v := .ref (ad 14)) hx hb (EV.word hEv (i := 14) (by decide)) hS hown (hts _ mm_X7_readCond_1) (fun _ hh => hh) dX7_readCond_51 ?_
            refine lv_iconst (v := 0) hx hb dX7_readCond_54 (by decide) ?_
            refine lv_iconst (v := 0) hx hb dX7_readCond_55 (by decide) ?_
            refine va_callv (va_runV (As := [.ref (ad 14), .int 0, .int 0]) (rest := []) ⟨hx, hb, hml, hown, hts⟩ (y_addN l dC dI ad E hEE A C nb _ hN st238 sl239 so240 14 0 0 (by omega) hG.1 hO.1 ) (cwV 3 hts gX7_readCond_X7_add rfl rfl rfl (by decide +kernel) ⟨Nat.le_of_ble_eq_true rfl, Nat.le_of_ble_eq_true rfl⟩) ⟨fun a U g mk q => ⟨q.1, xPre.blind hEE q.2⟩, va_recv hK hP (ci := 8) (q0 := (20 + 4 * 1)) rfl (xw_is (r := (20 + 4 * 1)) (by omega) (xc_sn (q := 1) (o := 0) (by omega) (by omega))), fun U hU hW => ⟨rfl, xPre.of hEE hP hK hE hS hU hW⟩⟩ rfl rfl hl.1 rfl (lv_room (Nat.le_of_ble_eq_true rfl)) dX7_readCond_56 ⟨Nat.le_of_ble_eq_true rfl, Nat.le_of_ble_eq_true rfl⟩) hS (fun q _ h => XA.le hS.1 q h) (XA.le hS.1) (fun x t H locs ht hvm hw hB9 _ _ hS => ?_)
            have hP := xB.at ht hB9
            clear hB9 ht hvm
            obtain ⟨st262, sl263, so264⟩ := x
            obtain ⟨hGst262, hOst262, hFst262, hw⟩ := hw
            dsimp only at hGst262 hOst262 hFst262 hw
            have hO : OG ad [2, 4] so so264 := hO.tr hOst262 (by decide)
            have hP : va_P (dC, dI) vwCl (xw A C nb st262 sl263 so264) _ := hP
            have hG : XG [1, 2, 3, 4, 5, 6, 7, 12, 13, 14, 15] st st262 := hG.tr hGst262 (by decide)
            have hF : FX 5 st sl so st262 sl263 so264 := hF.tr hFst262 (by omega) (by omega)
            have hR : CN c nm st262 sl263 0 := hR.fr0 hFst262
            obtain ⟨hf265, hf266, hf267⟩ := hw
            refine lv_goto (tgt := 102) hx hb dX7_readCond_59 (by decide) ?_
            refine lv_iinc (v := (nI (k143 + 1))) (lv' := [(6, .int (nI (k143 + 1))), (4, .int 0), (5, .int (nI k144)), (0, .ref (A (20 + 4 * 1))), (1, .ref (A 1)), (2, .ref (A (36 + 20 * 0))), (3, .int 8)]) hx hb dX7_readCond_102 hl (k := 1) rfl (nI_add k143 1) (by decide) rfl (fun ls hl => ?_)
            refine lv_goto (tgt := 15) hx hb dX7_readCond_105 (by decide) ?_
            exact ih159 (21 - (k143 + 1)) _ _ _ _ (by omega) ⟨(k143 + 1), k144, 0, st262, sl263, so264, rfl, by omega, by omega, by omega, by omega, by omega, by omega, fun h9 => absurd h9 (by decide), fun _ => ⟨n248, n249, by show st262 1 13 = _; rw [hf265, hf250], by show st262 1 14 = _; rw [hf266, hf251], hf252, hco.trans (sL_f (by omega) hf253 (by omega))⟩, hR, hF, hP, hG, hO, hS, lv_sub hl [0, 2, 1, 3, 4, 5, 6] rfl, rfl⟩
