set_option maxHeartbeats 4000000 in
set_option maxRecDepth 100000 in
theorem y_readCond_1 (l : Launch) (dC : Nat → ClassId) (dI : Nat → Nat → Nat) (ad : Nat → Nat) (E : EP) (hEE : EC ad E) (A : Nat → Nat) (C : Nat → ClassId) (nb sz : Nat) (hN : XN A) (st : Nat → Nat → Int32) (sl : Nat → Nat → Int64) (so : Nat → XR) (B : Nat → Nat) (g m : Nat) (p : Nat) (c : Nat → Nat) (nm : Nat → Nat → Nat) (go : Nat) (hI : XI st) (hOI : OI ad so) (hB : CBt B g m st) (hT : TC B g m p ad st sl so) (hR : CN c nm st sl 0) (h4 : st (20 + 4 * 1) 4 = nI go) (hgo : go ≤ 20) : Met l yX7_readCond wsX7_readCond ({ frames := 23, cells := 0, slots := 0, locals := 567 }) (va_Pc [.ref (A (20 + 4 * 1)), .ref (A 1), .ref (A (36 + 20 * 0)), .int 1] (xPre E dC dI A C nb sz st sl so)) (va_Qi (fun (r : Int32) (x : XT) => XG [1, 2, 3, 4, 5, 6, 7, 12, 13, 14, 15] st x.1 ∧ OG ad [2, 4] so x.2.2 ∧ FX 5 st sl so x.1 x.2.1 x.2.2 ∧ ((∃ q : Nat, ∃ o1 : Nat, r = 1 ∧ TC B g m q ad x.1 x.2.1 x.2.2 ∧ x.1 1 13 = st 1 13 ∧ x.1 (20 + 4 * 1) 4 = nI o1 ∧ go + 1 ≤ o1 ∧ o1 ≤ 20 ∧ sCond B g m (sOne B g m c nm 8) p go = (0, q, o1) ∧ tkd B g m q = 0) ∨ (∃ f : Nat, ∃ a : Nat, r = 0 ∧ x.1 1 13 = nI f ∧ x.1 1 14 = nI a ∧ (1 ≤ f ∧ f < 9) ∧ (sCond B g m (sOne B g m c nm 8) p go = sf f a ∨ ∃ q u, sCond B g m (sOne B g m c nm 8) p go = (0, q, u) ∧ ¬ tkd B g m q = 0 ∧ f = 1 ∧ a = tka B g m q)))) (xB dC dI A C nb) (XA A sz)) 0 0 (XA A sz) := by
  refine Met.ofW (cc := cX7_readCond) (maxL := 7) (ret := (some .boolean)) (by decide) rfl ?_
  intro p9 e s m9 args below meth c9 s₁ B9 hml hv
  obtain ⟨rfl, hsz, hP, hK, hE⟩ := hv
  have hx := B9.exec
  have hb := B9.bytes
  have hr := B9.returns
  have hts := atoms_spec (ws := wsX7_readCond) B9.pre
  have hown : s.vm.findClass RX7 = some m9.cls := findClass_of_methodNamed B9.named
  subst hsz
  have hEv := hEE.1 _ _ _ hE
  have hS : va_S (XA A s.heap.size) s.heap s.heap [] := va_S.rf
  have hG : XG [1, 2, 3, 4, 5, 6, 7, 12, 13, 14, 15] st st := XG.rf hI
  have hO : OG ad [2, 4] so so := OG.rf hOI
  have hl := lv_entry ([.ref (A (20 + 4 * 1)), .ref (A 1), .ref (A (36 + 20 * 0)), .int 1]) (n := 7) (Nat.le_of_ble_eq_true rfl)
  rw [lg_entry_eq]
  generalize (lg_sl ([.ref (A (20 + 4 * 1)), .ref (A 1), .ref (A (36 + 20 * 0)), .int 1]) ++ List.replicate (7 - (lg_sl ([.ref (A (20 + 4 * 1)), .ref (A 1), .ref (A (36 + 20 * 0)), .int 1])).length) Slot.unset).toArray = ls at hl ⊢
  have hl : lv_has ls 7 [(0, .ref (A (20 + 4 * 1))), (1, .ref (A 1)), (2, .ref (A (36 + 20 * 0))), (3, .int 1)] := hl
  have hB1 := hB.2.2.1
  have hB2 := hB.2.2.2.1
  have hF : FX 5 st sl so st sl so := FX.rf
  have hp9 := hT.2.2.2.2.2.2
  have hk1 := tkd_lt (B := B) (g := g) (m := m) (p := p)
  have hk2 := tkx_le (B := B) (g := g) (m := m) (p := p) hp9
  have hk3 := tka_le (B := B) (g := g) (m := m) (p := p) hp9 hB.2.2.1
  have hk4 := tkv_ltc (p := p) hB hp9
  have hk5 := tkw_lt (B := B) (g := g) (m := m) (p := p)
  have hR9 := hR.2.1
  refine lv_aload_n hx hb dX7_readCond_0 rfl (lv_at hl 0 rfl) ?_
  refine lv_aload_n hx hb dX7_readCond_1 rfl (lv_at hl 1 rfl) ?_
  refine lv_aload_n hx hb dX7_readCond_2 rfl (lv_at hl 2 rfl) ?_
  refine lv_iload_n hx hb dX7_readCond_3 rfl (lv_at hl 3 rfl) ?_
  refine va_calli (va_runV (As := [.ref (A 1), .ref (A (36 + 20 * 0)), .int 1]) (rest := []) ⟨hx, hb, hml, hown, hts⟩ (y_readOne_1 l dC dI ad E hEE A C nb _ hN st sl so B g m p c nm go hG.1 hO.1 (CBt.fr hB hF) hT hR (by rw [h4]) (by omega)) (cwV 3 hts gX7_readCond_X7_readOne rfl rfl rfl (by decide +kernel) ⟨Nat.le_of_ble_eq_true rfl, Nat.le_of_ble_eq_true rfl⟩) ⟨fun a U g mk q => ⟨q.1, xPre.blind hEE q.2⟩, va_recv hK hP (ci := 8) (q0 := (20 + 4 * 1)) rfl (xw_is (r := (20 + 4 * 1)) (by omega) (xc_sn (q := 1) (o := 0) (by omega) (by omega))), fun U hU hW => ⟨rfl, xPre.of hEE hP hK hE hS hU hW⟩⟩ rfl rfl hl.1 rfl (lv_room (Nat.le_of_ble_eq_true rfl)) dX7_readCond_4 ⟨Nat.le_of_ble_eq_true rfl, Nat.le_of_ble_eq_true rfl⟩) hS (fun q _ h => XA.le hS.1 q h) (XA.le hS.1) (fun r1 x t H locs ht hvm hw hB9 _ _ hS => ?_)
  have hP := xB.at ht hB9
  clear hB9 ht hvm
  obtain ⟨st2, sl3, so4⟩ := x
  obtain ⟨hGst2, hOst2, hFst2, hw⟩ := hw
  dsimp only at hGst2 hOst2 hFst2 hw
  have hO : OG ad [2, 4] so so4 := hO.tr hOst2 (by decide)
  have hP : va_P (dC, dI) vwCl (xw A C nb st2 sl3 so4) _ := hP
  have hG : XG [1, 2, 3, 4, 5, 6, 7, 12, 13, 14, 15] st st2 := hG.tr hGst2 (by decide)
  have hF : FX 5 st sl so st2 sl3 so4 := hF.tr hFst2 (by omega) (by omega)
  have hR : CN c nm st2 sl3 0 := hR.fr0 hFst2
  rcases hw with ⟨n5, n6, rfl, hT, hf7, hf8, hf9, hf10, hf11⟩ | ⟨n12, n13, rfl, hf14, hf15, hf16, hf17⟩
  · have hp9 := hT.2.2.2.2.2.2
    have hk1 := tkd_lt (B := B) (g := g) (m := m) (p := n5)
    have hk2 := tkx_le (B := B) (g := g) (m := m) (p := n5) hp9
    have hk3 := tka_le (B := B) (g := g) (m := m) (p := n5) hp9 hB.2.2.1
    have hk4 := tkv_ltc (p := n5) hB hp9
    have hk5 := tkw_lt (B := B) (g := g) (m := m) (p := n5)
    refine lv_istore (lv' := [(4, .int 1), (0, .ref (A (20 + 4 * 1))), (1, .ref (A 1)), (2, .ref (A (36 + 20 * 0))), (3, .int 1)]) hx hb dX7_readCond_7 hl (by decide) rfl (fun ls hl => ?_)
    refine lv_iconst (v := 0) hx hb dX7_readCond_9 (by decide) ?_
    refine lv_istore (lv' := [(5, .int 0), (4, .int 1), (0, .ref (A (20 + 4 * 1))), (1, .ref (A 1)), (2, .ref (A (36 + 20 * 0))), (3, .int 1)]) hx hb dX7_readCond_10 hl (by decide) rfl (fun ls hl => ?_)
    refine lv_iconst (v := 0) hx hb dX7_readCond_12 (by decide) ?_
    refine lv_istore (lv' := [(6, .int 0), (5, .int 0), (4, .int 1), (0, .ref (A (20 + 4 * 1))), (1, .ref (A 1)), (2, .ref (A (36 + 20 * 0))), (3, .int 1)]) hx hb dX7_readCond_13 hl (by decide) rfl (fun ls hl => ?_)
    refine zz_wf (fun n stk H locs ls => ∃ k18 : Nat, ∃ k19 : Nat, ∃ k20 : Nat, ∃ st21 : Nat → Nat → Int32, ∃ sl22 : Nat → Nat → Int64, ∃ so23 : Nat → XR, n = 21 - k18 ∧ 0 ≤ k18 ∧ k18 < 21 ∧ 0 ≤ k19 ∧ k19 < 2 ∧ 0 ≤ k20 ∧ k20 < 2 ∧ (zz_im (k20 = 1) (∃ (p7 o7 : Nat), TC B g m p7 ad st21 sl22 so23 ∧ st21 1 13 = st 1 13 ∧ st21 (20 + 4 * 1) 4 = nI o7 ∧ go + 1 + k18 ≤ o7 ∧ o7 ≤ 20 ∧ sCond B g m (sOne B g m c nm 8) p go = sLoop B g m (sOne B g m c nm 8) 21 p7 o7)) ∧ (zz_im (k20 = 0) (∃ (f7 a7 : Nat), st21 1 13 = nI f7 ∧ st21 1 14 = nI a7 ∧ (1 ≤ f7 ∧ f7 < 9) ∧ sCond B g m (sOne B g m c nm 8) p go = sf f7 a7)) ∧ CN c nm st21 sl22 0 ∧ FX 5 st sl so st21 sl22 so23 ∧ va_P (dC, dI) vwCl (xw A C nb st21 sl22 so23) H ∧ XG [1, 2, 3, 4, 5, 6, 7, 12, 13, 14, 15] st st21 ∧ OG ad [2, 4] so so23 ∧ va_S (XA A s.heap.size) s.heap H locs ∧ lv_has ls 7 [(6, .int (nI k18)), (5, .int (nI k19)), (4, .int (nI k20)), (0, .ref (A (20 + 4 * 1))), (1, .ref (A 1)), (2, .ref (A (36 + 20 * 0))), (3, .int 1)] ∧ stk = []) ?_ (21 - 0) _ _ _ _ ⟨0, 0, 1, st2, sl3, so4, rfl, by omega, by omega, by omega, by omega, by omega, by omega, fun _ => ⟨n5, n6, hT, by show st2 1 13 = st 1 13; rw [hf7], by show st2 (20 + 4 * 1) 4 = _; rw [hf8], by omega, by omega, sC_y hf11⟩, fun h9 => absurd h9 (by decide), hR, hF, hP, hG, hO, hS, lv_sub hl [0, 1, 2, 3, 4, 5, 6] rfl, rfl⟩
    rintro nn stk H locs ls ⟨k18, k19, k20, st21, sl22, so23, hm33, hv24_0, hv25_1, hv26_2, hv27_3, hv28_4, hv29_5, hv30_0, hv31_1, hv32_2, hv33_3, hP, hG, hO, hS, hl, rfl⟩ ih34
    have hF := hv33_3
    have hR := hv32_2
    refine lv_iload hx hb dX7_readCond_15 (lv_at hl 0 rfl) ?_
    refine lv_bipush (v := 20) hx hb dX7_readCond_17 (by decide) ?_
    refine lv_icmp_ge (tgt := 108) hx hb dX7_readCond_19 (by decide) (fun c1 => ?_) (fun c1 => ?_)
    · have c1 : 20 ≤ k18 := (nI_leI (a := 20) (b := k18) (by omega) (by omega)).mp c1
      have hz4 : k20 = 0 := by
        by_cases h9 : k20 = 1
        · obtain ⟨p7, o7, -, -, -, hoa, hob, -⟩ := hv30_0 h9; omega
        · omega
      have hg35 : k20 = 0 := by omega
      have hl : lv_has ls 7 [(6, .int (nI k18)), (5, .int (nI k19)), (4, .int 0), (0, .ref (A (20 + 4 * 1))), (1, .ref (A 1)), (2, .ref (A (36 + 20 * 0))), (3, .int 1)] := by rw [hg35] at hl; exact hl
      obtain ⟨f7, a7, h13, h14, hfa, hco⟩ := hv31_1 hz4
      refine lv_iload hx hb dX7_readCond_108 (lv_at hl 1 rfl) ?_
      refine lv_if_eq (tgt := 122) hx hb dX7_readCond_110 (by decide) (fun c2 => ?_) (fun c2 => ?_)
      · have c2 : k19 = 0 := (nI_eq (a := k19) (b := 0) (by omega) (by omega)).mp c2
        refine lv_iload hx hb dX7_readCond_122 (lv_at hl 2 rfl) ?_
        refine lv_if_eq (tgt := 146) hx hb dX7_readCond_124 (by decide) (fun _ => ?_) (fun cc => absurd (by decide) cc)
        refine lv_iload hx hb dX7_readCond_146 (lv_at hl 2 rfl) ?_
        exact W.zret (v := 0) hx hb hr rfl (fun t ht hW => ⟨⟨0, (st21, sl22, so23), rfl, ⟨hG, hO, hF, Or.inr (⟨f7, a7, rfl, by show st21 1 13 = _; rw [h13], by show st21 1 14 = _; rw [h14], hfa, Or.inl hco⟩)⟩, xB.of ht hP⟩, hS.F ht⟩) hS.2.2 dX7_readCond_148
      · have c2 : ¬ k19 = 0 := fun hh => c2 ((nI_eq (a := k19) (b := 0) (by omega) (by omega)).mpr hh)
        refine lv_aload_n hx hb dX7_readCond_113 rfl (lv_at hl 3 rfl) ?_
        refine va_gets (v := .ref (ad 13)) hx hb (EV.word hEv (i := 13) (by decide)) hS hown (hts _ mm_X7_readCond_2) (fun _ hh => hh) dX7_readCond_114 ?_
        refine lv_iconst (v := 0) hx hb dX7_readCond_117 (by decide) ?_
        refine lv_iconst (v := 0) hx hb dX7_readCond_118 (by decide) ?_
        refine va_callv (va_runV (As := [.ref (ad 13), .int 0, .int 0]) (rest := []) ⟨hx, hb, hml, hown, hts⟩ (y_addN l dC dI ad E hEE A C nb _ hN st21 sl22 so23 13 0 0 (by omega) hG.1 hO.1 ) (cwV 3 hts gX7_readCond_X7_add rfl rfl rfl (by decide +kernel) ⟨Nat.le_of_ble_eq_true rfl, Nat.le_of_ble_eq_true rfl⟩) ⟨fun a U g mk q => ⟨q.1, xPre.blind hEE q.2⟩, va_recv hK hP (ci := 8) (q0 := (20 + 4 * 1)) rfl (xw_is (r := (20 + 4 * 1)) (by omega) (xc_sn (q := 1) (o := 0) (by omega) (by omega))), fun U hU hW => ⟨rfl, xPre.of hEE hP hK hE hS hU hW⟩⟩ rfl rfl hl.1 rfl (lv_room (Nat.le_of_ble_eq_true rfl)) dX7_readCond_119 ⟨Nat.le_of_ble_eq_true rfl, Nat.le_of_ble_eq_true rfl⟩) hS (fun q _ h => XA.le hS.1 q h) (XA.le hS.1) (fun x t H locs ht hvm hw hB9 _ _ hS => ?_)
        have hP := xB.at ht hB9
        clear hB9 ht hvm
        obtain ⟨st37, sl38, so39⟩ := x
        obtain ⟨hGst37, hOst37, hFst37, hw⟩ := hw
        dsimp only at hGst37 hOst37 hFst37 hw
        have hO : OG ad [2, 4] so so39 := hO.tr hOst37 (by decide)
        have hP : va_P (dC, dI) vwCl (xw A C nb st37 sl38 so39) _ := hP
        have hG : XG [1, 2, 3, 4, 5, 6, 7, 12, 13, 14, 15] st st37 := hG.tr hGst37 (by decide)
        have hF : FX 5 st sl so st37 sl38 so39 := hF.tr hFst37 (by omega) (by omega)
        have hR : CN c nm st37 sl38 0 := hR.fr0 hFst37
        obtain ⟨hf40, hf41, hf42⟩ := hw
        refine lv_iload hx hb dX7_readCond_122 (lv_at hl 2 rfl) ?_
        refine lv_if_eq (tgt := 146) hx hb dX7_readCond_124 (by decide) (fun _ => ?_) (fun cc => absurd (by decide) cc)
        refine lv_iload hx hb dX7_readCond_146 (lv_at hl 2 rfl) ?_
        exact W.zret (v := 0) hx hb hr rfl (fun t ht hW => ⟨⟨0, (st37, sl38, so39), rfl, ⟨hG, hO, hF, Or.inr (⟨f7, a7, rfl, by show st37 1 13 = _; rw [hf40, h13], by show st37 1 14 = _; rw [hf41, h14], hfa, Or.inl hco⟩)⟩, xB.of ht hP⟩, hS.F ht⟩) hS.2.2 dX7_readCond_148
    · have c1 : ¬ 20 ≤ k18 := fun hh => c1 ((nI_leI (a := 20) (b := k18) (by omega) (by omega)).mpr hh)
      refine lv_iload hx hb dX7_readCond_22 (lv_at hl 2 rfl) ?_
      refine lv_if_eq (tgt := 108) hx hb dX7_readCond_24 (by decide) (fun c5 => ?_) (fun c5 => ?_)
      · have c5 : k20 = 0 := (nI_eq (a := k20) (b := 0) (by omega) (by omega)).mp c5
        have hz4 : k20 = 0 := by
          by_cases h9 : k20 = 1
          · obtain ⟨p7, o7, -, -, -, hoa, hob, -⟩ := hv30_0 h9; omega
          · omega
        have hg43 : k20 = 0 := by omega
        have hl : lv_has ls 7 [(6, .int (nI k18)), (5, .int (nI k19)), (4, .int 0), (0, .ref (A (20 + 4 * 1))), (1, .ref (A 1)), (2, .ref (A (36 + 20 * 0))), (3, .int 1)] := by rw [hg43] at hl; exact hl
        obtain ⟨f7, a7, h13, h14, hfa, hco⟩ := hv31_1 hz4
        refine lv_iload hx hb dX7_readCond_108 (lv_at hl 1 rfl) ?_
        refine lv_if_eq (tgt := 122) hx hb dX7_readCond_110 (by decide) (fun c6 => ?_) (fun c6 => ?_)
        · have c6 : k19 = 0 := (nI_eq (a := k19) (b := 0) (by omega) (by omega)).mp c6
          refine lv_iload hx hb dX7_readCond_122 (lv_at hl 2 rfl) ?_
          refine lv_if_eq (tgt := 146) hx hb dX7_readCond_124 (by decide) (fun _ => ?_) (fun cc => absurd (by decide) cc)
          refine lv_iload hx hb dX7_readCond_146 (lv_at hl 2 rfl) ?_
          exact W.zret (v := 0) hx hb hr rfl (fun t ht hW => ⟨⟨0, (st21, sl22, so23), rfl, ⟨hG, hO, hF, Or.inr (⟨f7, a7, rfl, by show st21 1 13 = _; rw [h13], by show st21 1 14 = _; rw [h14], hfa, Or.inl hco⟩)⟩, xB.of ht hP⟩, hS.F ht⟩) hS.2.2 dX7_readCond_148
        · have c6 : ¬ k19 = 0 := fun hh => c6 ((nI_eq (a := k19) (b := 0) (by omega) (by omega)).mpr hh)
          refine lv_aload_n hx hb dX7_readCond_113 rfl (lv_at hl 3 rfl) ?_
          refine va_gets (v := .ref (ad 13)) hx hb (EV.word hEv (i := 13) (by decide)) hS hown (hts _ mm_X7_readCond_2) (fun _ hh => hh) dX7_readCond_114 ?_
          refine lv_iconst (v := 0) hx hb dX7_readCond_117 (by decide) ?_
          refine lv_iconst (v := 0) hx hb dX7_readCond_118 (by decide) ?_
          refine va_callv (va_runV (As := [.ref (ad 13), .int 0, .int 0]) (rest := []) ⟨hx, hb, hml, hown, hts⟩ (y_addN l dC dI ad E hEE A C nb _ hN st21 sl22 so23 13 0 0 (by omega) hG.1 hO.1 ) (cwV 3 hts gX7_readCond_X7_add rfl rfl rfl (by decide +kernel) ⟨Nat.le_of_ble_eq_true rfl, Nat.le_of_ble_eq_true rfl⟩) ⟨fun a U g mk q => ⟨q.1, xPre.blind hEE q.2⟩, va_recv hK hP (ci := 8) (q0 := (20 + 4 * 1)) rfl (xw_is (r := (20 + 4 * 1)) (by omega) (xc_sn (q := 1) (o := 0) (by omega) (by omega))), fun U hU hW => ⟨rfl, xPre.of hEE hP hK hE hS hU hW⟩⟩ rfl rfl hl.1 rfl (lv_room (Nat.le_of_ble_eq_true rfl)) dX7_readCond_119 ⟨Nat.le_of_ble_eq_true rfl, Nat.le_of_ble_eq_true rfl⟩) hS (fun q _ h => XA.le hS.1 q h) (XA.le hS.1) (fun x t H locs ht hvm hw hB9 _ _ hS => ?_)
          have hP := xB.at ht hB9
          clear hB9 ht hvm
          obtain ⟨st45, sl46, so47⟩ := x
          obtain ⟨hGst45, hOst45, hFst45, hw⟩ := hw
          dsimp only at hGst45 hOst45 hFst45 hw
          have hO : OG ad [2, 4] so so47 := hO.tr hOst45 (by decide)
          have hP : va_P (dC, dI) vwCl (xw A C nb st45 sl46 so47) _ := hP
          have hG : XG [1, 2, 3, 4, 5, 6, 7, 12, 13, 14, 15] st st45 := hG.tr hGst45 (by decide)
          have hF : FX 5 st sl so st45 sl46 so47 := hF.tr hFst45 (by omega) (by omega)
          have hR : CN c nm st45 sl46 0 := hR.fr0 hFst45
          obtain ⟨hf48, hf49, hf50⟩ := hw
          refine lv_iload hx hb dX7_readCond_122 (lv_at hl 2 rfl) ?_
          refine lv_if_eq (tgt := 146) hx hb dX7_readCond_124 (by decide) (fun _ => ?_) (fun cc => absurd (by decide) cc)
          refine lv_iload hx hb dX7_readCond_146 (lv_at hl 2 rfl) ?_
          exact W.zret (v := 0) hx hb hr rfl (fun t ht hW => ⟨⟨0, (st45, sl46, so47), rfl, ⟨hG, hO, hF, Or.inr (⟨f7, a7, rfl, by show st45 1 13 = _; rw [hf48, h13], by show st45 1 14 = _; rw [hf49, h14], hfa, Or.inl hco⟩)⟩, xB.of ht hP⟩, hS.F ht⟩) hS.2.2 dX7_readCond_148
      · have c5 : ¬ k20 = 0 := fun hh => c5 ((nI_eq (a := k20) (b := 0) (by omega) (by omega)).mpr hh)
        obtain ⟨p7, o7, hT, h13, ho7, hoa, hob, hco⟩ := hv30_0 (by omega)
        have hp9 := hT.2.2.2.2.2.2
        have hk1 := tkd_lt (B := B) (g := g) (m := m) (p := p7)
        have hk2 := tkx_le (B := B) (g := g) (m := m) (p := p7) hp9
        have hk3 := tka_le (B := B) (g := g) (m := m) (p := p7) hp9 hB.2.2.1
        have hk4 := tkv_ltc (p := p7) hB hp9
        have hk5 := tkw_lt (B := B) (g := g) (m := m) (p := p7)
        have hg51 : k20 = 1 := by omega
        have hl : lv_has ls 7 [(6, .int (nI k18)), (5, .int (nI k19)), (4, .int 1), (0, .ref (A (20 + 4 * 1))), (1, .ref (A 1)), (2, .ref (A (36 + 20 * 0))), (3, .int 1)] := by rw [hg51] at hl; exact hl
        refine lv_aload_n hx hb dX7_readCond_27 rfl (lv_at hl 4 rfl) ?_
        refine va_getN (host := "OffTheLead") (D := (dC, dI)) (ci := 9) (v := va_rf (so23 1 7)) (C := RX8) (T := TX8) (N := 15) hx hb hts ii_X7_readCond_X8 hown hK hP 1 (xw_is (r := 1) (by omega) (xc_fix (r := 1) (by omega))) rfl 7 (by decide) (va_Nw.use rfl (nf_X7_35 hEv)) (fun _ hh => hh) rfl dX7_readCond_28 ?_
        refine zz_topq (r := some (ad (tkw B g m p7))) (by rw [hT.2.2.2.2.2.1]) ?_
        refine va_gets (v := .ref (ad 14)) hx hb (EV.word hEv (i := 14) (by decide)) hS hown (hts _ mm_X7_readCond_1) (fun _ hh => hh) dX7_readCond_31 ?_
        refine lv_acmp_ne (rx := (some (ad (tkw B g m p7)))) (ry := (some (ad 14))) (tgt := 62) hx hb dX7_readCond_34 (by decide) (fun c9 => ?_) (fun c9 => ?_)
        · have c9 : ¬ (tkw B g m p7) = 14 := fun hh => c9 ((EV.eqw hEv (i := (tkw B g m p7)) (j := 14) (by omega) (by omega)).mpr hh)
          refine lv_aload_n hx hb dX7_readCond_62 rfl (lv_at hl 4 rfl) ?_
          refine va_getN (host := "OffTheLead") (D := (dC, dI)) (ci := 9) (v := va_rf (so23 1 7)) (C := RX8) (T := TX8) (N := 15) hx hb hts ii_X7_readCond_X8 hown hK hP 1 (xw_is (r := 1) (by omega) (xc_fix (r := 1) (by omega))) rfl 7 (by decide) (va_Nw.use rfl (nf_X7_35 hEv)) (fun _ hh => hh) rfl dX7_readCond_63 ?_
          refine zz_topq (r := some (ad (tkw B g m p7))) (by rw [hT.2.2.2.2.2.1]) ?_
          refine va_gets (v := .ref (ad 13)) hx hb (EV.word hEv (i := 13) (by decide)) hS hown (hts _ mm_X7_readCond_2) (fun _ hh => hh) dX7_readCond_66 ?_
          refine lv_acmp_ne (rx := (some (ad (tkw B g m p7)))) (ry := (some (ad 13))) (tgt := 108) hx hb dX7_readCond_69 (by decide) (fun c10 => ?_) (fun c10 => ?_)
          · have c10 : ¬ (tkw B g m p7) = 13 := fun hh => c10 ((EV.eqw hEv (i := (tkw B g m p7)) (j := 13) (by omega) (by omega)).mpr hh)
            refine lv_iload hx hb dX7_readCond_108 (lv_at hl 1 rfl) ?_
            refine lv_if_eq (tgt := 122) hx hb dX7_readCond_110 (by decide) (fun c11 => ?_) (fun c11 => ?_)
            · have c11 : k19 = 0 := (nI_eq (a := k19) (b := 0) (by omega) (by omega)).mp c11
              refine lv_iload hx hb dX7_readCond_122 (lv_at hl 2 rfl) ?_
              refine lv_if_eq (tgt := 146) hx hb dX7_readCond_124 (by decide) (fun cc => absurd cc (by decide)) (fun _ => ?_)
              refine lv_iload_n hx hb dX7_readCond_127 rfl (lv_at hl 6 rfl) ?_
              refine lv_iconst (v := 1) hx hb dX7_readCond_128 (by decide) ?_
              refine lv_icmp_ne (tgt := 146) hx hb dX7_readCond_129 (by decide) (fun cc => absurd (by decide) cc) (fun _ => ?_)
              refine lv_aload_n hx hb dX7_readCond_132 rfl (lv_at hl 4 rfl) ?_
              refine va_getN (host := "OffTheLead") (D := (dC, dI)) (ci := 9) (v := .int (st21 1 4)) (C := RX8) (T := TX8) (N := 15) hx hb hts ii_X7_readCond_X8 hown hK hP 1 (xw_is (r := 1) (by omega) (xc_fix (r := 1) (by omega))) rfl 4 (by decide) (va_Nw.use rfl (nf_X7_54 hEv)) (fun _ hh => hh) rfl dX7_readCond_133 ?_
              refine zz_top (v := (nI ((tkd B g m p7 + 3) % 5))) (by show st21 1 4 = _; rw [hT.2.2.1]) ?_
              refine lv_iconst (v := 3) hx hb dX7_readCond_136 (by decide) ?_
              refine lv_icmp_eq (tgt := 146) hx hb dX7_readCond_137 (by decide) (fun c14 => ?_) (fun c14 => ?_)
              · have c14 : ((tkd B g m p7 + 3) % 5) = 3 := (nI_eq (a := ((tkd B g m p7 + 3) % 5)) (b := 3) (by omega) (by omega)).mp c14
                refine lv_iload hx hb dX7_readCond_146 (lv_at hl 2 rfl) ?_
                exact W.zret (v := 1) hx hb hr rfl (fun t ht hW => ⟨⟨1, (st21, sl22, so23), rfl, ⟨hG, hO, hF, Or.inl (⟨p7, o7, rfl, hT, by show st21 1 13 = st 1 13; exact h13, by show st21 (20 + 4 * 1) 4 = _; rw [ho7], by omega, by omega, hco.trans (sL_n (by omega)), by omega⟩)⟩, xB.of ht hP⟩, hS.F ht⟩) hS.2.2 dX7_readCond_148
              · have c14 : ¬ ((tkd B g m p7 + 3) % 5) = 3 := fun hh => c14 ((nI_eq (a := ((tkd B g m p7 + 3) % 5)) (b := 3) (by omega) (by omega)).mpr hh)
                refine lv_aload_n hx hb dX7_readCond_140 rfl (lv_at hl 4 rfl) ?_
                refine lv_iconst (v := 1) hx hb dX7_readCond_141 (by decide) ?_
                refine va_calli (va_runV (As := [.int 1]) (rest := []) ⟨hx, hb, hml, hown, hts⟩ (y_X8_refuse l dC dI ad E hEE A C nb _ hN st21 sl22 so23 1 B g m p7 (by omega) hG.1 hO.1 (CBt.fr hB hF) hT) (cwV 1 hts gX7_readCond_X8_refuse rfl rfl rfl (by decide +kernel) ⟨Nat.le_of_ble_eq_true rfl, Nat.le_of_ble_eq_true rfl⟩) ⟨fun a U g mk q => ⟨q.1, xPre.blind hEE q.2⟩, va_recv hK hP (ci := 9) (q0 := 1) rfl (xw_is (r := 1) (by omega) (xc_fix (r := 1) (by omega))), fun U hU hW => ⟨rfl, xPre.of hEE hP hK hE hS hU hW⟩⟩ rfl rfl hl.1 rfl (lv_room (Nat.le_of_ble_eq_true rfl)) dX7_readCond_142 ⟨Nat.le_of_ble_eq_true rfl, Nat.le_of_ble_eq_true rfl⟩) hS (fun q _ h => XA.le hS.1 q h) (XA.le hS.1) (fun r52 x t H locs ht hvm hw hB9 _ _ hS => ?_)
                have hP := xB.at ht hB9
                clear hB9 ht hvm
                obtain ⟨st53, sl54, so55⟩ := x
                obtain ⟨hGst53, hOst53, hFst53, hw⟩ := hw
                dsimp only at hGst53 hOst53 hFst53 hw
                have hO : OG ad [2, 4] so so55 := hO.tr hOst53 (by decide)
                have hP : va_P (dC, dI) vwCl (xw A C nb st53 sl54 so55) _ := hP
                have hG : XG [1, 2, 3, 4, 5, 6, 7, 12, 13, 14, 15] st st53 := hG.tr hGst53 (by decide)
                have hF : FX 5 st sl so st53 sl54 so55 := hF.tr hFst53 (by omega) (by omega)
                have hR : CN c nm st53 sl54 0 := hR.fr0 hFst53
                obtain ⟨rfl, hf56, hf57, hT⟩ := hw
                have hp9 := hT.2.2.2.2.2.2
                have hk1 := tkd_lt (B := B) (g := g) (m := m) (p := p7)
                have hk2 := tkx_le (B := B) (g := g) (m := m) (p := p7) hp9
                have hk3 := tka_le (B := B) (g := g) (m := m) (p := p7) hp9 hB.2.2.1
                have hk4 := tkv_ltc (p := p7) hB hp9
                have hk5 := tkw_lt (B := B) (g := g) (m := m) (p := p7)
                exact W.zret (v := 0) hx hb hr rfl (fun t ht hW => ⟨⟨0, (st53, sl54, so55), rfl, ⟨hG, hO, hF, Or.inr (⟨1, (tka B g m p7), rfl, by show st53 1 13 = _; rw [hf56], by show st53 1 14 = _; rw [hf57], by omega, Or.inr ⟨_, _, hco.trans (sL_n (by omega)), by omega, rfl, rfl⟩⟩)⟩, xB.of ht hP⟩, hS.F ht⟩) hS.2.2 dX7_readCond_145
            · have c11 : ¬ k19 = 0 := fun hh => c11 ((nI_eq (a := k19) (b := 0) (by omega) (by omega)).mpr hh)
              refine lv_aload_n hx hb dX7_readCond_113 rfl (lv_at hl 3 rfl) ?_
              refine va_gets (v := .ref (ad 13)) hx hb (EV.word hEv (i := 13) (by decide)) hS hown (hts _ mm_X7_readCond_2) (fun _ hh => hh) dX7_readCond_114 ?_
              refine lv_iconst (v := 0) hx hb dX7_readCond_117 (by decide) ?_
              refine lv_iconst (v := 0) hx hb dX7_readCond_118 (by decide) ?_
              refine va_callv (va_runV (As := [.ref (ad 13), .int 0, .int 0]) (rest := []) ⟨hx, hb, hml, hown, hts⟩ (y_addT l dC dI ad E hEE A C nb _ hN st21 sl22 so23 13 0 0 B g m p7 (by omega) hG.1 hO.1 (CBt.fr hB hF) hT) (cwV 3 hts gX7_readCond_X7_add rfl rfl rfl (by decide +kernel) ⟨Nat.le_of_ble_eq_true rfl, Nat.le_of_ble_eq_true rfl⟩) ⟨fun a U g mk q => ⟨q.1, xPre.blind hEE q.2⟩, va_recv hK hP (ci := 8) (q0 := (20 + 4 * 1)) rfl (xw_is (r := (20 + 4 * 1)) (by omega) (xc_sn (q := 1) (o := 0) (by omega) (by omega))), fun U hU hW => ⟨rfl, xPre.of hEE hP hK hE hS hU hW⟩⟩ rfl rfl hl.1 rfl (lv_room (Nat.le_of_ble_eq_true rfl)) dX7_readCond_119 ⟨Nat.le_of_ble_eq_true rfl, Nat.le_of_ble_eq_true rfl⟩) hS (fun q _ h => XA.le hS.1 q h) (XA.le hS.1) (fun x t H locs ht hvm hw hB9 _ _ hS => ?_)
              have hP := xB.at ht hB9
              clear hB9 ht hvm
              obtain ⟨st59, sl60, so61⟩ := x
              obtain ⟨hGst59, hOst59, hFst59, hw⟩ := hw
              dsimp only at hGst59 hOst59 hFst59 hw
              have hO : OG ad [2, 4] so so61 := hO.tr hOst59 (by decide)
              have hP : va_P (dC, dI) vwCl (xw A C nb st59 sl60 so61) _ := hP
              have hG : XG [1, 2, 3, 4, 5, 6, 7, 12, 13, 14, 15] st st59 := hG.tr hGst59 (by decide)
              have hF : FX 5 st sl so st59 sl60 so61 := hF.tr hFst59 (by omega) (by omega)
              have hR : CN c nm st59 sl60 0 := hR.fr0 hFst59
              obtain ⟨hf62, hf63, hf64, hT⟩ := hw
              have hp9 := hT.2.2.2.2.2.2
              have hk1 := tkd_lt (B := B) (g := g) (m := m) (p := p7)
              have hk2 := tkx_le (B := B) (g := g) (m := m) (p := p7) hp9
              have hk3 := tka_le (B := B) (g := g) (m := m) (p := p7) hp9 hB.2.2.1
              have hk4 := tkv_ltc (p := p7) hB hp9
              have hk5 := tkw_lt (B := B) (g := g) (m := m) (p := p7)
              refine lv_iload hx hb dX7_readCond_122 (lv_at hl 2 rfl) ?_
              refine lv_if_eq (tgt := 146) hx hb dX7_readCond_124 (by decide) (fun cc => absurd cc (by decide)) (fun _ => ?_)
              refine lv_iload_n hx hb dX7_readCond_127 rfl (lv_at hl 6 rfl) ?_
              refine lv_iconst (v := 1) hx hb dX7_readCond_128 (by decide) ?_
              refine lv_icmp_ne (tgt := 146) hx hb dX7_readCond_129 (by decide) (fun cc => absurd (by decide) cc) (fun _ => ?_)
              refine lv_aload_n hx hb dX7_readCond_132 rfl (lv_at hl 4 rfl) ?_
              refine va_getN (host := "OffTheLead") (D := (dC, dI)) (ci := 9) (v := .int (st59 1 4)) (C := RX8) (T := TX8) (N := 15) hx hb hts ii_X7_readCond_X8 hown hK hP 1 (xw_is (r := 1) (by omega) (xc_fix (r := 1) (by omega))) rfl 4 (by decide) (va_Nw.use rfl (nf_X7_54 hEv)) (fun _ hh => hh) rfl dX7_readCond_133 ?_
              refine zz_top (v := (nI ((tkd B g m p7 + 3) % 5))) (by show st59 1 4 = _; rw [hT.2.2.1]) ?_
              refine lv_iconst (v := 3) hx hb dX7_readCond_136 (by decide) ?_
              refine lv_icmp_eq (tgt := 146) hx hb dX7_readCond_137 (by decide) (fun c17 => ?_) (fun c17 => ?_)
              · have c17 : ((tkd B g m p7 + 3) % 5) = 3 := (nI_eq (a := ((tkd B g m p7 + 3) % 5)) (b := 3) (by omega) (by omega)).mp c17
                refine lv_iload hx hb dX7_readCond_146 (lv_at hl 2 rfl) ?_
                exact W.zret (v := 1) hx hb hr rfl (fun t ht hW => ⟨⟨1, (st59, sl60, so61), rfl, ⟨hG, hO, hF, Or.inl (⟨p7, o7, rfl, hT, by show st59 1 13 = st 1 13; rw [hf62]; exact h13, by show st59 (20 + 4 * 1) 4 = _; rw [hf64, ho7], by omega, by omega, hco.trans (sL_n (by omega)), by omega⟩)⟩, xB.of ht hP⟩, hS.F ht⟩) hS.2.2 dX7_readCond_148
              · have c17 : ¬ ((tkd B g m p7 + 3) % 5) = 3 := fun hh => c17 ((nI_eq (a := ((tkd B g m p7 + 3) % 5)) (b := 3) (by omega) (by omega)).mpr hh)
                refine lv_aload_n hx hb dX7_readCond_140 rfl (lv_at hl 4 rfl) ?_
                refine lv_iconst (v := 1) hx hb dX7_readCond_141 (by decide) ?_
                refine va_calli (va_runV (As := [.int 1]) (rest := []) ⟨hx, hb, hml, hown, hts⟩ (y_X8_refuse l dC dI ad E hEE A C nb _ hN st59 sl60 so61 1 B g m p7 (by omega) hG.1 hO.1 (CBt.fr hB hF) hT) (cwV 1 hts gX7_readCond_X8_refuse rfl rfl rfl (by decide +kernel) ⟨Nat.le_of_ble_eq_true rfl, Nat.le_of_ble_eq_true rfl⟩) ⟨fun a U g mk q => ⟨q.1, xPre.blind hEE q.2⟩, va_recv hK hP (ci := 9) (q0 := 1) rfl (xw_is (r := 1) (by omega) (xc_fix (r := 1) (by omega))), fun U hU hW => ⟨rfl, xPre.of hEE hP hK hE hS hU hW⟩⟩ rfl rfl hl.1 rfl (lv_room (Nat.le_of_ble_eq_true rfl)) dX7_readCond_142 ⟨Nat.le_of_ble_eq_true rfl, Nat.le_of_ble_eq_true rfl⟩) hS (fun q _ h => XA.le hS.1 q h) (XA.le hS.1) (fun r65 x t H locs ht hvm hw hB9 _ _ hS => ?_)
                have hP := xB.at ht hB9
                clear hB9 ht hvm
                obtain ⟨st66, sl67, so68⟩ := x
                obtain ⟨hGst66, hOst66, hFst66, hw⟩ := hw
                dsimp only at hGst66 hOst66 hFst66 hw
                have hO : OG ad [2, 4] so so68 := hO.tr hOst66 (by decide)
                have hP : va_P (dC, dI) vwCl (xw A C nb st66 sl67 so68) _ := hP
                have hG : XG [1, 2, 3, 4, 5, 6, 7, 12, 13, 14, 15] st st66 := hG.tr hGst66 (by decide)
                have hF : FX 5 st sl so st66 sl67 so68 := hF.tr hFst66 (by omega) (by omega)
                have hR : CN c nm st66 sl67 0 := hR.fr0 hFst66
                obtain ⟨rfl, hf69, hf70, hT⟩ := hw
                have hp9 := hT.2.2.2.2.2.2
                have hk1 := tkd_lt (B := B) (g := g) (m := m) (p := p7)
                have hk2 := tkx_le (B := B) (g := g) (m := m) (p := p7) hp9
                have hk3 := tka_le (B := B) (g := g) (m := m) (p := p7) hp9 hB.2.2.1
                have hk4 := tkv_ltc (p := p7) hB hp9
                have hk5 := tkw_lt (B := B) (g := g) (m := m) (p := p7)
                exact W.zret (v := 0) hx hb hr rfl (fun t ht hW => ⟨⟨0, (st66, sl67, so68), rfl, ⟨hG, hO, hF, Or.inr (⟨1, (tka B g m p7), rfl, by show st66 1 13 = _; rw [hf69], by show st66 1 14 = _; rw [hf70], by omega, Or.inr ⟨_, _, hco.trans (sL_n (by omega)), by omega, rfl, rfl⟩⟩)⟩, xB.of ht hP⟩, hS.F ht⟩) hS.2.2 dX7_readCond_145
          · have c10 : (tkw B g m p7) = 13 := (EV.eqw hEv (i := (tkw B g m p7)) (j := 13) (by omega) (by omega)).mp c10
            refine lv_iload hx hb dX7_readCond_72 (lv_at hl 1 rfl) ?_
            refine lv_if_eq (tgt := 86) hx hb dX7_readCond_74 (by decide) (fun c18 => ?_) (fun c18 => ?_)
            · have c18 : k19 = 0 := (nI_eq (a := k19) (b := 0) (by omega) (by omega)).mp c18
              refine lv_iconst (v := 1) hx hb dX7_readCond_86 (by decide) ?_
              refine lv_istore (lv' := [(5, .int 1), (6, .int (nI k18)), (4, .int 1), (0, .ref (A (20 + 4 * 1))), (1, .ref (A 1)), (2, .ref (A (36 + 20 * 0))), (3, .int 1)]) hx hb dX7_readCond_87 hl (by decide) rfl (fun ls hl => ?_)
              refine lv_aload_n hx hb dX7_readCond_89 rfl (lv_at hl 4 rfl) ?_
              refine va_callv (va_runV (As := []) (rest := []) ⟨hx, hb, hml, hown, hts⟩ (y_X8_step l dC dI ad E hEE A C nb _ hN st21 sl22 so23 B g m (tkx B g m p7) hG.1 hO.1 (CBt.fr hB hF) hT.1 hk2.2) (cwV 0 hts gX7_readCond_X8_step rfl rfl rfl (by decide +kernel) ⟨Nat.le_of_ble_eq_true rfl, Nat.le_of_ble_eq_true rfl⟩) ⟨fun a U g mk q => ⟨q.1, xPre.blind hEE q.2⟩, va_recv hK hP (ci := 9) (q0 := 1) rfl (xw_is (r := 1) (by omega) (xc_fix (r := 1) (by omega))), fun U hU hW => ⟨rfl, xPre.of hEE hP hK hE hS hU hW⟩⟩ rfl rfl hl.1 rfl (lv_room (Nat.le_of_ble_eq_true rfl)) dX7_readCond_90 ⟨Nat.le_of_ble_eq_true rfl, Nat.le_of_ble_eq_true rfl⟩) hS (fun q _ h => XA.le hS.1 q h) (XA.le hS.1) (fun x t H locs ht hvm hw hB9 _ _ hS => ?_)
              have hP := xB.at ht hB9
              clear hB9 ht hvm
              obtain ⟨st72, sl73, so74⟩ := x
              obtain ⟨hGst72, hOst72, hFst72, hw⟩ := hw
              dsimp only at hGst72 hOst72 hFst72 hw
              have hO : OG ad [2, 4] so so74 := hO.tr hOst72 (by decide)
              have hP : va_P (dC, dI) vwCl (xw A C nb st72 sl73 so74) _ := hP
              have hG : XG [1, 2, 3, 4, 5, 6, 7, 12, 13, 14, 15] st st72 := hG.tr hGst72 (by decide)
              have hF : FX 5 st sl so st72 sl73 so74 := hF.tr hFst72 (by omega) (by omega)
              have hR : CN c nm st72 sl73 0 := hR.fr0 hFst72
              have hT := hw
              have hp9 := hT.2.2.2.2.2.2
              have hk1 := tkd_lt (B := B) (g := g) (m := m) (p := (tkx B g m p7))
              have hk2 := tkx_le (B := B) (g := g) (m := m) (p := (tkx B g m p7)) hp9
              have hk3 := tka_le (B := B) (g := g) (m := m) (p := (tkx B g m p7)) hp9 hB.2.2.1
              have hk4 := tkv_ltc (p := (tkx B g m p7)) hB hp9
              have hk5 := tkw_lt (B := B) (g := g) (m := m) (p := (tkx B g m p7))
              refine lv_aload_n hx hb dX7_readCond_93 rfl (lv_at hl 3 rfl) ?_
              refine lv_aload_n hx hb dX7_readCond_94 rfl (lv_at hl 4 rfl) ?_
              refine lv_aload_n hx hb dX7_readCond_95 rfl (lv_at hl 5 rfl) ?_
              refine lv_iload_n hx hb dX7_readCond_96 rfl (lv_at hl 6 rfl) ?_
              refine va_calli (va_runV (As := [.ref (A 1), .ref (A (36 + 20 * 0)), .int 1]) (rest := []) ⟨hx, hb, hml, hown, hts⟩ (y_readOne_1 l dC dI ad E hEE A C nb _ hN st72 sl73 so74 B g m (tkx B g m p7) c nm o7 hG.1 hO.1 (CBt.fr hB hF) hT hR (by rw [(hFst72 (20 + 4 * 1) 4 (by decide)).1, ho7]) (by omega)) (cwV 3 hts gX7_readCond_X7_readOne rfl rfl rfl (by decide +kernel) ⟨Nat.le_of_ble_eq_true rfl, Nat.le_of_ble_eq_true rfl⟩) ⟨fun a U g mk q => ⟨q.1, xPre.blind hEE q.2⟩, va_recv hK hP (ci := 8) (q0 := (20 + 4 * 1)) rfl (xw_is (r := (20 + 4 * 1)) (by omega) (xc_sn (q := 1) (o := 0) (by omega) (by omega))), fun U hU hW => ⟨rfl, xPre.of hEE hP hK hE hS hU hW⟩⟩ rfl rfl hl.1 rfl (lv_room (Nat.le_of_ble_eq_true rfl)) dX7_readCond_97 ⟨Nat.le_of_ble_eq_true rfl, Nat.le_of_ble_eq_true rfl⟩) hS (fun q _ h => XA.le hS.1 q h) (XA.le hS.1) (fun r75 x t H locs ht hvm hw hB9 _ _ hS => ?_)
              have hP := xB.at ht hB9
              clear hB9 ht hvm
              obtain ⟨st76, sl77, so78⟩ := x
              obtain ⟨hGst76, hOst76, hFst76, hw⟩ := hw
              dsimp only at hGst76 hOst76 hFst76 hw
              have hO : OG ad [2, 4] so so78 := hO.tr hOst76 (by decide)
              have hP : va_P (dC, dI) vwCl (xw A C nb st76 sl77 so78) _ := hP
              have hG : XG [1, 2, 3, 4, 5, 6, 7, 12, 13, 14, 15] st st76 := hG.tr hGst76 (by decide)
              have hF : FX 5 st sl so st76 sl77 so78 := hF.tr hFst76 (by omega) (by omega)
              have hR : CN c nm st76 sl77 0 := hR.fr0 hFst76
              rcases hw with ⟨n79, n80, rfl, hT, hf81, hf82, hf83, hf84, hf85⟩ | ⟨n86, n87, rfl, hf88, hf89, hf90, hf91⟩
              · have hp9 := hT.2.2.2.2.2.2
                have hk1 := tkd_lt (B := B) (g := g) (m := m) (p := n79)
                have hk2 := tkx_le (B := B) (g := g) (m := m) (p := n79) hp9
                have hk3 := tka_le (B := B) (g := g) (m := m) (p := n79) hp9 hB.2.2.1
                have hk4 := tkv_ltc (p := n79) hB hp9
                have hk5 := tkw_lt (B := B) (g := g) (m := m) (p := n79)
                refine lv_istore (lv' := [(4, .int 1), (5, .int 1), (6, .int (nI k18)), (0, .ref (A (20 + 4 * 1))), (1, .ref (A 1)), (2, .ref (A (36 + 20 * 0))), (3, .int 1)]) hx hb dX7_readCond_100 hl (by decide) rfl (fun ls hl => ?_)
                refine lv_iinc (v := (nI (k18 + 1))) (lv' := [(6, .int (nI (k18 + 1))), (4, .int 1), (5, .int 1), (0, .ref (A (20 + 4 * 1))), (1, .ref (A 1)), (2, .ref (A (36 + 20 * 0))), (3, .int 1)]) hx hb dX7_readCond_102 hl (k := 2) rfl (nI_add k18 1) (by decide) rfl (fun ls hl => ?_)
                refine lv_goto (tgt := 15) hx hb dX7_readCond_105 (by decide) ?_
                exact ih34 (21 - (k18 + 1)) _ _ _ _ (by omega) ⟨(k18 + 1), 1, 1, st76, sl77, so78, rfl, by omega, by omega, by omega, by omega, by omega, by omega, fun _ => ⟨n79, n80, hT, by show st76 1 13 = st 1 13; rw [hf81, (hFst72 1 13 (by decide)).1]; exact h13, by show st76 (20 + 4 * 1) 4 = _; rw [hf82], by omega, by omega, hco.trans (sL_y (sOne_pr _) (by omega) (by omega) hf85)⟩, fun h9 => absurd h9 (by decide), hR, hF, hP, hG, hO, hS, lv_sub hl [0, 2, 1, 3, 4, 5, 6] rfl, rfl⟩
              · refine lv_istore (lv' := [(4, .int 0), (5, .int 1), (6, .int (nI k18)), (0, .ref (A (20 + 4 * 1))), (1, .ref (A 1)), (2, .ref (A (36 + 20 * 0))), (3, .int 1)]) hx hb dX7_readCond_100 hl (by decide) rfl (fun ls hl => ?_)
                refine lv_iinc (v := (nI (k18 + 1))) (lv' := [(6, .int (nI (k18 + 1))), (4, .int 0), (5, .int 1), (0, .ref (A (20 + 4 * 1))), (1, .ref (A 1)), (2, .ref (A (36 + 20 * 0))), (3, .int 1)]) hx hb dX7_readCond_102 hl (k := 2) rfl (nI_add k18 1) (by decide) rfl (fun ls hl => ?_)
                refine lv_goto (tgt := 15) hx hb dX7_readCond_105 (by decide) ?_
                exact ih34 (21 - (k18 + 1)) _ _ _ _ (by omega) ⟨(k18 + 1), 1, 0, st76, sl77, so78, rfl, by omega, by omega, by omega, by omega, by omega, by omega, fun h9 => absurd h9 (by decide), fun _ => ⟨n86, n87, by show st76 1 13 = _; rw [hf88], by show st76 1 14 = _; rw [hf89], hf90, hco.trans (sL_f (by omega) hf91 (by omega))⟩, hR, hF, hP, hG, hO, hS, lv_sub hl [0, 2, 1, 3, 4, 5, 6] rfl, rfl⟩
            · have c18 : ¬ k19 = 0 := fun hh => c18 ((nI_eq (a := k19) (b := 0) (by omega) (by omega)).mpr hh)
              refine lv_aload_n hx hb dX7_readCond_77 rfl (lv_at hl 3 rfl) ?_
              refine va_gets (v := .ref (ad 13)) hx hb (EV.word hEv (i := 13) (by decide)) hS hown (hts _ mm_X7_readCond_2) (fun _ hh => hh) dX7_readCond_78 ?_
              refine lv_iconst (v := 0) hx hb dX7_readCond_81 (by decide) ?_
              refine lv_iconst (v := 0) hx hb dX7_readCond_82 (by decide) ?_
              refine va_callv (va_runV (As := [.ref (ad 13), .int 0, .int 0]) (rest := []) ⟨hx, hb, hml, hown, hts⟩ (y_addT l dC dI ad E hEE A C nb _ hN st21 sl22 so23 13 0 0 B g m p7 (by omega) hG.1 hO.1 (CBt.fr hB hF) hT) (cwV 3 hts gX7_readCond_X7_add rfl rfl rfl (by decide +kernel) ⟨Nat.le_of_ble_eq_true rfl, Nat.le_of_ble_eq_true rfl⟩) ⟨fun a U g mk q => ⟨q.1, xPre.blind hEE q.2⟩, va_recv hK hP (ci := 8) (q0 := (20 + 4 * 1)) rfl (xw_is (r := (20 + 4 * 1)) (by omega) (xc_sn (q := 1) (o := 0) (by omega) (by omega))), fun U hU hW => ⟨rfl, xPre.of hEE hP hK hE hS hU hW⟩⟩ rfl rfl hl.1 rfl (lv_room (Nat.le_of_ble_eq_true rfl)) dX7_readCond_83 ⟨Nat.le_of_ble_eq_true rfl, Nat.le_of_ble_eq_true rfl⟩) hS (fun q _ h => XA.le hS.1 q h) (XA.le hS.1) (fun x t H locs ht hvm hw hB9 _ _ hS => ?_)
              have hP := xB.at ht hB9
              clear hB9 ht hvm
              obtain ⟨st93, sl94, so95⟩ := x
              obtain ⟨hGst93, hOst93, hFst93, hw⟩ := hw
              dsimp only at hGst93 hOst93 hFst93 hw
              have hO : OG ad [2, 4] so so95 := hO.tr hOst93 (by decide)
              have hP : va_P (dC, dI) vwCl (xw A C nb st93 sl94 so95) _ := hP
              have hG : XG [1, 2, 3, 4, 5, 6, 7, 12, 13, 14, 15] st st93 := hG.tr hGst93 (by decide)
              have hF : FX 5 st sl so st93 sl94 so95 := hF.tr hFst93 (by omega) (by omega)
              have hR : CN c nm st93 sl94 0 := hR.fr0 hFst93
              obtain ⟨hf96, hf97, hf98, hT⟩ := hw
              have hp9 := hT.2.2.2.2.2.2
              have hk1 := tkd_lt (B := B) (g := g) (m := m) (p := p7)
              have hk2 := tkx_le (B := B) (g := g) (m := m) (p := p7) hp9
              have hk3 := tka_le (B := B) (g := g) (m := m) (p := p7) hp9 hB.2.2.1
              have hk4 := tkv_ltc (p := p7) hB hp9
              have hk5 := tkw_lt (B := B) (g := g) (m := m) (p := p7)
              refine lv_iconst (v := 1) hx hb dX7_readCond_86 (by decide) ?_
              refine lv_istore (lv' := [(5, .int 1), (6, .int (nI k18)), (4, .int 1), (0, .ref (A (20 + 4 * 1))), (1, .ref (A 1)), (2, .ref (A (36 + 20 * 0))), (3, .int 1)]) hx hb dX7_readCond_87 hl (by decide) rfl (fun ls hl => ?_)
              refine lv_aload_n hx hb dX7_readCond_89 rfl (lv_at hl 4 rfl) ?_
              refine va_callv (va_runV (As := []) (rest := []) ⟨hx, hb, hml, hown, hts⟩ (y_X8_step l dC dI ad E hEE A C nb _ hN st93 sl94 so95 B g m (tkx B g m p7) hG.1 hO.1 (CBt.fr hB hF) hT.1 hk2.2) (cwV 0 hts gX7_readCond_X8_step rfl rfl rfl (by decide +kernel) ⟨Nat.le_of_ble_eq_true rfl, Nat.le_of_ble_eq_true rfl⟩) ⟨fun a U g mk q => ⟨q.1, xPre.blind hEE q.2⟩, va_recv hK hP (ci := 9) (q0 := 1) rfl (xw_is (r := 1) (by omega) (xc_fix (r := 1) (by omega))), fun U hU hW => ⟨rfl, xPre.of hEE hP hK hE hS hU hW⟩⟩ rfl rfl hl.1 rfl (lv_room (Nat.le_of_ble_eq_true rfl)) dX7_readCond_90 ⟨Nat.le_of_ble_eq_true rfl, Nat.le_of_ble_eq_true rfl⟩) hS (fun q _ h => XA.le hS.1 q h) (XA.le hS.1) (fun x t H locs ht hvm hw hB9 _ _ hS => ?_)
              have hP := xB.at ht hB9
              clear hB9 ht hvm
              obtain ⟨st100, sl101, so102⟩ := x
              obtain ⟨hGst100, hOst100, hFst100, hw⟩ := hw
              dsimp only at hGst100 hOst100 hFst100 hw
              have hO : OG ad [2, 4] so so102 := hO.tr hOst100 (by decide)
              have hP : va_P (dC, dI) vwCl (xw A C nb st100 sl101 so102) _ := hP
              have hG : XG [1, 2, 3, 4, 5, 6, 7, 12, 13, 14, 15] st st100 := hG.tr hGst100 (by decide)
              have hF : FX 5 st sl so st100 sl101 so102 := hF.tr hFst100 (by omega) (by omega)
              have hR : CN c nm st100 sl101 0 := hR.fr0 hFst100
              have hT := hw
              have hp9 := hT.2.2.2.2.2.2
              have hk1 := tkd_lt (B := B) (g := g) (m := m) (p := (tkx B g m p7))
              have hk2 := tkx_le (B := B) (g := g) (m := m) (p := (tkx B g m p7)) hp9
              have hk3 := tka_le (B := B) (g := g) (m := m) (p := (tkx B g m p7)) hp9 hB.2.2.1
              have hk4 := tkv_ltc (p := (tkx B g m p7)) hB hp9
              have hk5 := tkw_lt (B := B) (g := g) (m := m) (p := (tkx B g m p7))
              refine lv_aload_n hx hb dX7_readCond_93 rfl (lv_at hl 3 rfl) ?_
              refine lv_aload_n hx hb dX7_readCond_94 rfl (lv_at hl 4 rfl) ?_
              refine lv_aload_n hx hb dX7_readCond_95 rfl (lv_at hl 5 rfl) ?_
              refine lv_iload_n hx hb dX7_readCond_96 rfl (lv_at hl 6 rfl) ?_
              refine va_calli (va_runV (As := [.ref (A 1), .ref (A (36 + 20 * 0)), .int 1]) (rest := []) ⟨hx, hb, hml, hown, hts⟩ (y_readOne_1 l dC dI ad E hEE A C nb _ hN st100 sl101 so102 B g m (tkx B g m p7) c nm o7 hG.1 hO.1 (CBt.fr hB hF) hT hR (by rw [(hFst100 (20 + 4 * 1) 4 (by decide)).1, hf98, ho7]) (by omega)) (cwV 3 hts gX7_readCond_X7_readOne rfl rfl rfl (by decide +kernel) ⟨Nat.le_of_ble_eq_true rfl, Nat.le_of_ble_eq_true rfl⟩) ⟨fun a U g mk q => ⟨q.1, xPre.blind hEE q.2⟩, va_recv hK hP (ci := 8) (q0 := (20 + 4 * 1)) rfl (xw_is (r := (20 + 4 * 1)) (by omega) (xc_sn (q := 1) (o := 0) (by omega) (by omega))), fun U hU hW => ⟨rfl, xPre.of hEE hP hK hE hS hU hW⟩⟩ rfl rfl hl.1 rfl (lv_room (Nat.le_of_ble_eq_true rfl)) dX7_readCond_97 ⟨Nat.le_of_ble_eq_true rfl, Nat.le_of_ble_eq_true rfl⟩) hS (fun q _ h => XA.le hS.1 q h) (XA.le hS.1) (fun r103 x t H locs ht hvm hw hB9 _ _ hS => ?_)
              have hP := xB.at ht hB9
              clear hB9 ht hvm
              obtain ⟨st104, sl105, so106⟩ := x
              obtain ⟨hGst104, hOst104, hFst104, hw⟩ := hw
              dsimp only at hGst104 hOst104 hFst104 hw
              have hO : OG ad [2, 4] so so106 := hO.tr hOst104 (by decide)
              have hP : va_P (dC, dI) vwCl (xw A C nb st104 sl105 so106) _ := hP
              have hG : XG [1, 2, 3, 4, 5, 6, 7, 12, 13, 14, 15] st st104 := hG.tr hGst104 (by decide)
              have hF : FX 5 st sl so st104 sl105 so106 := hF.tr hFst104 (by omega) (by omega)
              have hR : CN c nm st104 sl105 0 := hR.fr0 hFst104
              rcases hw with ⟨n107, n108, rfl, hT, hf109, hf110, hf111, hf112, hf113⟩ | ⟨n114, n115, rfl, hf116, hf117, hf118, hf119⟩
              · have hp9 := hT.2.2.2.2.2.2
                have hk1 := tkd_lt (B := B) (g := g) (m := m) (p := n107)
                have hk2 := tkx_le (B := B) (g := g) (m := m) (p := n107) hp9
                have hk3 := tka_le (B := B) (g := g) (m := m) (p := n107) hp9 hB.2.2.1
                have hk4 := tkv_ltc (p := n107) hB hp9
                have hk5 := tkw_lt (B := B) (g := g) (m := m) (p := n107)
                refine lv_istore (lv' := [(4, .int 1), (5, .int 1), (6, .int (nI k18)), (0, .ref (A (20 + 4 * 1))), (1, .ref (A 1)), (2, .ref (A (36 + 20 * 0))), (3, .int 1)]) hx hb dX7_readCond_100 hl (by decide) rfl (fun ls hl => ?_)
                refine lv_iinc (v := (nI (k18 + 1))) (lv' := [(6, .int (nI (k18 + 1))), (4, .int 1), (5, .int 1), (0, .ref (A (20 + 4 * 1))), (1, .ref (A 1)), (2, .ref (A (36 + 20 * 0))), (3, .int 1)]) hx hb dX7_readCond_102 hl (k := 2) rfl (nI_add k18 1) (by decide) rfl (fun ls hl => ?_)
                refine lv_goto (tgt := 15) hx hb dX7_readCond_105 (by decide) ?_
                exact ih34 (21 - (k18 + 1)) _ _ _ _ (by omega) ⟨(k18 + 1), 1, 1, st104, sl105, so106, rfl, by omega, by omega, by omega, by omega, by omega, by omega, fun _ => ⟨n107, n108, hT, by show st104 1 13 = st 1 13; rw [hf109, (hFst100 1 13 (by decide)).1, hf96]; exact h13, by show st104 (20 + 4 * 1) 4 = _; rw [hf110], by omega, by omega, hco.trans (sL_y (sOne_pr _) (by omega) (by omega) hf113)⟩, fun h9 => absurd h9 (by decide), hR, hF, hP, hG, hO, hS, lv_sub hl [0, 2, 1, 3, 4, 5, 6] rfl, rfl⟩
              · refine lv_istore (lv' := [(4, .int 0), (5, .int 1), (6, .int (nI k18)), (0, .ref (A (20 + 4 * 1))), (1, .ref (A 1)), (2, .ref (A (36 + 20 * 0))), (3, .int 1)]) hx hb dX7_readCond_100 hl (by decide) rfl (fun ls hl => ?_)
                refine lv_iinc (v := (nI (k18 + 1))) (lv' := [(6, .int (nI (k18 + 1))), (4, .int 0), (5, .int 1), (0, .ref (A (20 + 4 * 1))), (1, .ref (A 1)), (2, .ref (A (36 + 20 * 0))), (3, .int 1)]) hx hb dX7_readCond_102 hl (k := 2) rfl (nI_add k18 1) (by decide) rfl (fun ls hl => ?_)
                refine lv_goto (tgt := 15) hx hb dX7_readCond_105 (by decide) ?_
                exact ih34 (21 - (k18 + 1)) _ _ _ _ (by omega) ⟨(k18 + 1), 1, 0, st104, sl105, so106, rfl, by omega, by omega, by omega, by omega, by omega, by omega, fun h9 => absurd h9 (by decide), fun _ => ⟨n114, n115, by show st104 1 13 = _; rw [hf116], by show st104 1 14 = _; rw [hf117], hf118, hco.trans (sL_f (by omega) hf119 (by omega))⟩, hR, hF, hP, hG, hO, hS, lv_sub hl [0, 2, 1, 3, 4, 5, 6] rfl, rfl⟩
        · have c9 : (tkw B g m p7) = 14 := (EV.eqw hEv (i := (tkw B g m p7)) (j := 14) (by omega) (by omega)).mp c9
          refine lv_aload_n hx hb dX7_readCond_37 rfl (lv_at hl 4 rfl) ?_
          refine va_callv (va_runV (As := []) (rest := []) ⟨hx, hb, hml, hown, hts⟩ (y_X8_step l dC dI ad E hEE A C nb _ hN st21 sl22 so23 B g m (tkx B g m p7) hG.1 hO.1 (CBt.fr hB hF) hT.1 hk2.2) (cwV 0 hts gX7_readCond_X8_step rfl rfl rfl (by decide +kernel) ⟨Nat.le_of_ble_eq_true rfl, Nat.le_of_ble_eq_true rfl⟩) ⟨fun a U g mk q => ⟨q.1, xPre.blind hEE q.2⟩, va_recv hK hP (ci := 9) (q0 := 1) rfl (xw_is (r := 1) (by omega) (xc_fix (r := 1) (by omega))), fun U hU hW => ⟨rfl, xPre.of hEE hP hK hE hS hU hW⟩⟩ rfl rfl hl.1 rfl (lv_room (Nat.le_of_ble_eq_true rfl)) dX7_readCond_38 ⟨Nat.le_of_ble_eq_true rfl, Nat.le_of_ble_eq_true rfl⟩) hS (fun q _ h => XA.le hS.1 q h) (XA.le hS.1) (fun x t H locs ht hvm hw hB9 _ _ hS => ?_)
          have hP := xB.at ht hB9
          clear hB9 ht hvm
          obtain ⟨st121, sl122, so123⟩ := x
          obtain ⟨hGst121, hOst121, hFst121, hw⟩ := hw
          dsimp only at hGst121 hOst121 hFst121 hw
          have hO : OG ad [2, 4] so so123 := hO.tr hOst121 (by decide)
          have hP : va_P (dC, dI) vwCl (xw A C nb st121 sl122 so123) _ := hP
          have hG : XG [1, 2, 3, 4, 5, 6, 7, 12, 13, 14, 15] st st121 := hG.tr hGst121 (by decide)
          have hF : FX 5 st sl so st121 sl122 so123 := hF.tr hFst121 (by omega) (by omega)
          have hR : CN c nm st121 sl122 0 := hR.fr0 hFst121
          have hT := hw
          have hp9 := hT.2.2.2.2.2.2
          have hk1 := tkd_lt (B := B) (g := g) (m := m) (p := (tkx B g m p7))
          have hk2 := tkx_le (B := B) (g := g) (m := m) (p := (tkx B g m p7)) hp9
          have hk3 := tka_le (B := B) (g := g) (m := m) (p := (tkx B g m p7)) hp9 hB.2.2.1
          have hk4 := tkv_ltc (p := (tkx B g m p7)) hB hp9
          have hk5 := tkw_lt (B := B) (g := g) (m := m) (p := (tkx B g m p7))
          refine lv_aload_n hx hb dX7_readCond_41 rfl (lv_at hl 3 rfl) ?_
          refine lv_aload_n hx hb dX7_readCond_42 rfl (lv_at hl 4 rfl) ?_
          refine lv_aload_n hx hb dX7_readCond_43 rfl (lv_at hl 5 rfl) ?_
          refine lv_iload_n hx hb dX7_readCond_44 rfl (lv_at hl 6 rfl) ?_
          refine va_calli (va_runV (As := [.ref (A 1), .ref (A (36 + 20 * 0)), .int 1]) (rest := []) ⟨hx, hb, hml, hown, hts⟩ (y_readOne_1 l dC dI ad E hEE A C nb _ hN st121 sl122 so123 B g m (tkx B g m p7) c nm o7 hG.1 hO.1 (CBt.fr hB hF) hT hR (by rw [(hFst121 (20 + 4 * 1) 4 (by decide)).1, ho7]) (by omega)) (cwV 3 hts gX7_readCond_X7_readOne rfl rfl rfl (by decide +kernel) ⟨Nat.le_of_ble_eq_true rfl, Nat.le_of_ble_eq_true rfl⟩) ⟨fun a U g mk q => ⟨q.1, xPre.blind hEE q.2⟩, va_recv hK hP (ci := 8) (q0 := (20 + 4 * 1)) rfl (xw_is (r := (20 + 4 * 1)) (by omega) (xc_sn (q := 1) (o := 0) (by omega) (by omega))), fun U hU hW => ⟨rfl, xPre.of hEE hP hK hE hS hU hW⟩⟩ rfl rfl hl.1 rfl (lv_room (Nat.le_of_ble_eq_true rfl)) dX7_readCond_45 ⟨Nat.le_of_ble_eq_true rfl, Nat.le_of_ble_eq_true rfl⟩) hS (fun q _ h => XA.le hS.1 q h) (XA.le hS.1) (fun r124 x t H locs ht hvm hw hB9 _ _ hS => ?_)
          have hP := xB.at ht hB9
          clear hB9 ht hvm
          obtain ⟨st125, sl126, so127⟩ := x
          obtain ⟨hGst125, hOst125, hFst125, hw⟩ := hw
          dsimp only at hGst125 hOst125 hFst125 hw
          have hO : OG ad [2, 4] so so127 := hO.tr hOst125 (by decide)
          have hP : va_P (dC, dI) vwCl (xw A C nb st125 sl126 so127) _ := hP
          have hG : XG [1, 2, 3, 4, 5, 6, 7, 12, 13, 14, 15] st st125 := hG.tr hGst125 (by decide)
          have hF : FX 5 st sl so st125 sl126 so127 := hF.tr hFst125 (by omega) (by omega)
          have hR : CN c nm st125 sl126 0 := hR.fr0 hFst125
          rcases hw with ⟨n128, n129, rfl, hT, hf130, hf131, hf132, hf133, hf134⟩ | ⟨n135, n136, rfl, hf137, hf138, hf139, hf140⟩
          · have hp9 := hT.2.2.2.2.2.2
            have hk1 := tkd_lt (B := B) (g := g) (m := m) (p := n128)
            have hk2 := tkx_le (B := B) (g := g) (m := m) (p := n128) hp9
            have hk3 := tka_le (B := B) (g := g) (m := m) (p := n128) hp9 hB.2.2.1
            have hk4 := tkv_ltc (p := n128) hB hp9
            have hk5 := tkw_lt (B := B) (g := g) (m := m) (p := n128)
            refine lv_istore (lv' := [(4, .int 1), (6, .int (nI k18)), (5, .int (nI k19)), (0, .ref (A (20 + 4 * 1))), (1, .ref (A 1)), (2, .ref (A (36 + 20 * 0))), (3, .int 1)]) hx hb dX7_readCond_48 hl (by decide) rfl (fun ls hl => ?_)
            refine lv_aload_n hx hb dX7_readCond_50 rfl (lv_at hl 3 rfl) ?_
            refine va_gets (v := .ref (ad 14)) hx hb (EV.word hEv (i := 14) (by decide)) hS hown (hts _ mm_X7_readCond_1) (fun _ hh => hh) dX7_readCond_51 ?_
            refine lv_iconst (v := 0) hx hb dX7_readCond_54 (by decide) ?_
            refine lv_iconst (v := 0) hx hb dX7_readCond_55 (by decide) ?_
            refine va_callv (va_runV (As := [.ref (ad 14), .int 0, .int 0]) (rest := []) ⟨hx, hb, hml, hown, hts⟩ (y_addT l dC dI ad E hEE A C nb _ hN st125 sl126 so127 14 0 0 B g m n128 (by omega) hG.1 hO.1 (CBt.fr hB hF) hT) (cwV 3 hts gX7_readCond_X7_add rfl rfl rfl (by decide +kernel) ⟨Nat.le_of_ble_eq_true rfl, Nat.le_of_ble_eq_true rfl⟩) ⟨fun a U g mk q => ⟨q.1, xPre.blind hEE q.2⟩, va_recv hK hP (ci := 8) (q0 := (20 + 4 * 1)) rfl (xw_is (r := (20 + 4 * 1)) (by omega) (xc_sn (q := 1) (o := 0) (by omega) (by omega))), fun U hU hW => ⟨rfl, xPre.of hEE hP hK hE hS hU hW⟩⟩ rfl rfl hl.1 rfl (lv_room (Nat.le_of_ble_eq_true rfl)) dX7_readCond_56 ⟨Nat.le_of_ble_eq_true rfl, Nat.le_of_ble_eq_true rfl⟩) hS (fun q _ h => XA.le hS.1 q h) (XA.le hS.1) (fun x t H locs ht hvm hw hB9 _ _ hS => ?_)
            have hP := xB.at ht hB9
            clear hB9 ht hvm
            obtain ⟨st142, sl143, so144⟩ := x
            obtain ⟨hGst142, hOst142, hFst142, hw⟩ := hw
            dsimp only at hGst142 hOst142 hFst142 hw
            have hO : OG ad [2, 4] so so144 := hO.tr hOst142 (by decide)
            have hP : va_P (dC, dI) vwCl (xw A C nb st142 sl143 so144) _ := hP
            have hG : XG [1, 2, 3, 4, 5, 6, 7, 12, 13, 14, 15] st st142 := hG.tr hGst142 (by decide)
            have hF : FX 5 st sl so st142 sl143 so144 := hF.tr hFst142 (by omega) (by omega)
            have hR : CN c nm st142 sl143 0 := hR.fr0 hFst142
            obtain ⟨hf145, hf146, hf147, hT⟩ := hw
            have hp9 := hT.2.2.2.2.2.2
            have hk1 := tkd_lt (B := B) (g := g) (m := m) (p := n128)
            have hk2 := tkx_le (B := B) (g := g) (m := m) (p := n128) hp9
            have hk3 := tka_le (B := B) (g := g) (m := m) (p := n128) hp9 hB.2.2.1
            have hk4 := tkv_ltc (p := n128) hB hp9
            have hk5 := tkw_lt (B := B) (g := g) (m := m) (p := n128)
            refine lv_goto (tgt := 102) hx hb dX7_readCond_59 (by decide) ?_
            refine lv_iinc (v := (nI (k18 + 1))) (lv' := [(6, .int (nI (k18 + 1))), (4, .int 1), (5, .int (nI k19)), (0, .ref (A (20 + 4 * 1))), (1, .ref (A 1)), (2, .ref (A (36 + 20 * 0))), (3, .int 1)]) hx hb dX7_readCond_102 hl (k := 1) rfl (nI_add k18 1) (by decide) rfl (fun ls hl => ?_)
            refine lv_goto (tgt := 15) hx hb dX7_readCond_105 (by decide) ?_
            exact ih34 (21 - (k18 + 1)) _ _ _ _ (by omega) ⟨(k18 + 1), k19, 1, st142, sl143, so144, rfl, by omega, by omega, by omega, by omega, by omega, by omega, fun _ => ⟨n128, n129, hT, by show st142 1 13 = st 1 13; rw [hf145, hf130, (hFst121 1 13 (by decide)).1]; exact h13, by show st142 (20 + 4 * 1) 4 = _; rw [hf147, hf131], by omega, by omega, hco.trans (sL_y (sOne_pr _) (by omega) (by omega) hf134)⟩, fun h9 => absurd h9 (by decide), hR, hF, hP, hG, hO, hS, lv_sub hl [0, 2, 1, 3, 4, 5, 6] rfl, rfl⟩
          · refine lv_istore (lv' := [(4, .int 0), (6, .int (nI k18)), (5, .int (nI k19)), (0, .ref (A (20 + 4 * 1))), (1, .ref (A 1)), (2, .ref (A (36 + 20 * 0))), (3, .int 1)]) hx hb dX7_readCond_48 hl (by decide) rfl (fun ls hl => ?_)
            refine lv_aload_n hx hb dX7_readCond_50 rfl (lv_at hl 3 rfl) ?_
            refine va_gets (v := .ref (ad 14)) hx hb (EV.word hEv (i := 14) (by decide)) hS hown (hts _ mm_X7_readCond_1) (fun _ hh => hh) dX7_readCond_51 ?_
            refine lv_iconst (v := 0) hx hb dX7_readCond_54 (by decide) ?_
            refine lv_iconst (v := 0) hx hb dX7_readCond_55 (by decide) ?_
            refine va_callv (va_runV (As := [.ref (ad 14), .int 0, .int 0]) (rest := []) ⟨hx, hb, hml, hown, hts⟩ (y_addN l dC dI ad E hEE A C nb _ hN st125 sl126 so127 14 0 0 (by omega) hG.1 hO.1 ) (cwV 3 hts gX7_readCond_X7_add rfl rfl rfl (by decide +kernel) ⟨Nat.le_of_ble_eq_true rfl, Nat.le_of_ble_eq_true rfl⟩) ⟨fun a U g mk q => ⟨q.1, xPre.blind hEE q.2⟩, va_recv hK hP (ci := 8) (q0 := (20 + 4 * 1)) rfl (xw_is (r := (20 + 4 * 1)) (by omega) (xc_sn (q := 1) (o := 0) (by omega) (by omega))), fun U hU hW => ⟨rfl, xPre.of hEE hP hK hE hS hU hW⟩⟩ rfl rfl hl.1 rfl (lv_room (Nat.le_of_ble_eq_true rfl)) dX7_readCond_56 ⟨Nat.le_of_ble_eq_true rfl, Nat.le_of_ble_eq_true rfl⟩) hS (fun q _ h => XA.le hS.1 q h) (XA.le hS.1) (fun x t H locs ht hvm hw hB9 _ _ hS => ?_)
            have hP := xB.at ht hB9
            clear hB9 ht hvm
            obtain ⟨st149, sl150, so151⟩ := x
            obtain ⟨hGst149, hOst149, hFst149, hw⟩ := hw
            dsimp only at hGst149 hOst149 hFst149 hw
            have hO : OG ad [2, 4] so so151 := hO.tr hOst149 (by decide)
            have hP : va_P (dC, dI) vwCl (xw A C nb st149 sl150 so151) _ := hP
            have hG : XG [1, 2, 3, 4, 5, 6, 7, 12, 13, 14, 15] st st149 := hG.tr hGst149 (by decide)
            have hF : FX 5 st sl so st149 sl150 so151 := hF.tr hFst149 (by omega) (by omega)
            have hR : CN c nm st149 sl150 0 := hR.fr0 hFst149
            obtain ⟨hf152, hf153, hf154⟩ := hw
            refine lv_goto (tgt := 102) hx hb dX7_readCond_59 (by decide) ?_
            refine lv_iinc (v := (nI (k18 + 1))) (lv' := [(6, .int (nI (k18 + 1))), (4, .int 0), (5, .int (nI k19)), (0, .ref (A (20 + 4 * 1))), (1, .ref (A 1)), (2, .ref (A (36 + 20 * 0))), (3, .int 1)]) hx hb dX7_readCond_102 hl (k := 1) rfl (nI_add k18 1) (by decide) rfl (fun ls hl => ?_)
            refine lv_goto (tgt := 15) hx hb dX7_readCond_105 (by decide) ?_
            exact ih34 (21 - (k18 + 1)) _ _ _ _ (by omega) ⟨(k18 + 1), k19, 0, st149, sl150, so151, rfl, by omega, by omega, by omega, by omega, by omega, by omega, fun h9 => absurd h9 (by decide), fun _ => ⟨n135, n136, by show st149 1 13 = _; rw [hf152, hf137], by show st149 1 14 = _; rw [hf153, hf138], hf139, hco.trans (sL_f (by omega) hf140 (by omega))⟩, hR, hF, hP, hG, hO, hS, lv_sub hl [0, 2, 1, 3, 4, 5, 6] rfl, rfl⟩
  · refine lv_istore (lv' := [(4, .int 0), (0, .ref (A (20 + 4 * 1))), (1, .ref (A 1)), (2, .ref (A (36 + 20 * 0))), (3, .int 1)]) hx hb dX7_readCond_7 hl (by decide) rfl (fun ls hl => ?_)
    refine lv_iconst (v := 0) hx hb dX7_readCond_9 (by decide) ?_
    refine lv_istore (lv' := [(5, .int 0), (4, .int 0), (0, .ref (A (20 + 4 * 1))), (1, .ref (A 1)), (2, .ref (A (36 + 20 * 0))), (3, .int 1)]) hx hb dX7_readCond_10 hl (by decide) rfl (fun ls hl => ?_)
    refine lv_iconst (v := 0) hx hb dX7_readCond_12 (by decide) ?_
    refine lv_istore (lv' := [(6, .int 0), (5, .int 0), (4, .int 0), (0, .ref (A (20 + 4 * 1))), (1, .ref (A 1)), (2, .ref (A (36 + 20 * 0))), (3, .int 1)]) hx hb dX7_readCond_13 hl (by decide) rfl (fun ls hl => ?_)
    refine zz_wf (fun n stk H locs ls => ∃ k155 : Nat, ∃ k156 : Nat, ∃ k157 : Nat, ∃ st158 : Nat → Nat → Int32, ∃ sl159 : Nat → Nat → Int64, ∃ so160 : Nat → XR, n = 21 - k155 ∧ 0 ≤ k155 ∧ k155 < 21 ∧ 0 ≤ k156 ∧ k156 < 2 ∧ 0 ≤ k157 ∧ k157 < 2 ∧ (zz_im (k157 = 1) (∃ (p7 o7 : Nat), TC B g m p7 ad st158 sl159 so160 ∧ st158 1 13 = st 1 13 ∧ st158 (20 + 4 * 1) 4 = nI o7 ∧ go + 1 + k155 ≤ o7 ∧ o7 ≤ 20 ∧ sCond B g m (sOne B g m c nm 8) p go = sLoop B g m (sOne B g m c nm 8) 21 p7 o7)) ∧ (zz_im (k157 = 0) (∃ (f7 a7 : Nat), st158 1 13 = nI f7 ∧ st158 1 14 = nI a7 ∧ (1 ≤ f7 ∧ f7 < 9) ∧ sCond B g m (sOne B g m c nm 8) p go = sf f7 a7)) ∧ CN c nm st158 sl159 0 ∧ FX 5 st sl so st158 sl159 so160 ∧ va_P (dC, dI) vwCl (xw A C nb st158 sl159 so160) H ∧ XG [1, 2, 3, 4, 5, 6, 7, 12, 13, 14, 15] st st158 ∧ OG ad [2, 4] so so160 ∧ va_S (XA A s.heap.size) s.heap H locs ∧ lv_has ls 7 [(6, .int (nI k155)), (5, .int (nI k156)), (4, .int (nI k157)), (0, .ref (A (20 + 4 * 1))), (1, .ref (A 1)), (2, .ref (A (36 + 20 * 0))), (3, .int 1)] ∧ stk = []) ?_ (21 - 0) _ _ _ _ ⟨0, 0, 0, st2, sl3, so4, rfl, by omega, by omega, by omega, by omega, by omega, by omega, fun h9 => absurd h9 (by decide), fun _ => ⟨n12, n13, by show st2 1 13 = _; rw [hf14], by show st2 1 14 = _; rw [hf15], hf16, sC_f hf17 (by omega)⟩, hR, hF, hP, hG, hO, hS, lv_sub hl [0, 1, 2, 3, 4, 5, 6] rfl, rfl⟩
    rintro nn stk H locs ls ⟨k155, k156, k157, st158, sl159, so160, hm170, hv161_0, hv162_1, hv163_2, hv164_3, hv165_4, hv166_5, hv167_0, hv168_1, hv169_2, hv170_3, hP, hG, hO, hS, hl, rfl⟩ ih171
    have hF := hv170_3
    have hR := hv169_2
    refine lv_iload hx hb dX7_readCond_15 (lv_at hl 0 rfl) ?_
    refine lv_bipush (v := 20) hx hb dX7_readCond_17 (by decide) ?_
    refine lv_icmp_ge (tgt := 108) hx hb dX7_readCond_19 (by decide) (fun c19 => ?_) (fun c19 => ?_)
    · have c19 : 20 ≤ k155 := (nI_leI (a := 20) (b := k155) (by omega) (by omega)).mp c19
      have hz4 : k157 = 0 := by
        by_cases h9 : k157 = 1
        · obtain ⟨p7, o7, -, -, -, hoa, hob, -⟩ := hv167_0 h9; omega
        · omega
      have hg172 : k157 = 0 := by omega
      have hl : lv_has ls 7 [(6, .int (nI k155)), (5, .int (nI k156)), (4, .int 0), (0, .ref (A (20 + 4 * 1))), (1, .ref (A 1)), (2, .ref (A (36 + 20 * 0))), (3, .int 1)] := by rw [hg172] at hl; exact hl
      obtain ⟨f7, a7, h13, h14, hfa, hco⟩ := hv168_1 hz4
      refine lv_iload hx hb dX7_readCond_108 (lv_at hl 1 rfl) ?_
      refine lv_if_eq (tgt := 122) hx hb dX7_readCond_110 (by decide) (fun c20 => ?_) (fun c20 => ?_)
      · have c20 : k156 = 0 := (nI_eq (a := k156) (b := 0) (by omega) (by omega)).mp c20
        refine lv_iload hx hb dX7_readCond_122 (lv_at hl 2 rfl) ?_
        refine lv_if_eq (tgt := 146) hx hb dX7_readCond_124 (by decide) (fun _ => ?_) (fun cc => absurd (by decide) cc)
        refine lv_iload hx hb dX7_readCond_146 (lv_at hl 2 rfl) ?_
        exact W.zret (v := 0) hx hb hr rfl (fun t ht hW => ⟨⟨0, (st158, sl159, so160), rfl, ⟨hG, hO, hF, Or.inr (⟨f7, a7, rfl, by show st158 1 13 = _; rw [h13], by show st158 1 14 = _; rw [h14], hfa, Or.inl hco⟩)⟩, xB.of ht hP⟩, hS.F ht⟩) hS.2.2 dX7_readCond_148
      · have c20 : ¬ k156 = 0 := fun hh => c20 ((nI_eq (a := k156) (b := 0) (by omega) (by omega)).mpr hh)
        refine lv_aload_n hx hb dX7_readCond_113 rfl (lv_at hl 3 rfl) ?_
        refine va_gets (v := .ref (ad 13)) hx hb (EV.word hEv (i := 13) (by decide)) hS hown (hts _ mm_X7_readCond_2) (fun _ hh => hh) dX7_readCond_114 ?_
        refine lv_iconst (v := 0) hx hb dX7_readCond_117 (by decide) ?_
        refine lv_iconst (v := 0) hx hb dX7_readCond_118 (by decide) ?_
        refine va_callv (va_runV (As := [.ref (ad 13), .int 0, .int 0]) (rest := []) ⟨hx, hb, hml, hown, hts⟩ (y_addN l dC dI ad E hEE A C nb _ hN st158 sl159 so160 13 0 0 (by omega) hG.1 hO.1 ) (cwV 3 hts gX7_readCond_X7_add rfl rfl rfl (by decide +kernel) ⟨Nat.le_of_ble_eq_true rfl, Nat.le_of_ble_eq_true rfl⟩) ⟨fun a U g mk q => ⟨q.1, xPre.blind hEE q.2⟩, va_recv hK hP (ci := 8) (q0 := (20 + 4 * 1)) rfl (xw_is (r := (20 + 4 * 1)) (by omega) (xc_sn (q := 1) (o := 0) (by omega) (by omega))), fun U hU hW => ⟨rfl, xPre.of hEE hP hK hE hS hU hW⟩⟩ rfl rfl hl.1 rfl (lv_room (Nat.le_of_ble_eq_true rfl)) dX7_readCond_119 ⟨Nat.le_of_ble_eq_true rfl, Nat.le_of_ble_eq_true rfl⟩) hS (fun q _ h => XA.le hS.1 q h) (XA.le hS.1) (fun x t H locs ht hvm hw hB9 _ _ hS => ?_)
        have hP := xB.at ht hB9
        clear hB9 ht hvm
        obtain ⟨st174, sl175, so176⟩ := x
        obtain ⟨hGst174, hOst174, hFst174, hw⟩ := hw
        dsimp only at hGst174 hOst174 hFst174 hw
        have hO : OG ad [2, 4] so so176 := hO.tr hOst174 (by decide)
        have hP : va_P (dC, dI) vwCl (xw A C nb st174 sl175 so176) _ := hP
        have hG : XG [1, 2, 3, 4, 5, 6, 7, 12, 13, 14, 15] st st174 := hG.tr hGst174 (by decide)
        have hF : FX 5 st sl so st174 sl175 so176 := hF.tr hFst174 (by omega) (by omega)
        have hR : CN c nm st174 sl175 0 := hR.fr0 hFst174
        obtain ⟨hf177, hf178, hf179⟩ := hw
        refine lv_iload hx hb dX7_readCond_122 (lv_at hl 2 rfl) ?_
        refine lv_if_eq (tgt := 146) hx hb dX7_readCond_124 (by decide) (fun _ => ?_) (fun cc => absurd (by decide) cc)
        refine lv_iload hx hb dX7_readCond_146 (lv_at hl 2 rfl) ?_
        exact W.zret (v := 0) hx hb hr rfl (fun t ht hW => ⟨⟨0, (st174, sl175, so176), rfl, ⟨hG, hO, hF, Or.inr (⟨f7, a7, rfl, by show st174 1 13 = _; rw [hf177, h13], by show st174 1 14 = _; rw [hf178, h14], hfa, Or.inl hco⟩)⟩, xB.of ht hP⟩, hS.F ht⟩) hS.2.2 dX7_readCond_148
    · have c19 : ¬ 20 ≤ k155 := fun hh => c19 ((nI_leI (a := 20) (b := k155) (by omega) (by omega)).mpr hh)
      refine lv_iload hx hb dX7_readCond_22 (lv_at hl 2 rfl) ?_
      refine lv_if_eq (tgt := 108) hx hb dX7_readCond_24 (by decide) (fun c23 => ?_) (fun c23 => ?_)
      · have c23 : k157 = 0 := (nI_eq (a := k157) (b := 0) (by omega) (by omega)).mp c23
        have hz4 : k157 = 0 := by
          by_cases h9 : k157 = 1
          · obtain ⟨p7, o7, -, -, -, hoa, hob, -⟩ := hv167_0 h9; omega
          · omega
        have hg180 : k157 = 0 := by omega
        have hl : lv_has ls 7 [(6, .int (nI k155)), (5, .int (nI k156)), (4, .int 0), (0, .ref (A (20 + 4 * 1))), (1, .ref (A 1)), (2, .ref (A (36 + 20 * 0))), (3, .int 1)] := by rw [hg180] at hl; exact hl
        obtain ⟨f7, a7, h13, h14, hfa, hco⟩ := hv168_1 hz4
        refine lv_iload hx hb dX7_readCond_108 (lv_at hl 1 rfl) ?_
        refine lv_if_eq (tgt := 122) hx hb dX7_readCond_110 (by decide) (fun c24 => ?_) (fun c24 => ?_)
        · have c24 : k156 = 0 := (nI_eq (a := k156) (b := 0) (by omega) (by omega)).mp c24
          refine lv_iload hx hb dX7_readCond_122 (lv_at hl 2 rfl) ?_
          refine lv_if_eq (tgt := 146) hx hb dX7_readCond_124 (by decide) (fun _ => ?_) (fun cc => absurd (by decide) cc)
          refine lv_iload hx hb dX7_readCond_146 (lv_at hl 2 rfl) ?_
          exact W.zret (v := 0) hx hb hr rfl (fun t ht hW => ⟨⟨0, (st158, sl159, so160), rfl, ⟨hG, hO, hF, Or.inr (⟨f7, a7, rfl, by show st158 1 13 = _; rw [h13], by show st158 1 14 = _; rw [h14], hfa, Or.inl hco⟩)⟩, xB.of ht hP⟩, hS.F ht⟩) hS.2.2 dX7_readCond_148
        · have c24 : ¬ k156 = 0 := fun hh => c24 ((nI_eq (a := k156) (b := 0) (by omega) (by omega)).mpr hh)
          refine lv_aload_n hx hb dX7_readCond_113 rfl (lv_at hl 3 rfl) ?_
          refine va_gets (v := .ref (ad 13)) hx hb (EV.word hEv (i := 13) (by decide)) hS hown (hts _ mm_X7_readCond_2) (fun _ hh => hh) dX7_readCond_114 ?_
          refine lv_iconst (v := 0) hx hb dX7_readCond_117 (by decide) ?_
          refine lv_iconst (v := 0) hx hb dX7_readCond_118 (by decide) ?_
          refine va_callv (va_runV (As := [.ref (ad 13), .int 0, .int 0]) (rest := []) ⟨hx, hb, hml, hown, hts⟩ (y_addN l dC dI ad E hEE A C nb _ hN st158 sl159 so160 13 0 0 (by omega) hG.1 hO.1 ) (cwV 3 hts gX7_readCond_X7_add rfl rfl rfl (by decide +kernel) ⟨Nat.le_of_ble_eq_true rfl, Nat.le_of_ble_eq_true rfl⟩) ⟨fun a U g mk q => ⟨q.1, xPre.blind hEE q.2⟩, va_recv hK hP (ci := 8) (q0 := (20 + 4 * 1)) rfl (xw_is (r := (20 + 4 * 1)) (by omega) (xc_sn (q := 1) (o := 0) (by omega) (by omega))), fun U hU hW => ⟨rfl, xPre.of hEE hP hK hE hS hU hW⟩⟩ rfl rfl hl.1 rfl (lv_room (Nat.le_of_ble_eq_true rfl)) dX7_readCond_119 ⟨Nat.le_of_ble_eq_true rfl, Nat.le_of_ble_eq_true rfl⟩) hS (fun q _ h => XA.le hS.1 q h) (XA.le hS.1) (fun x t H locs ht hvm hw hB9 _ _ hS => ?_)
          have hP := xB.at ht hB9
          clear hB9 ht hvm
          obtain ⟨st182, sl183, so184⟩ := x
          obtain ⟨hGst182, hOst182, hFst182, hw⟩ := hw
          dsimp only at hGst182 hOst182 hFst182 hw
          have hO : OG ad [2, 4] so so184 := hO.tr hOst182 (by decide)
          have hP : va_P (dC, dI) vwCl (xw A C nb st182 sl183 so184) _ := hP
          have hG : XG [1, 2, 3, 4, 5, 6, 7, 12, 13, 14, 15] st st182 := hG.tr hGst182 (by decide)
          have hF : FX 5 st sl so st182 sl183 so184 := hF.tr hFst182 (by omega) (by omega)
          have hR : CN c nm st182 sl183 0 := hR.fr0 hFst182
          obtain ⟨hf185, hf186, hf187⟩ := hw
          refine lv_iload hx hb dX7_readCond_122 (lv_at hl 2 rfl) ?_
          refine lv_if_eq (tgt := 146) hx hb dX7_readCond_124 (by decide) (fun _ => ?_) (fun cc => absurd (by decide) cc)
          refine lv_iload hx hb dX7_readCond_146 (lv_at hl 2 rfl) ?_
          exact W.zret (v := 0) hx hb hr rfl (fun t ht hW => ⟨⟨0, (st182, sl183, so184), rfl, ⟨hG, hO, hF, Or.inr (⟨f7, a7, rfl, by show st182 1 13 = _; rw [hf185, h13], by show st182 1 14 = _; rw [hf186, h14], hfa, Or.inl hco⟩)⟩, xB.of ht hP⟩, hS.F ht⟩) hS.2.2 dX7_readCond_148
      · have c23 : ¬ k157 = 0 := fun hh => c23 ((nI_eq (a := k157) (b := 0) (by omega) (by omega)).mpr hh)
        obtain ⟨p7, o7, hT, h13, ho7, hoa, hob, hco⟩ := hv167_0 (by omega)
        have hp9 := hT.2.2.2.2.2.2
        have hk1 := tkd_lt (B := B) (g := g) (m := m) (p := p7)
        have hk2 := tkx_le (B := B) (g := g) (m := m) (p := p7) hp9
        have hk3 := tka_le (B := B) (g := g) (m := m) (p := p7) hp9 hB.2.2.1
        have hk4 := tkv_ltc (p := p7) hB hp9
        have hk5 := tkw_lt (B := B) (g := g) (m := m) (p := p7)
        have hg188 : k157 = 1 := by omega
        have hl : lv_has ls 7 [(6, .int (nI k155)), (5, .int (nI k156)), (4, .int 1), (0, .ref (A (20 + 4 * 1))), (1, .ref (A 1)), (2, .ref (A (36 + 20 * 0))), (3, .int 1)] := by rw [hg188] at hl; exact hl
        refine lv_aload_n hx hb dX7_readCond_27 rfl (lv_at hl 4 rfl) ?_
        refine va_getN (host := "OffTheLead") (D := (dC, dI)) (ci := 9) (v := va_rf (so160 1 7)) (C := RX8) (T := TX8) (N := 15) hx hb hts ii_X7_readCond_X8 hown hK hP 1 (xw_is (r := 1) (by omega) (xc_fix (r := 1) (by omega))) rfl 7 (by decide) (va_Nw.use rfl (nf_X7_35 hEv)) (fun _ hh => hh) rfl dX7_readCond_28 ?_
        refine zz_topq (r := some (ad (tkw B g m p7))) (by rw [hT.2.2.2.2.2.1]) ?_
        refine va_gets (v := .ref (ad 14)) hx hb (EV.word hEv (i := 14) (by decide)) hS hown (hts _ mm_X7_readCond_1) (fun _ hh => hh) dX7_readCond_31 ?_
        refine lv_acmp_ne (rx := (some (ad (tkw B g m p7)))) (ry := (some (ad 14))) (tgt := 62) hx hb dX7_readCond_34 (by decide) (fun c27 => ?_) (fun c27 => ?_)
        · have c27 : ¬ (tkw B g m p7) = 14 := fun hh => c27 ((EV.eqw hEv (i := (tkw B g m p7)) (j := 14) (by omega) (by omega)).mpr hh)
          refine lv_aload_n hx hb dX7_readCond_62 rfl (lv_at hl 4 rfl) ?_
          refine va_getN (host := "OffTheLead") (D := (dC, dI)) (ci := 9) (v := va_rf (so160 1 7)) (C := RX8) (T := TX8) (N := 15) hx hb hts ii_X7_readCond_X8 hown hK hP 1 (xw_is (r := 1) (by omega) (xc_fix (r := 1) (by omega))) rfl 7 (by decide) (va_Nw.use rfl (nf_X7_35 hEv)) (fun _ hh => hh) rfl dX7_readCond_63 ?_
          refine zz_topq (r := some (ad (tkw B g m p7))) (by rw [hT.2.2.2.2.2.1]) ?_
          refine va_gets (v := .ref (ad 13)) hx hb (EV.word hEv (i := 13) (by decide)) hS hown (hts _ mm_X7_readCond_2) (fun _ hh => hh) dX7_readCond_66 ?_
          refine lv_acmp_ne (rx := (some (ad (tkw B g m p7)))) (ry := (some (ad 13))) (tgt := 108) hx hb dX7_readCond_69 (by decide) (fun c28 => ?_) (fun c28 => ?_)
          · have c28 : ¬ (tkw B g m p7) = 13 := fun hh => c28 ((EV.eqw hEv (i := (tkw B g m p7)) (j := 13) (by omega) (by omega)).mpr hh)
            refine lv_iload hx hb dX7_readCond_108 (lv_at hl 1 rfl) ?_
            refine lv_if_eq (tgt := 122) hx hb dX7_readCond_110 (by decide) (fun c29 => ?_) (fun c29 => ?_)
            · have c29 : k156 = 0 := (nI_eq (a := k156) (b := 0) (by omega) (by omega)).mp c29
              refine lv_iload hx hb dX7_readCond_122 (lv_at hl 2 rfl) ?_
              refine lv_if_eq (tgt := 146) hx hb dX7_readCond_124 (by decide) (fun cc => absurd cc (by decide)) (fun _ => ?_)
              refine lv_iload_n hx hb dX7_readCond_127 rfl (lv_at hl 6 rfl) ?_
              refine lv_iconst (v := 1) hx hb dX7_readCond_128 (by decide) ?_
              refine lv_icmp_ne (tgt := 146) hx hb dX7_readCond_129 (by decide) (fun cc => absurd (by decide) cc) (fun _ => ?_)
              refine lv_aload_n hx hb dX7_readCond_132 rfl (lv_at hl 4 rfl) ?_
              refine va_getN (host := "OffTheLead") (D := (dC, dI)) (ci := 9) (v := .int (st158 1 4)) (C := RX8) (T := TX8) (N := 15) hx hb hts ii_X7_readCond_X8 hown hK hP 1 (xw_is (r := 1) (by omega) (xc_fix (r := 1) (by omega))) rfl 4 (by decide) (va_Nw.use rfl (nf_X7_54 hEv)) (fun _ hh => hh) rfl dX7_readCond_133 ?_
              refine zz_top (v := (nI ((tkd B g m p7 + 3) % 5))) (by show st158 1 4 = _; rw [hT.2.2.1]) ?_
              refine lv_iconst (v := 3) hx hb dX7_readCond_136 (by decide) ?_
              refine lv_icmp_eq (tgt := 146) hx hb dX7_readCond_137 (by decide) (fun c32 => ?_) (fun c32 => ?_)
              · have c32 : ((tkd B g m p7 + 3) % 5) = 3 := (nI_eq (a := ((tkd B g m p7 + 3) % 5)) (b := 3) (by omega) (by omega)).mp c32
                refine lv_iload hx hb dX7_readCond_146 (lv_at hl 2 rfl) ?_
                exact W.zret (v := 1) hx hb hr rfl (fun t ht hW => ⟨⟨1, (st158, sl159, so160), rfl, ⟨hG, hO, hF, Or.inl (⟨p7, o7, rfl, hT, by show st158 1 13 = st 1 13; exact h13, by show st158 (20 + 4 * 1) 4 = _; rw [ho7], by omega, by omega, hco.trans (sL_n (by omega)), by omega⟩)⟩, xB.of ht hP⟩, hS.F ht⟩) hS.2.2 dX7_readCond_148
              · have c32 : ¬ ((tkd B g m p7 + 3) % 5) = 3 := fun hh => c32 ((nI_eq (a := ((tkd B g m p7 + 3) % 5)) (b := 3) (by omega) (by omega)).mpr hh)
                refine lv_aload_n hx hb dX7_readCond_140 rfl (lv_at hl 4 rfl) ?_
                refine lv_iconst (v := 1) hx hb dX7_readCond_141 (by decide) ?_
                refine va_calli (va_runV (As := [.int 1]) (rest := []) ⟨hx, hb, hml, hown, hts⟩ (y_X8_refuse l dC dI ad E hEE A C nb _ hN st158 sl159 so160 1 B g m p7 (by omega) hG.1 hO.1 (CBt.fr hB hF) hT) (cwV 1 hts gX7_readCond_X8_refuse rfl rfl rfl (by decide +kernel) ⟨Nat.le_of_ble_eq_true rfl, Nat.le_of_ble_eq_true rfl⟩) ⟨fun a U g mk q => ⟨q.1, xPre.blind hEE q.2⟩, va_recv hK hP (ci := 9) (q0 := 1) rfl (xw_is (r := 1) (by omega) (xc_fix (r := 1) (by omega))), fun U hU hW => ⟨rfl, xPre.of hEE hP hK hE hS hU hW⟩⟩ rfl rfl hl.1 rfl (lv_room (Nat.le_of_ble_eq_true rfl)) dX7_readCond_142 ⟨Nat.le_of_ble_eq_true rfl, Nat.le_of_ble_eq_true rfl⟩) hS (fun q _ h => XA.le hS.1 q h) (XA.le hS.1) (fun r189 x t H locs ht hvm hw hB9 _ _ hS => ?_)
                have hP := xB.at ht hB9
                clear hB9 ht hvm
                obtain ⟨st190, sl191, so192⟩ := x
                obtain ⟨hGst190, hOst190, hFst190, hw⟩ := hw
                dsimp only at hGst190 hOst190 hFst190 hw
                have hO : OG ad [2, 4] so so192 := hO.tr hOst190 (by decide)
                have hP : va_P (dC, dI) vwCl (xw A C nb st190 sl191 so192) _ := hP
                have hG : XG [1, 2, 3, 4, 5, 6, 7, 12, 13, 14, 15] st st190 := hG.tr hGst190 (by decide)
                have hF : FX 5 st sl so st190 sl191 so192 := hF.tr hFst190 (by omega) (by omega)
                have hR : CN c nm st190 sl191 0 := hR.fr0 hFst190
                obtain ⟨rfl, hf193, hf194, hT⟩ := hw
                have hp9 := hT.2.2.2.2.2.2
                have hk1 := tkd_lt (B := B) (g := g) (m := m) (p := p7)
                have hk2 := tkx_le (B := B) (g := g) (m := m) (p := p7) hp9
                have hk3 := tka_le (B := B) (g := g) (m := m) (p := p7) hp9 hB.2.2.1
                have hk4 := tkv_ltc (p := p7) hB hp9
                have hk5 := tkw_lt (B := B) (g := g) (m := m) (p := p7)
                exact W.zret (v := 0) hx hb hr rfl (fun t ht hW => ⟨⟨0, (st190, sl191, so192), rfl, ⟨hG, hO, hF, Or.inr (⟨1, (tka B g m p7), rfl, by show st190 1 13 = _; rw [hf193], by show st190 1 14 = _; rw [hf194], by omega, Or.inr ⟨_, _, hco.trans (sL_n (by omega)), by omega, rfl, rfl⟩⟩)⟩, xB.of ht hP⟩, hS.F ht⟩) hS.2.2 dX7_readCond_145
            · have c29 : ¬ k156 = 0 := fun hh => c29 ((nI_eq (a := k156) (b := 0) (by omega) (by omega)).mpr hh)
              refine lv_aload_n hx hb dX7_readCond_113 rfl (lv_at hl 3 rfl) ?_
              refine va_gets (v := .ref (ad 13)) hx hb (EV.word hEv (i := 13) (by decide)) hS hown (hts _ mm_X7_readCond_2) (fun _ hh => hh) dX7_readCond_114 ?_
              refine lv_iconst (v := 0) hx hb dX7_readCond_117 (by decide) ?_
              refine lv_iconst (v := 0) hx hb dX7_readCond_118 (by decide) ?_
              refine va_callv (va_runV (As := [.ref (ad 13), .int 0, .int 0]) (rest := []) ⟨hx, hb, hml, hown, hts⟩ (y_addT l dC dI ad E hEE A C nb _ hN st158 sl159 so160 13 0 0 B g m p7 (by omega) hG.1 hO.1 (CBt.fr hB hF) hT) (cwV 3 hts gX7_readCond_X7_add rfl rfl rfl (by decide +kernel) ⟨Nat.le_of_ble_eq_true rfl, Nat.le_of_ble_eq_true rfl⟩) ⟨fun a U g mk q => ⟨q.1, xPre.blind hEE q.2⟩, va_recv hK hP (ci := 8) (q0 := (20 + 4 * 1)) rfl (xw_is (r := (20 + 4 * 1)) (by omega) (xc_sn (q := 1) (o := 0) (by omega) (by omega))), fun U hU hW => ⟨rfl, xPre.of hEE hP hK hE hS hU hW⟩⟩ rfl rfl hl.1 rfl (lv_room (Nat.le_of_ble_eq_true rfl)) dX7_readCond_119 ⟨Nat.le_of_ble_eq_true rfl, Nat.le_of_ble_eq_true rfl⟩) hS (fun q _ h => XA.le hS.1 q h) (XA.le hS.1) (fun x t H locs ht hvm hw hB9 _ _ hS => ?_)
              have hP := xB.at ht hB9
              clear hB9 ht hvm
              obtain ⟨st196, sl197, so198⟩ := x
              obtain ⟨hGst196, hOst196, hFst196, hw⟩ := hw
              dsimp only at hGst196 hOst196 hFst196 hw
              have hO : OG ad [2, 4] so so198 := hO.tr hOst196 (by decide)
              have hP : va_P (dC, dI) vwCl (xw A C nb st196 sl197 so198) _ := hP
              have hG : XG [1, 2, 3, 4, 5, 6, 7, 12, 13, 14, 15] st st196 := hG.tr hGst196 (by decide)
              have hF : FX 5 st sl so st196 sl197 so198 := hF.tr hFst196 (by omega) (by omega)
              have hR : CN c nm st196 sl197 0 := hR.fr0 hFst196
              obtain ⟨hf199, hf200, hf201, hT⟩ := hw
              have hp9 := hT.2.2.2.2.2.2
              have hk1 := tkd_lt (B := B) (g := g) (m := m) (p := p7)
              have hk2 := tkx_le (B := B) (g := g) (m := m) (p := p7) hp9
              have hk3 := tka_le (B := B) (g := g) (m := m) (p := p7) hp9 hB.2.2.1
              have hk4 := tkv_ltc (p := p7) hB hp9
              have hk5 := tkw_lt (B := B) (g := g) (m := m) (p := p7)
              refine lv_iload hx hb dX7_readCond_122 (lv_at hl 2 rfl) ?_
              refine lv_if_eq (tgt := 146) hx hb dX7_readCond_124 (by decide) (fun cc => absurd cc (by decide)) (fun _ => ?_)
              refine lv_iload_n hx hb dX7_readCond_127 rfl (lv_at hl 6 rfl) ?_
              refine lv_iconst (v := 1) hx hb dX7_readCond_128 (by decide) ?_
              refine lv_icmp_ne (tgt := 146) hx hb dX7_readCond_129 (by decide) (fun cc => absurd (by decide) cc) (fun _ => ?_)
              refine lv_aload_n hx hb dX7_readCond_132 rfl (lv_at hl 4 rfl) ?_
              refine va_getN (host := "OffTheLead") (D := (dC, dI)) (ci := 9) (v := .int (st196 1 4)) (C := RX8) (T := TX8) (N := 15) hx hb hts ii_X7_readCond_X8 hown hK hP 1 (xw_is (r := 1) (by omega) (xc_fix (r := 1) (by omega))) rfl 4 (by decide) (va_Nw.use rfl (nf_X7_54 hEv)) (fun _ hh => hh) rfl dX7_readCond_133 ?_
              refine zz_top (v := (nI ((tkd B g m p7 + 3) % 5))) (by show st196 1 4 = _; rw [hT.2.2.1]) ?_
              refine lv_iconst (v := 3) hx hb dX7_readCond_136 (by decide) ?_
              refine lv_icmp_eq (tgt := 146) hx hb dX7_readCond_137 (by decide) (fun c35 => ?_) (fun c35 => ?_)
              · have c35 : ((tkd B g m p7 + 3) % 5) = 3 := (nI_eq (a := ((tkd B g m p7 + 3) % 5)) (b := 3) (by omega) (by omega)).mp c35
                refine lv_iload hx hb dX7_readCond_146 (lv_at hl 2 rfl) ?_
                exact W.zret (v := 1) hx hb hr rfl (fun t ht hW => ⟨⟨1, (st196, sl197, so198), rfl, ⟨hG, hO, hF, Or.inl (⟨p7, o7, rfl, hT, by show st196 1 13 = st 1 13; rw [hf199]; exact h13, by show st196 (20 + 4 * 1) 4 = _; rw [hf201, ho7], by omega, by omega, hco.trans (sL_n (by omega)), by omega⟩)⟩, xB.of ht hP⟩, hS.F ht⟩) hS.2.2 dX7_readCond_148
              · have c35 : ¬ ((tkd B g m p7 + 3) % 5) = 3 := fun hh => c35 ((nI_eq (a := ((tkd B g m p7 + 3) % 5)) (b := 3) (by omega) (by omega)).mpr hh)
                refine lv_aload_n hx hb dX7_readCond_140 rfl (lv_at hl 4 rfl) ?_
                refine lv_iconst (v := 1) hx hb dX7_readCond_141 (by decide) ?_
                refine va_calli (va_runV (As := [.int 1]) (rest := []) ⟨hx, hb, hml, hown, hts⟩ (y_X8_refuse l dC dI ad E hEE A C nb _ hN st196 sl197 so198 1 B g m p7 (by omega) hG.1 hO.1 (CBt.fr hB hF) hT) (cwV 1 hts gX7_readCond_X8_refuse rfl rfl rfl (by decide +kernel) ⟨Nat.le_of_ble_eq_true rfl, Nat.le_of_ble_eq_true rfl⟩) ⟨fun a U g mk q => ⟨q.1, xPre.blind hEE q.2⟩, va_recv hK hP (ci := 9) (q0 := 1) rfl (xw_is (r := 1) (by omega) (xc_fix (r := 1) (by omega))), fun U hU hW => ⟨rfl, xPre.of hEE hP hK hE hS hU hW⟩⟩ rfl rfl hl.1 rfl (lv_room (Nat.le_of_ble_eq_true rfl)) dX7_readCond_142 ⟨Nat.le_of_ble_eq_true rfl, Nat.le_of_ble_eq_true rfl⟩) hS (fun q _ h => XA.le hS.1 q h) (XA.le hS.1) (fun r202 x t H locs ht hvm hw hB9 _ _ hS => ?_)
                have hP := xB.at ht hB9
                clear hB9 ht hvm
                obtain ⟨st203, sl204, so205⟩ := x
                obtain ⟨hGst203, hOst203, hFst203, hw⟩ := hw
                dsimp only at hGst203 hOst203 hFst203 hw
                have hO : OG ad [2, 4] so so205 := hO.tr hOst203 (by decide)
                have hP : va_P (dC, dI) vwCl (xw A C nb st203 sl204 so205) _ := hP
                have hG : XG [1, 2, 3, 4, 5, 6, 7, 12, 13, 14, 15] st st203 := hG.tr hGst203 (by decide)
                have hF : FX 5 st sl so st203 sl204 so205 := hF.tr hFst203 (by omega) (by omega)
                have hR : CN c nm st203 sl204 0 := hR.fr0 hFst203
                obtain ⟨rfl, hf206, hf207, hT⟩ := hw
                have hp9 := hT.2.2.2.2.2.2
                have hk1 := tkd_lt (B := B) (g := g) (m := m) (p := p7)
                have hk2 := tkx_le (B := B) (g := g) (m := m) (p := p7) hp9
                have hk3 := tka_le (B := B) (g := g) (m := m) (p := p7) hp9 hB.2.2.1
                have hk4 := tkv_ltc (p := p7) hB hp9
                have hk5 := tkw_lt (B := B) (g := g) (m := m) (p := p7)
                exact W.zret (v := 0) hx hb hr rfl (fun t ht hW => ⟨⟨0, (st203, sl204, so205), rfl, ⟨hG, hO, hF, Or.inr (⟨1, (tka B g m p7), rfl, by show st203 1 13 = _; rw [hf206], by show st203 1 14 = _; rw [hf207], by omega, Or.inr ⟨_, _, hco.trans (sL_n (by omega)), by omega, rfl, rfl⟩⟩)⟩, xB.of ht hP⟩, hS.F ht⟩) hS.2.2 dX7_readCond_145
          · have c28 : (tkw B g m p7) = 13 := (EV.eqw hEv (i := (tkw B g m p7)) (j := 13) (by omega) (by omega)).mp c28
            refine lv_iload hx hb dX7_readCond_72 (lv_at hl 1 rfl) ?_
            refine lv_if_eq (tgt := 86) hx hb dX7_readCond_74 (by decide) (fun c36 => ?_) (fun c36 => ?_)
            · have c36 : k156 = 0 := (nI_eq (a := k156) (b := 0) (by omega) (by omega)).mp c36
              refine lv_iconst (v := 1) hx hb dX7_readCond_86 (by decide) ?_
              refine lv_istore (lv' := [(5, .int 1), (6, .int (nI k155)), (4, .int 1), (0, .ref (A (20 + 4 * 1))), (1, .ref (A 1)), (2, .ref (A (36 + 20 * 0))), (3, .int 1)]) hx hb dX7_readCond_87 hl (by decide) rfl (fun ls hl => ?_)
              refine lv_aload_n hx hb dX7_readCond_89 rfl (lv_at hl 4 rfl) ?_
              refine va_callv (va_runV (As := []) (rest := []) ⟨hx, hb, hml, hown, hts⟩ (y_X8_step l dC dI ad E hEE A C nb _ hN st158 sl159 so160 B g m (tkx B g m p7) hG.1 hO.1 (CBt.fr hB hF) hT.1 hk2.2) (cwV 0 hts gX7_readCond_X8_step rfl rfl rfl (by decide +kernel) ⟨Nat.le_of_ble_eq_true rfl, Nat.le_of_ble_eq_true rfl⟩) ⟨fun a U g mk q => ⟨q.1, xPre.blind hEE q.2⟩, va_recv hK hP (ci := 9) (q0 := 1) rfl (xw_is (r := 1) (by omega) (xc_fix (r := 1) (by omega))), fun U hU hW => ⟨rfl, xPre.of hEE hP hK hE hS hU hW⟩⟩ rfl rfl hl.1 rfl (lv_room (Nat.le_of_ble_eq_true rfl)) dX7_readCond_90 ⟨Nat.le_of_ble_eq_true rfl, Nat.le_of_ble_eq_true rfl⟩) hS (fun q _ h => XA.le hS.1 q h) (XA.le hS.1) (fun x t H locs ht hvm hw hB9 _ _ hS => ?_)
              have hP := xB.at ht hB9
              clear hB9 ht hvm
              obtain ⟨st209, sl210, so211⟩ := x
              obtain ⟨hGst209, hOst209, hFst209, hw⟩ := hw
              dsimp only at hGst209 hOst209 hFst209 hw
              have hO : OG ad [2, 4] so so211 := hO.tr hOst209 (by decide)
              have hP : va_P (dC, dI) vwCl (xw A C nb st209 sl210 so211) _ := hP
              have hG : XG [1, 2, 3, 4, 5, 6, 7, 12, 13, 14, 15] st st209 := hG.tr hGst209 (by decide)
              have hF : FX 5 st sl so st209 sl210 so211 := hF.tr hFst209 (by omega) (by omega)
              have hR : CN c nm st209 sl210 0 := hR.fr0 hFst209
              have hT := hw
              have hp9 := hT.2.2.2.2.2.2
              have hk1 := tkd_lt (B := B) (g := g) (m := m) (p := (tkx B g m p7))
              have hk2 := tkx_le (B := B) (g := g) (m := m) (p := (tkx B g m p7)) hp9
              have hk3 := tka_le (B := B) (g := g) (m := m) (p := (tkx B g m p7)) hp9 hB.2.2.1
              have hk4 := tkv_ltc (p := (tkx B g m p7)) hB hp9
              have hk5 := tkw_lt (B := B) (g := g) (m := m) (p := (tkx B g m p7))
              refine lv_aload_n hx hb dX7_readCond_93 rfl (lv_at hl 3 rfl) ?_
              refine lv_aload_n hx hb dX7_readCond_94 rfl (lv_at hl 4 rfl) ?_
              refine lv_aload_n hx hb dX7_readCond_95 rfl (lv_at hl 5 rfl) ?_
              refine lv_iload_n hx hb dX7_readCond_96 rfl (lv_at hl 6 rfl) ?_
              refine va_calli (va_runV (As := [.ref (A 1), .ref (A (36 + 20 * 0)), .int 1]) (rest := []) ⟨hx, hb, hml, hown, hts⟩ (y_readOne_1 l dC dI ad E hEE A C nb _ hN st209 sl210 so211 B g m (tkx B g m p7) c nm o7 hG.1 hO.1 (CBt.fr hB hF) hT hR (by rw [(hFst209 (20 + 4 * 1) 4 (by decide)).1, ho7]) (by omega)) (cwV 3 hts gX7_readCond_X7_readOne rfl rfl rfl (by decide +kernel) ⟨Nat.le_of_ble_eq_true rfl, Nat.le_of_ble_eq_true rfl⟩) ⟨fun a U g mk q => ⟨q.1, xPre.blind hEE q.2⟩, va_recv hK hP (ci := 8) (q0 := (20 + 4 * 1)) rfl (xw_is (r := (20 + 4 * 1)) (by omega) (xc_sn (q := 1) (o := 0) (by omega) (by omega))), fun U hU hW => ⟨rfl, xPre.of hEE hP hK hE hS hU hW⟩⟩ rfl rfl hl.1 rfl (lv_room (Nat.le_of_ble_eq_true rfl)) dX7_readCond_97 ⟨Nat.le_of_ble_eq_true rfl, Nat.le_of_ble_eq_true rfl⟩) hS (fun q _ h => XA.le hS.1 q h) (XA.le hS.1) (fun r212 x t H locs ht hvm hw hB9 _ _ hS => ?_)
              have hP := xB.at ht hB9
              clear hB9 ht hvm
              obtain ⟨st213, sl214, so215⟩ := x
              obtain ⟨hGst213, hOst213, hFst213, hw⟩ := hw
              dsimp only at hGst213 hOst213 hFst213 hw
              have hO : OG ad [2, 4] so so215 := hO.tr hOst213 (by decide)
              have hP : va_P (dC, dI) vwCl (xw A C nb st213 sl214 so215) _ := hP
              have hG : XG [1, 2, 3, 4, 5, 6, 7, 12, 13, 14, 15] st st213 := hG.tr hGst213 (by decide)
              have hF : FX 5 st sl so st213 sl214 so215 := hF.tr hFst213 (by omega) (by omega)
              have hR : CN c nm st213 sl214 0 := hR.fr0 hFst213
              rcases hw with ⟨n216, n217, rfl, hT, hf218, hf219, hf220, hf221, hf222⟩ | ⟨n223, n224, rfl, hf225, hf226, hf227, hf228⟩
              · have hp9 := hT.2.2.2.2.2.2
                have hk1 := tkd_lt (B := B) (g := g) (m := m) (p := n216)
                have hk2 := tkx_le (B := B) (g := g) (m := m) (p := n216) hp9
                have hk3 := tka_le (B := B) (g := g) (m := m) (p := n216) hp9 hB.2.2.1
                have hk4 := tkv_ltc (p := n216) hB hp9
                have hk5 := tkw_lt (B := B) (g := g) (m := m) (p := n216)
                refine lv_istore (lv' := [(4, .int 1), (5, .int 1), (6, .int (nI k155)), (0, .ref (A (20 + 4 * 1))), (1, .ref (A 1)), (2, .ref (A (36 + 20 * 0))), (3, .int 1)]) hx hb dX7_readCond_100 hl (by decide) rfl (fun ls hl => ?_)
                refine lv_iinc (v := (nI (k155 + 1))) (lv' := [(6, .int (nI (k155 + 1))), (4, .int 1), (5, .int 1), (0, .ref (A (20 + 4 * 1))), (1, .ref (A 1)), (2, .ref (A (36 + 20 * 0))), (3, .int 1)]) hx hb dX7_readCond_102 hl (k := 2) rfl (nI_add k155 1) (by decide) rfl (fun ls hl => ?_)
                refine lv_goto (tgt := 15) hx hb dX7_readCond_105 (by decide) ?_
                exact ih171 (21 - (k155 + 1)) _ _ _ _ (by omega) ⟨(k155 + 1), 1, 1, st213, sl214, so215, rfl, by omega, by omega, by omega, by omega, by omega, by omega, fun _ => ⟨n216, n217, hT, by show st213 1 13 = st 1 13; rw [hf218, (hFst209 1 13 (by decide)).1]; exact h13, by show st213 (20 + 4 * 1) 4 = _; rw [hf219], by omega, by omega, hco.trans (sL_y (sOne_pr _) (by omega) (by omega) hf222)⟩, fun h9 => absurd h9 (by decide), hR, hF, hP, hG, hO, hS, lv_sub hl [0, 2, 1, 3, 4, 5, 6] rfl, rfl⟩
              · refine lv_istore (lv' := [(4, .int 0), (5, .int 1), (6, .int (nI k155)), (0, .ref (A (20 + 4 * 1))), (1, .ref (A 1)), (2, .ref (A (36 + 20 * 0))), (3, .int 1)]) hx hb dX7_readCond_100 hl (by decide) rfl (fun ls hl => ?_)
                refine lv_iinc (v := (nI (k155 + 1))) (lv' := [(6, .int (nI (k155 + 1))), (4, .int 0), (5, .int 1), (0, .ref (A (20 + 4 * 1))), (1, .ref (A 1)), (2, .ref (A (36 + 20 * 0))), (3, .int 1)]) hx hb dX7_readCond_102 hl (k := 2) rfl (nI_add k155 1) (by decide) rfl (fun ls hl => ?_)
                refine lv_goto (tgt := 15) hx hb dX7_readCond_105 (by decide) ?_
                exact ih171 (21 - (k155 + 1)) _ _ _ _ (by omega) ⟨(k155 + 1), 1, 0, st213, sl214, so215, rfl, by omega, by omega, by omega, by omega, by omega, by omega, fun h9 => absurd h9 (by decide), fun _ => ⟨n223, n224, by show st213 1 13 = _; rw [hf225], by show st213 1 14 = _; rw [hf226], hf227, hco.trans (sL_f (by omega) hf228 (by omega))⟩, hR, hF, hP, hG, hO, hS, lv_sub hl [0, 2, 1, 3, 4, 5, 6] rfl, rfl⟩
            · have c36 : ¬ k156 = 0 := fun hh => c36 ((nI_eq (a := k156) (b := 0) (by omega) (by omega)).mpr hh)
              refine lv_aload_n hx hb dX7_readCond_77 rfl (lv_at hl 3 rfl) ?_
              refine va_gets (v := .ref (ad 13)) hx hb (EV.word hEv (i := 13) (by decide)) hS hown (hts _ mm_X7_readCond_2) (fun _ hh => hh) dX7_readCond_78 ?_
              refine lv_iconst (v := 0) hx hb dX7_readCond_81 (by decide) ?_
              refine lv_iconst (v := 0) hx hb dX7_readCond_82 (by decide) ?_
              refine va_callv (va_runV (As := [.ref (ad 13), .int 0, .int 0]) (rest := []) ⟨hx, hb, hml, hown, hts⟩ (y_addT l dC dI ad E hEE A C nb _ hN st158 sl159 so160 13 0 0 B g m p7 (by omega) hG.1 hO.1 (CBt.fr hB hF) hT) (cwV 3 hts gX7_readCond_X7_add rfl rfl rfl (by decide +kernel) ⟨Nat.le_of_ble_eq_true rfl, Nat.le_of_ble_eq_true rfl⟩) ⟨fun a U g mk q => ⟨q.1, xPre.blind hEE q.2⟩, va_recv hK hP (ci := 8) (q0 := (20 + 4 * 1)) rfl (xw_is (r := (20 + 4 * 1)) (by omega) (xc_sn (q := 1) (o := 0) (by omega) (by omega))), fun U hU hW => ⟨rfl, xPre.of hEE hP hK hE hS hU hW⟩⟩ rfl rfl hl.1 rfl (lv_room (Nat.le_of_ble_eq_true rfl)) dX7_readCond_83 ⟨Nat.le_of_ble_eq_true rfl, Nat.le_of_ble_eq_true rfl⟩) hS (fun q _ h => XA.le hS.1 q h) (XA.le hS.1) (fun x t H locs ht hvm hw hB9 _ _ hS => ?_)
              have hP := xB.at ht hB9
              clear hB9 ht hvm
              obtain ⟨st230, sl231, so232⟩ := x
              obtain ⟨hGst230, hOst230, hFst230, hw⟩ := hw
              dsimp only at hGst230 hOst230 hFst230 hw
              have hO : OG ad [2, 4] so so232 := hO.tr hOst230 (by decide)
              have hP : va_P (dC, dI) vwCl (xw A C nb st230 sl231 so232) _ := hP
              have hG : XG [1, 2, 3, 4, 5, 6, 7, 12, 13, 14, 15] st st230 := hG.tr hGst230 (by decide)
              have hF : FX 5 st sl so st230 sl231 so232 := hF.tr hFst230 (by omega) (by omega)
              have hR : CN c nm st230 sl231 0 := hR.fr0 hFst230
              obtain ⟨hf233, hf234, hf235, hT⟩ := hw
              have hp9 := hT.2.2.2.2.2.2
              have hk1 := tkd_lt (B := B) (g := g) (m := m) (p := p7)
              have hk2 := tkx_le (B := B) (g := g) (m := m) (p := p7) hp9
              have hk3 := tka_le (B := B) (g := g) (m := m) (p := p7) hp9 hB.2.2.1
              have hk4 := tkv_ltc (p := p7) hB hp9
              have hk5 := tkw_lt (B := B) (g := g) (m := m) (p := p7)
              refine lv_iconst (v := 1) hx hb dX7_readCond_86 (by decide) ?_
              refine lv_istore (lv' := [(5, .int 1), (6, .int (nI k155)), (4, .int 1), (0, .ref (A (20 + 4 * 1))), (1, .ref (A 1)), (2, .ref (A (36 + 20 * 0))), (3, .int 1)]) hx hb dX7_readCond_87 hl (by decide) rfl (fun ls hl => ?_)
              refine lv_aload_n hx hb dX7_readCond_89 rfl (lv_at hl 4 rfl) ?_
              refine va_callv (va_runV (As := []) (rest := []) ⟨hx, hb, hml, hown, hts⟩ (y_X8_step l dC dI ad E hEE A C nb _ hN st230 sl231 so232 B g m (tkx B g m p7) hG.1 hO.1 (CBt.fr hB hF) hT.1 hk2.2) (cwV 0 hts gX7_readCond_X8_step rfl rfl rfl (by decide +kernel) ⟨Nat.le_of_ble_eq_true rfl, Nat.le_of_ble_eq_true rfl⟩) ⟨fun a U g mk q => ⟨q.1, xPre.blind hEE q.2⟩, va_recv hK hP (ci := 9) (q0 := 1) rfl (xw_is (r := 1) (by omega) (xc_fix (r := 1) (by omega))), fun U hU hW => ⟨rfl, xPre.of hEE hP hK hE hS hU hW⟩⟩ rfl rfl hl.1 rfl (lv_room (Nat.le_of_ble_eq_true rfl)) dX7_readCond_90 ⟨Nat.le_of_ble_eq_true rfl, Nat.le_of_ble_eq_true rfl⟩) hS (fun q _ h => XA.le hS.1 q h) (XA.le hS.1) (fun x t H locs ht hvm hw hB9 _ _ hS => ?_)
              have hP := xB.at ht hB9
              clear hB9 ht hvm
              obtain ⟨st237, sl238, so239⟩ := x
              obtain ⟨hGst237, hOst237, hFst237, hw⟩ := hw
              dsimp only at hGst237 hOst237 hFst237 hw
              have hO : OG ad [2, 4] so so239 := hO.tr hOst237 (by decide)
              have hP : va_P (dC, dI) vwCl (xw A C nb st237 sl238 so239) _ := hP
              have hG : XG [1, 2, 3, 4, 5, 6, 7, 12, 13, 14, 15] st st237 := hG.tr hGst237 (by decide)
              have hF : FX 5 st sl so st237 sl238 so239 := hF.tr hFst237 (by omega) (by omega)
              have hR : CN c nm st237 sl238 0 := hR.fr0 hFst237
              have hT := hw
              have hp9 := hT.2.2.2.2.2.2
              have hk1 := tkd_lt (B := B) (g := g) (m := m) (p := (tkx B g m p7))
              have hk2 := tkx_le (B := B) (g := g) (m := m) (p := (tkx B g m p7)) hp9
              have hk3 := tka_le (B := B) (g := g) (m := m) (p := (tkx B g m p7)) hp9 hB.2.2.1
              have hk4 := tkv_ltc (p := (tkx B g m p7)) hB hp9
              have hk5 := tkw_lt (B := B) (g := g) (m := m) (p := (tkx B g m p7))
              refine lv_aload_n hx hb dX7_readCond_93 rfl (lv_at hl 3 rfl) ?_
              refine lv_aload_n hx hb dX7_readCond_94 rfl (lv_at hl 4 rfl) ?_
              refine lv_aload_n hx hb dX7_readCond_95 rfl (lv_at hl 5 rfl) ?_
              refine lv_iload_n hx hb dX7_readCond_96 rfl (lv_at hl 6 rfl) ?_
              refine va_calli (va_runV (As := [.ref (A 1), .ref (A (36 + 20 * 0)), .int 1]) (rest := []) ⟨hx, hb, hml, hown, hts⟩ (y_readOne_1 l dC dI ad E hEE A C nb _ hN st237 sl238 so239 B g m (tkx B g m p7) c nm o7 hG.1 hO.1 (CBt.fr hB hF) hT hR (by rw [(hFst237 (20 + 4 * 1) 4 (by decide)).1, hf235, ho7]) (by omega)) (cwV 3 hts gX7_readCond_X7_readOne rfl rfl rfl (by decide +kernel) ⟨Nat.le_of_ble_eq_true rfl, Nat.le_of_ble_eq_true rfl⟩) ⟨fun a U g mk q => ⟨q.1, xPre.blind hEE q.2⟩, va_recv hK hP (ci := 8) (q0 := (20 + 4 * 1)) rfl (xw_is (r := (20 + 4 * 1)) (by omega) (xc_sn (q := 1) (o := 0) (by omega) (by omega))), fun U hU hW => ⟨rfl, xPre.of hEE hP hK hE hS hU hW⟩⟩ rfl rfl hl.1 rfl (lv_room (Nat.le_of_ble_eq_true rfl)) dX7_readCond_97 ⟨Nat.le_of_ble_eq_true rfl, Nat.le_of_ble_eq_true rfl⟩) hS (fun q _ h => XA.le hS.1 q h) (XA.le hS.1) (fun r240 x t H locs ht hvm hw hB9 _ _ hS => ?_)
              have hP := xB.at ht hB9
              clear hB9 ht hvm
              obtain ⟨st241, sl242, so243⟩ := x
              obtain ⟨hGst241, hOst241, hFst241, hw⟩ := hw
              dsimp only at hGst241 hOst241 hFst241 hw
              have hO : OG ad [2, 4] so so243 := hO.tr hOst241 (by decide)
              have hP : va_P (dC, dI) vwCl (xw A C nb st241 sl242 so243) _ := hP
              have hG : XG [1, 2, 3, 4, 5, 6, 7, 12, 13, 14, 15] st st241 := hG.tr hGst241 (by decide)
              have hF : FX 5 st sl so st241 sl242 so243 := hF.tr hFst241 (by omega) (by omega)
              have hR : CN c nm st241 sl242 0 := hR.fr0 hFst241
              rcases hw with ⟨n244, n245, rfl, hT, hf246, hf247, hf248, hf249, hf250⟩ | ⟨n251, n252, rfl, hf253, hf254, hf255, hf256⟩
              · have hp9 := hT.2.2.2.2.2.2
                have hk1 := tkd_lt (B := B) (g := g) (m := m) (p := n244)
                have hk2 := tkx_le (B := B) (g := g) (m := m) (p := n244) hp9
                have hk3 := tka_le (B := B) (g := g) (m := m) (p := n244) hp9 hB.2.2.1
                have hk4 := tkv_ltc (p := n244) hB hp9
                have hk5 := tkw_lt (B := B) (g := g) (m := m) (p := n244)
                refine lv_istore (lv' := [(4, .int 1), (5, .int 1), (6, .int (nI k155)), (0, .ref (A (20 + 4 * 1))), (1, .ref (A 1)), (2, .ref (A (36 + 20 * 0))), (3, .int 1)]) hx hb dX7_readCond_100 hl (by decide) rfl (fun ls hl => ?_)
                refine lv_iinc (v := (nI (k155 + 1))) (lv' := [(6, .int (nI (k155 + 1))), (4, .int 1), (5, .int 1), (0, .ref (A (20 + 4 * 1))), (1, .ref (A 1)), (2, .ref (A (36 + 20 * 0))), (3, .int 1)]) hx hb dX7_readCond_102 hl (k := 2) rfl (nI_add k155 1) (by decide) rfl (fun ls hl => ?_)
                refine lv_goto (tgt := 15) hx hb dX7_readCond_105 (by decide) ?_
                exact ih171 (21 - (k155 + 1)) _ _ _ _ (by omega) ⟨(k155 + 1), 1, 1, st241, sl242, so243, rfl, by omega, by omega, by omega, by omega, by omega, by omega, fun _ => ⟨n244, n245, hT, by show st241 1 13 = st 1 13; rw [hf246, (hFst237 1 13 (by decide)).1, hf233]; exact h13, by show st241 (20 + 4 * 1) 4 = _; rw [hf247], by omega, by omega, hco.trans (sL_y (sOne_pr _) (by omega) (by omega) hf250)⟩, fun h9 => absurd h9 (by decide), hR, hF, hP, hG, hO, hS, lv_sub hl [0, 2, 1, 3, 4, 5, 6] rfl, rfl⟩
              · refine lv_istore (lv' := [(4, .int 0), (5, .int 1), (6, .int (nI k155)), (0, .ref (A (20 + 4 * 1))), (1, .ref (A 1)), (2, .ref (A (36 + 20 * 0))), (3, .int 1)]) hx hb dX7_readCond_100 hl (by decide) rfl (fun ls hl => ?_)
                refine lv_iinc (v := (nI (k155 + 1))) (lv' := [(6, .int (nI (k155 + 1))), (4, .int 0), (5, .int 1), (0, .ref (A (20 + 4 * 1))), (1, .ref (A 1)), (2, .ref (A (36 + 20 * 0))), (3, .int 1)]) hx hb dX7_readCond_102 hl (k := 2) rfl (nI_add k155 1) (by decide) rfl (fun ls hl => ?_)
                refine lv_goto (tgt := 15) hx hb dX7_readCond_105 (by decide) ?_
                exact ih171 (21 - (k155 + 1)) _ _ _ _ (by omega) ⟨(k155 + 1), 1, 0, st241, sl242, so243, rfl, by omega, by omega, by omega, by omega, by omega, by omega, fun h9 => absurd h9 (by decide), fun _ => ⟨n251, n252, by show st241 1 13 = _; rw [hf253], by show st241 1 14 = _; rw [hf254], hf255, hco.trans (sL_f (by omega) hf256 (by omega))⟩, hR, hF, hP, hG, hO, hS, lv_sub hl [0, 2, 1, 3, 4, 5, 6] rfl, rfl⟩
        · have c27 : (tkw B g m p7) = 14 := (EV.eqw hEv (i := (tkw B g m p7)) (j := 14) (by omega) (by omega)).mp c27
          refine lv_aload_n hx hb dX7_readCond_37 rfl (lv_at hl 4 rfl) ?_
          refine va_callv (va_runV (As := []) (rest := []) ⟨hx, hb, hml, hown, hts⟩ (y_X8_step l dC dI ad E hEE A C nb _ hN st158 sl159 so160 B g m (tkx B g m p7) hG.1 hO.1 (CBt.fr hB hF) hT.1 hk2.2) (cwV 0 hts gX7_readCond_X8_step rfl rfl rfl (by decide +kernel) ⟨Nat.le_of_ble_eq_true rfl, Nat.le_of_ble_eq_true rfl⟩) ⟨fun a U g mk q => ⟨q.1, xPre.blind hEE q.2⟩, va_recv hK hP (ci := 9) (q0 := 1) rfl (xw_is (r := 1) (by omega) (xc_fix (r := 1) (by omega))), fun U hU hW => ⟨rfl, xPre.of hEE hP hK hE hS hU hW⟩⟩ rfl rfl hl.1 rfl (lv_room (Nat.le_of_ble_eq_true rfl)) dX7_readCond_38 ⟨Nat.le_of_ble_eq_true rfl, Nat.le_of_ble_eq_true rfl⟩) hS (fun q _ h => XA.le hS.1 q h) (XA.le hS.1) (fun x t H locs ht hvm hw hB9 _ _ hS => ?_)
          have hP := xB.at ht hB9
          clear hB9 ht hvm
          obtain ⟨st258, sl259, so260⟩ := x
          obtain ⟨hGst258, hOst258, hFst258, hw⟩ := hw
          dsimp only at hGst258 hOst258 hFst258 hw
          have hO : OG ad [2, 4] so so260 := hO.tr hOst258 (by decide)
          have hP : va_P (dC, dI) vwCl (xw A C nb st258 sl259 so260) _ := hP
          have hG : XG [1, 2, 3, 4, 5, 6, 7, 12, 13, 14, 15] st st258 := hG.tr hGst258 (by decide)
          have hF : FX 5 st sl so st258 sl259 so260 := hF.tr hFst258 (by omega) (by omega)
          have hR : CN c nm st258 sl259 0 := hR.fr0 hFst258
          have hT := hw
          have hp9 := hT.2.2.2.2.2.2
          have hk1 := tkd_lt (B := B) (g := g) (m := m) (p := (tkx B g m p7))
          have hk2 := tkx_le (B := B) (g := g) (m := m) (p := (tkx B g m p7)) hp9
          have hk3 := tka_le (B := B) (g := g) (m := m) (p := (tkx B g m p7)) hp9 hB.2.2.1
          have hk4 := tkv_ltc (p := (tkx B g m p7)) hB hp9
          have hk5 := tkw_lt (B := B) (g := g) (m := m) (p := (tkx B g m p7))
          refine lv_aload_n hx hb dX7_readCond_41 rfl (lv_at hl 3 rfl) ?_
          refine lv_aload_n hx hb dX7_readCond_42 rfl (lv_at hl 4 rfl) ?_
          refine lv_aload_n hx hb dX7_readCond_43 rfl (lv_at hl 5 rfl) ?_
          refine lv_iload_n hx hb dX7_readCond_44 rfl (lv_at hl 6 rfl) ?_
          refine va_calli (va_runV (As := [.ref (A 1), .ref (A (36 + 20 * 0)), .int 1]) (rest := []) ⟨hx, hb, hml, hown, hts⟩ (y_readOne_1 l dC dI ad E hEE A C nb _ hN st258 sl259 so260 B g m (tkx B g m p7) c nm o7 hG.1 hO.1 (CBt.fr hB hF) hT hR (by rw [(hFst258 (20 + 4 * 1) 4 (by decide)).1, ho7]) (by omega)) (cwV 3 hts gX7_readCond_X7_readOne rfl rfl rfl (by decide +kernel) ⟨Nat.le_of_ble_eq_true rfl, Nat.le_of_ble_eq_true rfl⟩) ⟨fun a U g mk q => ⟨q.1, xPre.blind hEE q.2⟩, va_recv hK hP (ci := 8) (q0 := (20 + 4 * 1)) rfl (xw_is (r := (20 + 4 * 1)) (by omega) (xc_sn (q := 1) (o := 0) (by omega) (by omega))), fun U hU hW => ⟨rfl, xPre.of hEE hP hK hE hS hU hW⟩⟩ rfl rfl hl.1 rfl (lv_room (Nat.le_of_ble_eq_true rfl)) dX7_readCond_45 ⟨Nat.le_of_ble_eq_true rfl, Nat.le_of_ble_eq_true rfl⟩) hS (fun q _ h => XA.le hS.1 q h) (XA.le hS.1) (fun r261 x t H locs ht hvm hw hB9 _ _ hS => ?_)
          have hP := xB.at ht hB9
          clear hB9 ht hvm
          obtain ⟨st262, sl263, so264⟩ := x
          obtain ⟨hGst262, hOst262, hFst262, hw⟩ := hw
          dsimp only at hGst262 hOst262 hFst262 hw
          have hO : OG ad [2, 4] so so264 := hO.tr hOst262 (by decide)
          have hP : va_P (dC, dI) vwCl (xw A C nb st262 sl263 so264) _ := hP
          have hG : XG [1, 2, 3, 4, 5, 6, 7, 12, 13, 14, 15] st st262 := hG.tr hGst262 (by decide)
          have hF : FX 5 st sl so st262 sl263 so264 := hF.tr hFst262 (by omega) (by omega)
          have hR : CN c nm st262 sl263 0 := hR.fr0 hFst262
          rcases hw with ⟨n265, n266, rfl, hT, hf267, hf268, hf269, hf270, hf271⟩ | ⟨n272, n273, rfl, hf274, hf275, hf276, hf277⟩
          · have hp9 := hT.2.2.2.2.2.2
            have hk1 := tkd_lt (B := B) (g := g) (m := m) (p := n265)
            have hk2 := tkx_le (B := B) (g := g) (m := m) (p := n265) hp9
            have hk3 := tka_le (B := B) (g := g) (m := m) (p := n265) hp9 hB.2.2.1
            have hk4 := tkv_ltc (p := n265) hB hp9
            have hk5 := tkw_lt (B := B) (g := g) (m := m) (p := n265)
            refine lv_istore (lv' := [(4, .int 1), (6, .int (nI k155)), (5, .int (nI k156)), (0, .ref (A (20 + 4 * 1))), (1, .ref (A 1)), (2, .ref (A (36 + 20 * 0))), (3, .int 1)]) hx hb dX7_readCond_48 hl (by decide) rfl (fun ls hl => ?_)
            refine lv_aload_n hx hb dX7_readCond_50 rfl (lv_at hl 3 rfl) ?_
            refine va_gets (v := .ref (ad 14)) hx hb (EV.word hEv (i := 14) (by decide)) hS hown (hts _ mm_X7_readCond_1) (fun _ hh => hh) dX7_readCond_51 ?_
            refine lv_iconst (v := 0) hx hb dX7_readCond_54 (by decide) ?_
            refine lv_iconst (v := 0) hx hb dX7_readCond_55 (by decide) ?_
            refine va_callv (va_runV (As := [.ref (ad 14), .int 0, .int 0]) (rest := []) ⟨hx, hb, hml, hown, hts⟩ (y_addT l dC dI ad E hEE A C nb _ hN st262 sl263 so264 14 0 0 B g m n265 (by omega) hG.1 hO.1 (CBt.fr hB hF) hT) (cwV 3 hts gX7_readCond_X7_add rfl rfl rfl (by decide +kernel) ⟨Nat.le_of_ble_eq_true rfl, Nat.le_of_ble_eq_true rfl⟩) ⟨fun a U g mk q => ⟨q.1, xPre.blind hEE q.2⟩, va_recv hK hP (ci := 8) (q0 := (20 + 4 * 1)) rfl (xw_is (r := (20 + 4 * 1)) (by omega) (xc_sn (q := 1) (o := 0) (by omega) (by omega))), fun U hU hW => ⟨rfl, xPre.of hEE hP hK hE hS hU hW⟩⟩ rfl rfl hl.1 rfl (lv_room (Nat.le_of_ble_eq_true rfl)) dX7_readCond_56 ⟨Nat.le_of_ble_eq_true rfl, Nat.le_of_ble_eq_true rfl⟩) hS (fun q _ h => XA.le hS.1 q h) (XA.le hS.1) (fun x t H locs ht hvm hw hB9 _ _ hS => ?_)
            have hP := xB.at ht hB9
            clear hB9 ht hvm
            obtain ⟨st279, sl280, so281⟩ := x
            obtain ⟨hGst279, hOst279, hFst279, hw⟩ := hw
            dsimp only at hGst279 hOst279 hFst279 hw
            have hO : OG ad [2, 4] so so281 := hO.tr hOst279 (by decide)
            have hP : va_P (dC, dI) vwCl (xw A C nb st279 sl280 so281) _ := hP
            have hG : XG [1, 2, 3, 4, 5, 6, 7, 12, 13, 14, 15] st st279 := hG.tr hGst279 (by decide)
            have hF : FX 5 st sl so st279 sl280 so281 := hF.tr hFst279 (by omega) (by omega)
            have hR : CN c nm st279 sl280 0 := hR.fr0 hFst279
            obtain ⟨hf282, hf283, hf284, hT⟩ := hw
            have hp9 := hT.2.2.2.2.2.2
            have hk1 := tkd_lt (B := B) (g := g) (m := m) (p := n265)
            have hk2 := tkx_le (B := B) (g := g) (m := m) (p := n265) hp9
            have hk3 := tka_le (B := B) (g := g) (m := m) (p := n265) hp9 hB.2.2.1
            have hk4 := tkv_ltc (p := n265) hB hp9
            have hk5 := tkw_lt (B := B) (g := g) (m := m) (p := n265)
            refine lv_goto (tgt := 102) hx hb dX7_readCond_59 (by decide) ?_
            refine lv_iinc (v := (nI (k155 + 1))) (lv' := [(6, .int (nI (k155 + 1))), (4, .int 1), (5, .int (nI k156)), (0, .ref (A (20 + 4 * 1))), (1, .ref (A 1)), (2, .ref (A (36 + 20 * 0))), (3, .int 1)]) hx hb dX7_readCond_102 hl (k := 1) rfl (nI_add k155 1) (by decide) rfl (fun ls hl => ?_)
            refine lv_goto (tgt := 15) hx hb dX7_readCond_105 (by decide) ?_
            exact ih171 (21 - (k155 + 1)) _ _ _ _ (by omega) ⟨(k155 + 1), k156, 1, st279, sl280, so281, rfl, by omega, by omega, by omega, by omega, by omega, by omega, fun _ => ⟨n265, n266, hT, by show st279 1 13 = st 1 13; rw [hf282, hf267, (hFst258 1 13 (by decide)).1]; exact h13, by show st279 (20 + 4 * 1) 4 = _; rw [hf284, hf268], by omega, by omega, hco.trans (sL_y (sOne_pr _) (by omega) (by omega) hf271)⟩, fun h9 => absurd h9 (by decide), hR, hF, hP, hG, hO, hS, lv_sub hl [0, 2, 1, 3, 4, 5, 6] rfl, rfl⟩
          · refine lv_istore (lv' := [(4, .int 0), (6, .int (nI k155)), (5, .int (nI k156)), (0, .ref (A (20 + 4 * 1))), (1, .ref (A 1)), (2, .ref (A (36 + 20 * 0))), (3, .int 1)]) hx hb dX7_readCond_48 hl (by decide) rfl (fun ls hl => ?_)
            refine lv_aload_n hx hb dX7_readCond_50 rfl (lv_at hl 3 rfl) ?_
            refine va_gets (v := .ref (ad 14)) hx hb (EV.word hEv (i := 14) (by decide)) hS hown (hts _ mm_X7_readCond_1) (fun _ hh => hh) dX7_readCond_51 ?_
            refine lv_iconst (v := 0) hx hb dX7_readCond_54 (by decide) ?_
            refine lv_iconst (v := 0) hx hb dX7_readCond_55 (by decide) ?_
            refine va_callv (va_runV (As := [.ref (ad 14), .int 0, .int 0]) (rest := []) ⟨hx, hb, hml, hown, hts⟩ (y_addN l dC dI ad E hEE A C nb _ hN st262 sl263 so264 14 0 0 (by omega) hG.1 hO.1 ) (cwV 3 hts gX7_readCond_X7_add rfl rfl rfl (by decide +kernel) ⟨Nat.le_of_ble_eq_true rfl, Nat.le_of_ble_eq_true rfl⟩) ⟨fun a U g mk q => ⟨q.1, xPre.blind hEE q.2⟩, va_recv hK hP (ci := 8) (q0 := (20 + 4 * 1)) rfl (xw_is (r := (20 + 4 * 1)) (by omega) (xc_sn (q := 1) (o := 0) (by omega) (by omega))), fun U hU hW => ⟨rfl, xPre.of hEE hP hK hE hS hU hW⟩⟩ rfl rfl hl.1 rfl (lv_room (Nat.le_of_ble_eq_true rfl)) dX7_readCond_56 ⟨Nat.le_of_ble_eq_true rfl, Nat.le_of_ble_eq_true rfl⟩) hS (fun q _ h => XA.le hS.1 q h) (XA.le hS.1) (fun x t H locs ht hvm hw hB9 _ _ hS => ?_)
            have hP := xB.at ht hB9
            clear hB9 ht hvm
            obtain ⟨st286, sl287, so288⟩ := x
            obtain ⟨hGst286, hOst286, hFst286, hw⟩ := hw
            dsimp only at hGst286 hOst286 hFst286 hw
            have hO : OG ad [2, 4] so so288 := hO.tr hOst286 (by decide)
            have hP : va_P (dC, dI) vwCl (xw A C nb st286 sl287 so288) _ := hP
            have hG : XG [1, 2, 3, 4, 5, 6, 7, 12, 13, 14, 15] st st286 := hG.tr hGst286 (by decide)
            have hF : FX 5 st sl so st286 sl287 so288 := hF.tr hFst286 (by omega) (by omega)
            have hR : CN c nm st286 sl287 0 := hR.fr0 hFst286
            obtain ⟨hf289, hf290, hf291⟩ := hw
            refine lv_goto (tgt := 102) hx hb dX7_readCond_59 (by decide) ?_
            refine lv_iinc (v := (nI (k155 + 1))) (lv' := [(6, .int (nI (k155 + 1))), (4, .int 0), (5, .int (nI k156)), (0, .ref (A (20 + 4 * 1))), (1, .ref (A 1)), (2, .ref (A (36 + 20 * 0))), (3, .int 1)]) hx hb dX7_readCond_102 hl (k := 1) rfl (nI_add k155 1) (by decide) rfl (fun ls hl => ?_)
            refine lv_goto (tgt := 15) hx hb dX7_readCond_105 (by decide) ?_
            exact ih171 (21 - (k155 + 1)) _ _ _ _ (by omega) ⟨(k155 + 1), k156, 0, st286, sl287, so288, rfl, by omega, by omega, by omega, by omega, by omega, by omega, fun h9 => absurd h9 (by decide), fun _ => ⟨n272, n273, by show st286 1 13 = _; rw [hf289, hf274], by show st286 1 14 = _; rw [hf290, hf275], hf276, hco.trans (sL_f (by omega) hf277 (by omega))⟩, hR, hF, hP, hG, hO, hS, lv_sub hl [0, 2, 1, 3, 4, 5, 6] rfl, rfl⟩
