set_option maxHeartbeats 4000000 in
set_option maxRecDepth 100000 in
theorem y_X0_readAll (l : Launch) (dC : Nat → ClassId) (dI : Nat → Nat → Nat) (ad : Nat → Nat) (E : EP) (hEE : EC ad E) (A : Nat → Nat) (C : Nat → ClassId) (nb sz : Nat) (hN : XN A) (st : Nat → Nat → Int32) (sl : Nat → Nat → Int64) (so : Nat → XR) (B : Nat → Nat) (g m : Nat) (p : Nat) (c : Nat → Nat) (nm : Nat → Nat → Nat) (hI : XI st) (hOI : OI ad so) (hB : CBt B g m st) (hT : TC B g m p ad st sl so) (hR : CN c nm st sl 0) (hf0 : st 1 13 = 0) : Met l yX0_readAll wsX0_readAll ({ frames := 9, cells := 0, slots := 0, locals := 201 }) (va_Pc [.ref (A 4), .ref (A 1), .ref (A (36 + 20 * 0))] (xPre E dC dI A C nb sz st sl so)) (va_Qv (fun (x : XT) => XG [1, 2, 4, 5, 7, 8, 9, 12, 13, 14, 15] st x.1 ∧ OG ad [3, 4] so x.2.2 ∧ FX 6 st sl so x.1 x.2.1 x.2.2 ∧ (x.1 1 13 = nI (bBk B g m c nm 41 p 0).1)) (xB dC dI A C nb) (XA A sz)) 0 0 (XA A sz) := by
  refine Met.ofW (cc := cX0_readAll) (maxL := 5) (ret := none) (by decide) rfl ?_
  intro p9 e s m9 args below meth c9 s₁ B9 hml hv
  obtain ⟨rfl, hsz, hP, hK, hE⟩ := hv
  have hx := B9.exec
  have hb := B9.bytes
  have hr := B9.returns
  have hts := atoms_spec (ws := wsX0_readAll) B9.pre
  have hown : s.vm.findClass RX0 = some m9.cls := findClass_of_methodNamed B9.named
  subst hsz
  have hEv := hEE.1 _ _ _ hE
  have hS : va_S (XA A s.heap.size) s.heap s.heap [] := va_S.rf
  have hG : XG [1, 2, 4, 5, 7, 8, 9, 12, 13, 14, 15] st st := XG.rf hI
  have hO : OG ad [3, 4] so so := OG.rf hOI
  have hl := lv_entry ([.ref (A 4), .ref (A 1), .ref (A (36 + 20 * 0))]) (n := 5) (Nat.le_of_ble_eq_true rfl)
  rw [lg_entry_eq]
  generalize (lg_sl ([.ref (A 4), .ref (A 1), .ref (A (36 + 20 * 0))]) ++ List.replicate (5 - (lg_sl ([.ref (A 4), .ref (A 1), .ref (A (36 + 20 * 0))])).length) Slot.unset).toArray = ls at hl ⊢
  have hl : lv_has ls 5 [(0, .ref (A 4)), (1, .ref (A 1)), (2, .ref (A (36 + 20 * 0)))] := hl
  have hB1 := hB.2.2.1
  have hB2 := hB.2.2.2.1
  have hF : FX 6 st sl so st sl so := FX.rf
  have hp9 := hT.2.2.2.2.2.2
  have hk1 := tkd_lt (B := B) (g := g) (m := m) (p := p)
  have hk2 := tkx_le (B := B) (g := g) (m := m) (p := p) hp9
  have hk3 := tka_le (B := B) (g := g) (m := m) (p := p) hp9 hB.2.2.1
  have hk4 := tkv_ltc (p := p) hB hp9
  have hk5 := tkw_lt (B := B) (g := g) (m := m) (p := p)
  have hR9 := hR.2.1
  refine lv_aload_n hx hb dX0_readAll_0 rfl (lv_at hl 0 rfl) ?_
  refine lv_iconst (v := 0) hx hb dX0_readAll_1 (by decide) ?_
  refine va_put (D := (dC, dI)) (ci := 1) (v := .int 0) (ty := .int) (C := RX0) (T := TX0) (N := 7) hx hb hts ii_X0_readAll_X0 tyX0 tyX0_ok nmX0 hown hK hP (xD hN _ _ _ _ _ _) hS 4 (xw_is (r := 4) (by omega) (xc_fix (r := 4) (by omega))) rfl 5 (by decide) (hts _ mm_X0_readAll_1) (fun _ hh => hh) rfl (by decide +kernel) rfl rfl (Nat.le_of_ble_eq_true rfl) dX0_readAll_2 (fun H locs hP _ hS => ?_)
  have hP : va_P (dC, dI) vwCl (xw A C nb (up2 st 4 5 0) sl so) H := by rw [← xset (r := 4) (k := 5) (v := 0) (xc_fix (r := 4) (by omega))]; exact hP
  obtain ⟨st1, est1⟩ : ∃ y, y = up2 st 4 5 0 := ⟨_, rfl⟩
  have hG : XG [1, 2, 4, 5, 7, 8, 9, 12, 13, 14, 15] st st1 := by rw [est1]; exact hG.up (xn (n := 0) (b := 41) (by decide : xrg 4 5 = 41) (by omega)) (xpn (c := 6) (by decide : xcl 4 5 = 6) (by decide))
  rw [← est1] at hP
  have hF : FX 6 st sl so st1 sl so := by rw [est1]; exact hF.up (by decide)
  have hT : TC B g m p ad st1 sl so := by rw [est1]; exact hT.up (by omega)
  have hR : CN c nm st1 sl 0 := by rw [est1]; exact hR.up (by omega)
  refine lv_iconst (v := 1) hx hb dX0_readAll_5 (by decide) ?_
  refine lv_istore_n (lv' := [(3, .int 1), (0, .ref (A 4)), (1, .ref (A 1)), (2, .ref (A (36 + 20 * 0)))]) hx hb dX0_readAll_6 rfl hl (by decide) rfl (fun ls hl => ?_)
  refine lv_iconst (v := 0) hx hb dX0_readAll_7 (by decide) ?_
  refine lv_istore (lv' := [(4, .int 0), (3, .int 1), (0, .ref (A 4)), (1, .ref (A 1)), (2, .ref (A (36 + 20 * 0)))]) hx hb dX0_readAll_8 hl (by decide) rfl (fun ls hl => ?_)
  refine zz_wf (fun n stk H locs ls => ∃ k2 : Nat, ∃ k3 : Nat, ∃ st4 : Nat → Nat → Int32, ∃ sl5 : Nat → Nat → Int64, ∃ so6 : Nat → XR, n = 42 - k2 ∧ 0 ≤ k2 ∧ k2 < 42 ∧ 0 ≤ k3 ∧ k3 < 2 ∧ (zz_im (k3 = 1) (∃ (p7 : Nat), TC B g m p7 ad st4 sl5 so6 ∧ st4 1 13 = st 1 13 ∧ st4 4 5 = nI k2 ∧ k2 ≤ 40 ∧ bBk B g m c nm 41 p 0 = bBk B g m c nm (41 - k2) p7 k2)) ∧ (zz_im (k3 = 0) (∃ (f7 a7 : Nat), st4 1 13 = nI f7 ∧ (1 ≤ f7 ∧ f7 < 9) ∧ bBk B g m c nm 41 p 0 = sf f7 a7)) ∧ CN c nm st4 sl5 0 ∧ FX 6 st sl so st4 sl5 so6 ∧ va_P (dC, dI) vwCl (xw A C nb st4 sl5 so6) H ∧ XG [1, 2, 4, 5, 7, 8, 9, 12, 13, 14, 15] st st4 ∧ OG ad [3, 4] so so6 ∧ va_S (XA A s.heap.size) s.heap H locs ∧ lv_has ls 5 [(4, .int (nI k2)), (3, .int (nI k3)), (0, .ref (A 4)), (1, .ref (A 1)), (2, .ref (A (36 + 20 * 0)))] ∧ stk = []) ?_ (42 - 0) _ _ _ _ ⟨0, 1, st1, sl, so, rfl, by omega, by omega, by omega, by omega, fun _ => ⟨p, hT, by show st1 1 13 = st 1 13; rw [est1, up2_ne (r := 4) (k := 5) (a := 1) (j := 13) _ _ (by omega)], by show st1 4 5 = _; rw [est1, up2_same]; rfl, by omega, rfl⟩, fun h9 => absurd h9 (by decide), hR, hF, hP, hG, hO, hS, lv_sub hl [0, 1, 2, 3, 4] rfl, rfl⟩
  rintro nn stk H locs ls ⟨k2, k3, st4, sl5, so6, hm14, hv7_0, hv8_1, hv9_2, hv10_3, hv11_0, hv12_1, hv13_2, hv14_3, hP, hG, hO, hS, hl, rfl⟩ ih15
  have hF := hv14_3
  have hR := hv13_2
  refine lv_iload hx hb dX0_readAll_10 (lv_at hl 0 rfl) ?_
  refine lv_bipush (v := 40) hx hb dX0_readAll_12 (by decide) ?_
  refine lv_icmp_gt (tgt := 82) hx hb dX0_readAll_14 (by decide) (fun c1 => ?_) (fun c1 => ?_)
  · have c1 : 40 < k2 := (nI_ltI (a := 40) (b := k2) (by omega) (by omega)).mp c1
    have hz3 : k3 = 0 := by
      by_cases h9 : k3 = 1
      · obtain ⟨p7, -, -, -, h40, -⟩ := hv11_0 h9; omega
      · omega
    obtain ⟨f7, a7, h13, hfa, hbk⟩ := hv12_1 (by omega)
    exact W.vret hx hb hr (fun t ht hW => ⟨⟨(st4, sl5, so6), rfl, ⟨hG, hO, hF, by rw [hbk]; exact h13⟩, xB.of ht hP⟩, hS.F ht⟩) hS.2.2 dX0_readAll_82
  · have c1 : ¬ 40 < k2 := fun hh => c1 ((nI_ltI (a := 40) (b := k2) (by omega) (by omega)).mpr hh)
    refine lv_iload_n hx hb dX0_readAll_17 rfl (lv_at hl 1 rfl) ?_
    refine lv_if_eq (tgt := 82) hx hb dX0_readAll_18 (by decide) (fun c2 => ?_) (fun c2 => ?_)
    · have c2 : k3 = 0 := (nI_eq (a := k3) (b := 0) (by omega) (by omega)).mp c2
      have hz3 : k3 = 0 := by
        by_cases h9 : k3 = 1
        · obtain ⟨p7, -, -, -, h40, -⟩ := hv11_0 h9; omega
        · omega
      obtain ⟨f7, a7, h13, hfa, hbk⟩ := hv12_1 (by omega)
      exact W.vret hx hb hr (fun t ht hW => ⟨⟨(st4, sl5, so6), rfl, ⟨hG, hO, hF, by rw [hbk]; exact h13⟩, xB.of ht hP⟩, hS.F ht⟩) hS.2.2 dX0_readAll_82
    · have c2 : ¬ k3 = 0 := fun hh => c2 ((nI_eq (a := k3) (b := 0) (by omega) (by omega)).mpr hh)
      obtain ⟨p7, hT, h13, h45, h40, hbk⟩ := hv11_0 (by omega)
      have hp9 := hT.2.2.2.2.2.2
      have hk1 := tkd_lt (B := B) (g := g) (m := m) (p := p7)
      have hk2 := tkx_le (B := B) (g := g) (m := m) (p := p7) hp9
      have hk3 := tka_le (B := B) (g := g) (m := m) (p := p7) hp9 hB.2.2.1
      have hk4 := tkv_ltc (p := p7) hB hp9
      have hk5 := tkw_lt (B := B) (g := g) (m := m) (p := p7)
      have hg16 : k3 = 1 := by omega
      have hl : lv_has ls 5 [(4, .int (nI k2)), (3, .int 1), (0, .ref (A 4)), (1, .ref (A 1)), (2, .ref (A (36 + 20 * 0)))] := by rw [hg16] at hl; exact hl
      refine lv_aload_n hx hb dX0_readAll_21 rfl (lv_at hl 3 rfl) ?_
      refine va_getN (host := "OffTheLead") (D := (dC, dI)) (ci := 9) (v := .int (st4 1 4)) (C := RX8) (T := TX8) (N := 15) hx hb hts ii_X0_readAll_X8 hown hK hP 1 (xw_is (r := 1) (by omega) (xc_fix (r := 1) (by omega))) rfl 4 (by decide) (va_Nw.use rfl (nf_X0_34 hEv)) (fun _ hh => hh) rfl dX0_readAll_22 ?_
      refine zz_top (v := (nI ((tkd B g m p7 + 3) % 5))) (by show st4 1 4 = _; rw [hT.2.2.1]) ?_
      refine lv_iconst (v := 3) hx hb dX0_readAll_25 (by decide) ?_
      refine lv_icmp_eq (tgt := 82) hx hb dX0_readAll_26 (by decide) (fun c3 => ?_) (fun c3 => ?_)
      · have c3 : ((tkd B g m p7 + 3) % 5) = 3 := (nI_eq (a := ((tkd B g m p7 + 3) % 5)) (b := 3) (by omega) (by omega)).mp c3
        exact W.vret hx hb hr (fun t ht hW => ⟨⟨(st4, sl5, so6), rfl, ⟨hG, hO, hF, by rw [hbk, bBk_0 (by omega)]; exact (show st4 1 13 = 0 from (h13).trans hf0)⟩, xB.of ht hP⟩, hS.F ht⟩) hS.2.2 dX0_readAll_82
      · have c3 : ¬ ((tkd B g m p7 + 3) % 5) = 3 := fun hh => c3 ((nI_eq (a := ((tkd B g m p7 + 3) % 5)) (b := 3) (by omega) (by omega)).mpr hh)
        refine lv_aload_n hx hb dX0_readAll_29 rfl (lv_at hl 2 rfl) ?_
        refine lv_aload_n hx hb dX0_readAll_30 rfl (lv_at hl 3 rfl) ?_
        refine lv_aload_n hx hb dX0_readAll_31 rfl (lv_at hl 4 rfl) ?_
        refine va_calli (va_runV (As := [.ref (A 1), .ref (A (36 + 20 * 0))]) (rest := []) ⟨hx, hb, hml, hown, hts⟩ (y_X0_mayBegin l dC dI ad E hEE A C nb _ hN st4 sl5 so6 B g m p7 c nm k2 hG.1 hO.1 (CBt.fr hB hF) hT hR (by rw [h45]) (by omega)) (cwV 2 hts gX0_readAll_X0_mayBegin rfl rfl rfl (by decide +kernel) ⟨Nat.le_of_ble_eq_true rfl, Nat.le_of_ble_eq_true rfl⟩) ⟨fun a U g mk q => ⟨q.1, xPre.blind hEE q.2⟩, va_recv hK hP (ci := 1) (q0 := 4) rfl (xw_is (r := 4) (by omega) (xc_fix (r := 4) (by omega))), fun U hU hW => ⟨rfl, xPre.of hEE hP hK hE hS hU hW⟩⟩ rfl rfl hl.1 rfl (lv_room (Nat.le_of_ble_eq_true rfl)) dX0_readAll_32 ⟨Nat.le_of_ble_eq_true rfl, Nat.le_of_ble_eq_true rfl⟩) hS (fun q _ h => XA.le hS.1 q h) (XA.le hS.1) (fun r17 x t H locs ht hvm hw hB9 _ _ hS => ?_)
        have hP := xB.at ht hB9
        clear hB9 ht hvm
        obtain ⟨st18, sl19, so20⟩ := x
        obtain ⟨hGst18, hOst18, hFst18, hw⟩ := hw
        dsimp only at hGst18 hOst18 hFst18 hw
        have hO : OG ad [3, 4] so so20 := hO.tr hOst18 (by decide)
        have hP : va_P (dC, dI) vwCl (xw A C nb st18 sl19 so20) _ := hP
        have hG : XG [1, 2, 4, 5, 7, 8, 9, 12, 13, 14, 15] st st18 := hG.tr hGst18 (by decide)
        have hF : FX 6 st sl so st18 sl19 so20 := hF.tr hFst18 (by omega) (by omega)
        have hR : CN c nm st18 sl19 0 := hR.fr0 hFst18
        rcases hw with ⟨rfl, hT, hf21, hf22, hf23, hf24⟩ | ⟨n25, n26, rfl, hf27, hf28, hf29, hf30⟩
        · have hp9 := hT.2.2.2.2.2.2
          have hk1 := tkd_lt (B := B) (g := g) (m := m) (p := p7)
          have hk2 := tkx_le (B := B) (g := g) (m := m) (p := p7) hp9
          have hk3 := tka_le (B := B) (g := g) (m := m) (p := p7) hp9 hB.2.2.1
          have hk4 := tkv_ltc (p := p7) hB hp9
          have hk5 := tkw_lt (B := B) (g := g) (m := m) (p := p7)
          refine lv_if_eq (tgt := 60) hx hb dX0_readAll_35 (by decide) (fun cc => absurd cc (by decide)) (fun _ => ?_)
          refine lv_aload_n hx hb dX0_readAll_38 rfl (lv_at hl 2 rfl) ?_
          refine lv_aload_n hx hb dX0_readAll_39 rfl (lv_at hl 3 rfl) ?_
          refine lv_aload_n hx hb dX0_readAll_40 rfl (lv_at hl 4 rfl) ?_
          refine va_calli (va_runV (As := [.ref (A 1), .ref (A (36 + 20 * 0))]) (rest := []) ⟨hx, hb, hml, hown, hts⟩ (y_X0_readLine l dC dI ad E hEE A C nb _ hN st18 sl19 so20 B g m p7 c nm k2 hG.1 hO.1 (CBt.fr hB hF) hT hR (by rw [hf22, h45]) (by omega) (hf24)) (cwV 2 hts gX0_readAll_X0_readLine rfl rfl rfl (by decide +kernel) ⟨Nat.le_of_ble_eq_true rfl, Nat.le_of_ble_eq_true rfl⟩) ⟨fun a U g mk q => ⟨q.1, xPre.blind hEE q.2⟩, va_recv hK hP (ci := 1) (q0 := 4) rfl (xw_is (r := 4) (by omega) (xc_fix (r := 4) (by omega))), fun U hU hW => ⟨rfl, xPre.of hEE hP hK hE hS hU hW⟩⟩ rfl rfl hl.1 rfl (lv_room (Nat.le_of_ble_eq_true rfl)) dX0_readAll_41 ⟨Nat.le_of_ble_eq_true rfl, Nat.le_of_ble_eq_true rfl⟩) hS (fun q _ h => XA.le hS.1 q h) (XA.le hS.1) (fun r31 x t H locs ht hvm hw hB9 _ _ hS => ?_)
          have hP := xB.at ht hB9
          clear hB9 ht hvm
          obtain ⟨st32, sl33, so34⟩ := x
          obtain ⟨hGst32, hOst32, hFst32, hw⟩ := hw
          dsimp only at hGst32 hOst32 hFst32 hw
          have hO : OG ad [3, 4] so so34 := hO.tr hOst32 (by decide)
          have hP : va_P (dC, dI) vwCl (xw A C nb st32 sl33 so34) _ := hP
          have hG : XG [1, 2, 4, 5, 7, 8, 9, 12, 13, 14, 15] st st32 := hG.tr hGst32 (by decide)
          have hF : FX 6 st sl so st32 sl33 so34 := hF.tr hFst32 (by omega) (by omega)
          have hR : CN c nm st32 sl33 0 := hR.fr0 hFst32
          rcases hw with ⟨n35, rfl, hT, hf36, hf37, hf38⟩ | ⟨n39, n40, rfl, hf41, hf42, hf43, hf44⟩
          · have hp9 := hT.2.2.2.2.2.2
            have hk1 := tkd_lt (B := B) (g := g) (m := m) (p := n35)
            have hk2 := tkx_le (B := B) (g := g) (m := m) (p := n35) hp9
            have hk3 := tka_le (B := B) (g := g) (m := m) (p := n35) hp9 hB.2.2.1
            have hk4 := tkv_ltc (p := n35) hB hp9
            have hk5 := tkw_lt (B := B) (g := g) (m := m) (p := n35)
            refine lv_if_eq (tgt := 60) hx hb dX0_readAll_44 (by decide) (fun cc => absurd cc (by decide)) (fun _ => ?_)
            refine lv_aload_n hx hb dX0_readAll_47 rfl (lv_at hl 3 rfl) ?_
            refine lv_bipush (v := 59) hx hb dX0_readAll_48 (by decide) ?_
            refine va_calli (va_runV (As := [.int 59]) (rest := []) ⟨hx, hb, hml, hown, hts⟩ (y_X8_takeMark l dC dI ad E hEE A C nb _ hN st32 sl33 so34 B g m n35 hG.1 hO.1 (CBt.fr hB hF) hT) (cwV 1 hts gX0_readAll_X8_takeMark rfl rfl rfl (by decide +kernel) ⟨Nat.le_of_ble_eq_true rfl, Nat.le_of_ble_eq_true rfl⟩) ⟨fun a U g mk q => ⟨q.1, xPre.blind hEE q.2⟩, va_recv hK hP (ci := 9) (q0 := 1) rfl (xw_is (r := 1) (by omega) (xc_fix (r := 1) (by omega))), fun U hU hW => ⟨rfl, xPre.of hEE hP hK hE hS hU hW⟩⟩ rfl rfl hl.1 rfl (lv_room (Nat.le_of_ble_eq_true rfl)) dX0_readAll_50 ⟨Nat.le_of_ble_eq_true rfl, Nat.le_of_ble_eq_true rfl⟩) hS (fun q _ h => XA.le hS.1 q h) (XA.le hS.1) (fun r45 x t H locs ht hvm hw hB9 _ _ hS => ?_)
            have hP := xB.at ht hB9
            clear hB9 ht hvm
            obtain ⟨st46, sl47, so48⟩ := x
            obtain ⟨hGst46, hOst46, hFst46, hw⟩ := hw
            dsimp only at hGst46 hOst46 hFst46 hw
            have hO : OG ad [3, 4] so so48 := hO.tr hOst46 (by decide)
            have hP : va_P (dC, dI) vwCl (xw A C nb st46 sl47 so48) _ := hP
            have hG : XG [1, 2, 4, 5, 7, 8, 9, 12, 13, 14, 15] st st46 := hG.tr hGst46 (by decide)
            have hF : FX 6 st sl so st46 sl47 so48 := hF.tr hFst46 (by omega) (by omega)
            have hR : CN c nm st46 sl47 0 := hR.fr0 hFst46
            rcases hw with ⟨rfl, hT, hf49, hf50⟩ | ⟨n51, n52, rfl, hf53, hf54, hf55, hf56⟩
            · have hp9 := hT.2.2.2.2.2.2
              have hk1 := tkd_lt (B := B) (g := g) (m := m) (p := (tkx B g m n35))
              have hk2 := tkx_le (B := B) (g := g) (m := m) (p := (tkx B g m n35)) hp9
              have hk3 := tka_le (B := B) (g := g) (m := m) (p := (tkx B g m n35)) hp9 hB.2.2.1
              have hk4 := tkv_ltc (p := (tkx B g m n35)) hB hp9
              have hk5 := tkw_lt (B := B) (g := g) (m := m) (p := (tkx B g m n35))
              refine lv_if_eq (tgt := 60) hx hb dX0_readAll_53 (by decide) (fun cc => absurd cc (by decide)) (fun _ => ?_)
              refine lv_iconst (v := 1) hx hb dX0_readAll_56 (by decide) ?_
              refine lv_goto (tgt := 61) hx hb dX0_readAll_57 (by decide) ?_
              refine lv_istore_n (lv' := [(3, .int 1), (4, .int (nI k2)), (0, .ref (A 4)), (1, .ref (A 1)), (2, .ref (A (36 + 20 * 0)))]) hx hb dX0_readAll_61 rfl hl (by decide) rfl (fun ls hl => ?_)
              refine lv_iload_n hx hb dX0_readAll_62 rfl (lv_at hl 0 rfl) ?_
              refine lv_if_eq (tgt := 76) hx hb dX0_readAll_63 (by decide) (fun cc => absurd cc (by decide)) (fun _ => ?_)
              refine lv_aload_n hx hb dX0_readAll_66 rfl (lv_at hl 2 rfl) ?_
              refine lv_dup hx hb dX0_readAll_67 rfl ?_
              refine va_get (D := (dC, dI)) (ci := 1) (v := .int (st46 4 5)) (C := RX0) (T := TX0) (N := 7) hx hb hts ii_X0_readAll_X0 hown hK hP 4 (xw_is (r := 4) (by omega) (xc_fix (r := 4) (by omega))) rfl 5 (by decide) (hts _ mm_X0_readAll_1) (fun _ hh => hh) rfl dX0_readAll_68 ?_
              refine zz_top (v := (nI k2)) (by show st46 4 5 = _; rw [(hFst46 4 5 (by decide)).1, hf37, hf22, h45]) ?_
              refine lv_iconst (v := 1) hx hb dX0_readAll_71 (by decide) ?_
              refine lv_iadd hx hb dX0_readAll_72 ?_
              refine zz_top (v := nI (k2 + 1)) (nI_add k2 1) ?_
              refine va_put (D := (dC, dI)) (ci := 1) (v := .int (nI (k2 + 1))) (ty := .int) (C := RX0) (T := TX0) (N := 7) hx hb hts ii_X0_readAll_X0 tyX0 tyX0_ok nmX0 hown hK hP (xD hN _ _ _ _ _ _) hS 4 (xw_is (r := 4) (by omega) (xc_fix (r := 4) (by omega))) rfl 5 (by decide) (hts _ mm_X0_readAll_1) (fun _ hh => hh) rfl (by decide +kernel) rfl rfl (Nat.le_of_ble_eq_true rfl) dX0_readAll_73 (fun H locs hP _ hS => ?_)
              have hP : va_P (dC, dI) vwCl (xw A C nb (up2 st46 4 5 (nI (k2 + 1))) sl47 so48) H := by rw [← xset (r := 4) (k := 5) (v := (nI (k2 + 1))) (xc_fix (r := 4) (by omega))]; exact hP
              obtain ⟨st57, est57⟩ : ∃ y, y = up2 st46 4 5 (nI (k2 + 1)) := ⟨_, rfl⟩
              have hG : XG [1, 2, 4, 5, 7, 8, 9, 12, 13, 14, 15] st st57 := by rw [est57]; exact hG.up (xn (n := (k2 + 1)) (b := 41) (by decide : xrg 4 5 = 41) (by omega)) (xpn (c := 6) (by decide : xcl 4 5 = 6) (by decide))
              rw [← est57] at hP
              have hF : FX 6 st sl so st57 sl47 so48 := by rw [est57]; exact hF.up (by decide)
              have hT : TC B g m (tkx B g m n35) ad st57 sl47 so48 := by rw [est57]; exact hT.up (by omega)
              have hR : CN c nm st57 sl47 0 := by rw [est57]; exact hR.up (by omega)
              refine lv_iinc (v := (nI (k2 + 1))) (lv' := [(4, .int (nI (k2 + 1))), (3, .int 1), (0, .ref (A 4)), (1, .ref (A 1)), (2, .ref (A (36 + 20 * 0)))]) hx hb dX0_readAll_76 hl (k := 1) rfl (nI_add k2 1) (by decide) rfl (fun ls hl => ?_)
              refine lv_goto (tgt := 10) hx hb dX0_readAll_79 (by decide) ?_
              exact ih15 (42 - (k2 + 1)) _ _ _ _ (by omega) ⟨(k2 + 1), 1, st57, sl47, so48, rfl, by omega, by omega, by omega, by omega, fun _ => ⟨(tkx B g m n35), hT, by show st57 1 13 = st 1 13; rw [est57, up2_ne (r := 4) (k := 5) (a := 1) (j := 13) _ _ (by omega), hf49, hf36, hf21]; exact h13, by show st57 4 5 = _; rw [est57, up2_same], by omega, hbk.trans (by rw [(show 41 - k2 = (40 - k2) + 1 by omega), show 41 - (k2 + 1) = 40 - k2 by omega]; exact bBk_y (by omega) ((bLn_m hf24 (by omega)).trans (en_y hf38 hf50)))⟩, fun h9 => absurd h9 (by decide), hR, hF, hP, hG, hO, hS, lv_sub hl [0, 1, 2, 3, 4] rfl, rfl⟩
            · refine lv_if_eq (tgt := 60) hx hb dX0_readAll_53 (by decide) (fun _ => ?_) (fun cc => absurd (by decide) cc)
              refine lv_iconst (v := 0) hx hb dX0_readAll_60 (by decide) ?_
              refine lv_istore_n (lv' := [(3, .int 0), (4, .int (nI k2)), (0, .ref (A 4)), (1, .ref (A 1)), (2, .ref (A (36 + 20 * 0)))]) hx hb dX0_readAll_61 rfl hl (by decide) rfl (fun ls hl => ?_)
              refine lv_iload_n hx hb dX0_readAll_62 rfl (lv_at hl 0 rfl) ?_
              refine lv_if_eq (tgt := 76) hx hb dX0_readAll_63 (by decide) (fun _ => ?_) (fun cc => absurd (by decide) cc)
              refine lv_iinc (v := (nI (k2 + 1))) (lv' := [(4, .int (nI (k2 + 1))), (3, .int 0), (0, .ref (A 4)), (1, .ref (A 1)), (2, .ref (A (36 + 20 * 0)))]) hx hb dX0_readAll_76 hl (k := 1) rfl (nI_add k2 1) (by decide) rfl (fun ls hl => ?_)
              refine lv_goto (tgt := 10) hx hb dX0_readAll_79 (by decide) ?_
              exact ih15 (42 - (k2 + 1)) _ _ _ _ (by omega) ⟨(k2 + 1), 0, st46, sl47, so48, rfl, by omega, by omega, by omega, by omega, fun h9 => absurd h9 (by decide), fun _ => ⟨n51, n52, by show st46 1 13 = _; rw [hf53], hf55, hbk.trans (by rw [(show 41 - k2 = (40 - k2) + 1 by omega)]; exact bBk_f (by omega) ((bLn_m hf24 (by omega)).trans (en_f hf38 hf56 (by omega))) (by omega))⟩, hR, hF, hP, hG, hO, hS, lv_sub hl [0, 1, 2, 3, 4] rfl, rfl⟩
          · refine lv_if_eq (tgt := 60) hx hb dX0_readAll_44 (by decide) (fun _ => ?_) (fun cc => absurd (by decide) cc)
            refine lv_iconst (v := 0) hx hb dX0_readAll_60 (by decide) ?_
            refine lv_istore_n (lv' := [(3, .int 0), (4, .int (nI k2)), (0, .ref (A 4)), (1, .ref (A 1)), (2, .ref (A (36 + 20 * 0)))]) hx hb dX0_readAll_61 rfl hl (by decide) rfl (fun ls hl => ?_)
            refine lv_iload_n hx hb dX0_readAll_62 rfl (lv_at hl 0 rfl) ?_
            refine lv_if_eq (tgt := 76) hx hb dX0_readAll_63 (by decide) (fun _ => ?_) (fun cc => absurd (by decide) cc)
            refine lv_iinc (v := (nI (k2 + 1))) (lv' := [(4, .int (nI (k2 + 1))), (3, .int 0), (0, .ref (A 4)), (1, .ref (A 1)), (2, .ref (A (36 + 20 * 0)))]) hx hb dX0_readAll_76 hl (k := 1) rfl (nI_add k2 1) (by decide) rfl (fun ls hl => ?_)
            refine lv_goto (tgt := 10) hx hb dX0_readAll_79 (by decide) ?_
            exact ih15 (42 - (k2 + 1)) _ _ _ _ (by omega) ⟨(k2 + 1), 0, st32, sl33, so34, rfl, by omega, by omega, by omega, by omega, fun h9 => absurd h9 (by decide), fun _ => ⟨n39, n40, by show st32 1 13 = _; rw [hf41], hf43, hbk.trans (by rw [(show 41 - k2 = (40 - k2) + 1 by omega)]; exact bBk_f (by omega) ((bLn_m hf24 (by omega)).trans (bEn_f hf44 (by omega))) (by omega))⟩, hR, hF, hP, hG, hO, hS, lv_sub hl [0, 1, 2, 3, 4] rfl, rfl⟩
        · refine lv_if_eq (tgt := 60) hx hb dX0_readAll_35 (by decide) (fun _ => ?_) (fun cc => absurd (by decide) cc)
          refine lv_iconst (v := 0) hx hb dX0_readAll_60 (by decide) ?_
          refine lv_istore_n (lv' := [(3, .int 0), (4, .int (nI k2)), (0, .ref (A 4)), (1, .ref (A 1)), (2, .ref (A (36 + 20 * 0)))]) hx hb dX0_readAll_61 rfl hl (by decide) rfl (fun ls hl => ?_)
          refine lv_iload_n hx hb dX0_readAll_62 rfl (lv_at hl 0 rfl) ?_
          refine lv_if_eq (tgt := 76) hx hb dX0_readAll_63 (by decide) (fun _ => ?_) (fun cc => absurd (by decide) cc)
          refine lv_iinc (v := (nI (k2 + 1))) (lv' := [(4, .int (nI (k2 + 1))), (3, .int 0), (0, .ref (A 4)), (1, .ref (A 1)), (2, .ref (A (36 + 20 * 0)))]) hx hb dX0_readAll_76 hl (k := 1) rfl (nI_add k2 1) (by decide) rfl (fun ls hl => ?_)
          refine lv_goto (tgt := 10) hx hb dX0_readAll_79 (by decide) ?_
          exact ih15 (42 - (k2 + 1)) _ _ _ _ (by omega) ⟨(k2 + 1), 0, st18, sl19, so20, rfl, by omega, by omega, by omega, by omega, fun h9 => absurd h9 (by decide), fun _ => ⟨n25, n26, by show st18 1 13 = _; rw [hf27], hf29, hbk.trans (by rw [(show 41 - k2 = (40 - k2) + 1 by omega)]; exact bBk_f (by omega) hf30 (by omega))⟩, hR, hF, hP, hG, hO, hS, lv_sub hl [0, 1, 2, 3, 4] rfl, rfl⟩
set_option maxHeartbeats 4000000 in
set_option maxRecDepth 100000 in
theorem y_open400 (l : Launch) (dC : Nat → ClassId) (dI : Nat → Nat → Nat) (ad : Nat → Nat) (E : EP) (hEE : EC ad E) (A : Nat → Nat) (C : Nat → ClassId) (nb sz : Nat) (hN : XN A) (st : Nat → Nat → Int32) (sl : Nat → Nat → Int64) (so : Nat → XR) (B : Nat → Nat) (g : Nat) (hI : XI st) (hOI : OI ad so) (ht : st 1 1 = nI g) (hg : g < 941) (hbt : ∀ j, j < g → st 2 j = sbt (B j) ∧ B j < 256) : Met l yX8_open wsX8_open ({ frames := 6, cells := 0, slots := 0, locals := 130 }) (va_Pc [.ref (A 1), .int 400] (xPre E dC dI A C nb sz st sl so)) (va_Qv (fun (x : XT) => XG [1, 2, 3, 4, 5, 6, 7, 8, 9, 12, 13, 14, 15] st x.1 ∧ OG ad [2, 3, 4] so x.2.2 ∧ (CBt B g 400 x.1 ∧ TC B g 400 0 ad x.1 x.2.1 x.2.2 ∧ x.1 1 13 = 0 ∧ (∀ r k, 36 ≤ r → x.1 r k = st r k ∧ x.2.1 r k = sl r k))) (xB dC dI A C nb) (XA A sz)) 0 0 (XA A sz) := by
  refine Met.ofW (cc := cX8_open) (maxL := 2) (ret := none) (by decide) rfl ?_
  intro p9 e s m9 args below meth c9 s₁ B9 hml hv
  obtain ⟨rfl, hsz, hP, hK, hE⟩ := hv
  have hx := B9.exec
  have hb := B9.bytes
  have hr := B9.returns
  have hts := atoms_spec (ws := wsX8_open) B9.pre
  have hown : s.vm.findClass RX8 = some m9.cls := findClass_of_methodNamed B9.named
  subst hsz
  have hEv := hEE.1 _ _ _ hE
  have hS : va_S (XA A s.heap.size) s.heap s.heap [] := va_S.rf
  have hG : XG [1, 2, 3, 4, 5, 6, 7, 8, 9, 12, 13, 14, 15] st st := XG.rf hI
  have hO : OG ad [2, 3, 4] so so := OG.rf hOI
  have hl := lv_entry ([.ref (A 1), .int 400]) (n := 2) (Nat.le_of_ble_eq_true rfl)
  rw [lg_entry_eq]
  generalize (lg_sl ([.ref (A 1), .int 400]) ++ List.replicate (2 - (lg_sl ([.ref (A 1), .int 400])).length) Slot.unset).toArray = ls at hl ⊢
  have hl : lv_has ls 2 [(0, .ref (A 1)), (1, .int 400)] := hl
  obtain ⟨m, hm⟩ : ∃ m : Nat, m = 400 := ⟨_, rfl⟩
  refine lv_aload_n hx hb dX8_open_0 rfl (lv_at hl 0 rfl) ?_
  refine lv_iload_n hx hb dX8_open_1 rfl (lv_at hl 1 rfl) ?_
  refine va_put (D := (dC, dI)) (ci := 9) (v := .int 400) (ty := .int) (C := RX8) (T := TX8) (N := 15) hx hb hts ii_X8_open_X8 tyX8 tyX8_ok nmX8 hown hK hP (xD hN _ _ _ _ _ _) hS 1 (xw_is (r := 1) (by omega) (xc_fix (r := 1) (by omega))) rfl 2 (by decide) (hts _ mm_X8_open_1) (fun _ hh => hh) rfl (by decide +kernel) rfl rfl (Nat.le_of_ble_eq_true rfl) dX8_open_2 (fun H locs hP _ hS => ?_)
  have hP : va_P (dC, dI) vwCl (xw A C nb (up2 st 1 2 400) sl so) H := by rw [← xset (r := 1) (k := 2) (v := 400) (xc_fix (r := 1) (by omega))]; exact hP
  obtain ⟨st1, est1⟩ : ∃ y, y = up2 st 1 2 400 := ⟨_, rfl⟩
  have hG : XG [1, 2, 3, 4, 5, 6, 7, 8, 9, 12, 13, 14, 15] st st1 := by rw [est1]; exact hG.up (xn (n := 400) (b := 941) (by decide : xrg 1 2 = 941) (by omega)) (xpn (c := 0) (by decide : xcl 1 2 = 0) (by decide))
  rw [← est1] at hP
  refine lv_aload_n hx hb dX8_open_5 rfl (lv_at hl 0 rfl) ?_
  refine lv_iconst (v := 0) hx hb dX8_open_6 (by decide) ?_
  refine va_put (D := (dC, dI)) (ci := 9) (v := .int 0) (ty := .int) (C := RX8) (T := TX8) (N := 15) hx hb hts ii_X8_open_X8 tyX8 tyX8_ok nmX8 hown hK hP (xD hN _ _ _ _ _ _) hS 1 (xw_is (r := 1) (by omega) (xc_fix (r := 1) (by omega))) rfl 3 (by decide) (hts _ mm_X8_open_2) (fun _ hh => hh) rfl (by decide +kernel) rfl rfl (Nat.le_of_ble_eq_true rfl) dX8_open_7 (fun H locs hP _ hS => ?_)
  have hP : va_P (dC, dI) vwCl (xw A C nb (up2 st1 1 3 0) sl so) H := by rw [← xset (r := 1) (k := 3) (v := 0) (xc_fix (r := 1) (by omega))]; exact hP
  obtain ⟨st2, est2⟩ : ∃ y, y = up2 st1 1 3 0 := ⟨_, rfl⟩
  have hG : XG [1, 2, 3, 4, 5, 6, 7, 8, 9, 12, 13, 14, 15] st st2 := by rw [est2]; exact hG.up (xn (n := 0) (b := 941) (by decide : xrg 1 3 = 941) (by omega)) (xpn (c := 0) (by decide : xcl 1 3 = 0) (by decide))
  rw [← est2] at hP
  refine lv_aload_n hx hb dX8_open_10 rfl (lv_at hl 0 rfl) ?_
  refine lv_iconst (v := 0) hx hb dX8_open_11 (by decide) ?_
  refine va_put (D := (dC, dI)) (ci := 9) (v := .int 0) (ty := .int) (C := RX8) (T := TX8) (N := 15) hx hb hts ii_X8_open_X8 tyX8 tyX8_ok nmX8 hown hK hP (xD hN _ _ _ _ _ _) hS 1 (xw_is (r := 1) (by omega) (xc_fix (r := 1) (by omega))) rfl 13 (by decide) (hts _ mm_X8_open_3) (fun _ hh => hh) rfl (by decide +kernel) rfl rfl (Nat.le_of_ble_eq_true rfl) dX8_open_12 (fun H locs hP _ hS => ?_)
  have hP : va_P (dC, dI) vwCl (xw A C nb (up2 st2 1 13 0) sl so) H := by rw [← xset (r := 1) (k := 13) (v := 0) (xc_fix (r := 1) (by omega))]; exact hP
  obtain ⟨st3, est3⟩ : ∃ y, y = up2 st2 1 13 0 := ⟨_, rfl⟩
  have hG : XG [1, 2, 3, 4, 5, 6, 7, 8, 9, 12, 13, 14, 15] st st3 := by rw [est3]; exact hG.up (xz (r := 1) (k := 13) (by decide : xrg 1 13 = 0)) (xpn (c := 10) (by decide : xcl 1 13 = 10) (by decide))
  rw [← est3] at hP
  refine lv_aload_n hx hb dX8_open_15 rfl (lv_at hl 0 rfl) ?_
  refine lv_iconst (v := 0) hx hb dX8_open_16 (by decide) ?_
  refine va_put (D := (dC, dI)) (ci := 9) (v := .int 0) (ty := .int) (C := RX8) (T := TX8) (N := 15) hx hb hts ii_X8_open_X8 tyX8 tyX8_ok nmX8 hown hK hP (xD hN _ _ _ _ _ _) hS 1 (xw_is (r := 1) (by omega) (xc_fix (r := 1) (by omega))) rfl 14 (by decide) (hts _ mm_X8_open_4) (fun _ hh => hh) rfl (by decide +kernel) rfl rfl (Nat.le_of_ble_eq_true rfl) dX8_open_17 (fun H locs hP _ hS => ?_)
  have hP : va_P (dC, dI) vwCl (xw A C nb (up2 st3 1 14 0) sl so) H := by rw [← xset (r := 1) (k := 14) (v := 0) (xc_fix (r := 1) (by omega))]; exact hP
  obtain ⟨st4, est4⟩ : ∃ y, y = up2 st3 1 14 0 := ⟨_, rfl⟩
  have hG : XG [1, 2, 3, 4, 5, 6, 7, 8, 9, 12, 13, 14, 15] st st4 := by rw [est4]; exact hG.up (xz (r := 1) (k := 14) (by decide : xrg 1 14 = 0)) (xpn (c := 0) (by decide : xcl 1 14 = 0) (by decide))
  rw [← est4] at hP
  have hB : CBt B g m st4 := ⟨by show st4 1 1 = _; rw [est4, up2_ne (r := 1) (k := 14) (a := 1) (j := 1) _ _ (by omega), est3, up2_ne (r := 1) (k := 13) (a := 1) (j := 1) _ _ (by omega), est2, up2_ne (r := 1) (k := 3) (a := 1) (j := 1) _ _ (by omega), est1, up2_ne (r := 1) (k := 2) (a := 1) (j := 1) _ _ (by omega), ht], by show st4 1 2 = _; rw [est4, up2_ne (r := 1) (k := 14) (a := 1) (j := 2) _ _ (by omega), est3, up2_ne (r := 1) (k := 13) (a := 1) (j := 2) _ _ (by omega), est2, up2_ne (r := 1) (k := 3) (a := 1) (j := 2) _ _ (by omega), est1, up2_same, hm]; rfl, hg, by omega, fun j hj => ⟨by show st4 2 j = _; rw [est4, up2_ne (r := 1) (k := 14) (a := 2) (j := j) _ _ (by omega), est3, up2_ne (r := 1) (k := 13) (a := 2) (j := j) _ _ (by omega), est2, up2_ne (r := 1) (k := 3) (a := 2) (j := j) _ _ (by omega), est1, up2_ne (r := 1) (k := 2) (a := 2) (j := j) _ _ (by omega)]; exact (hbt j hj).1, (hbt j hj).2⟩⟩
  refine lv_aload_n hx hb dX8_open_20 rfl (lv_at hl 0 rfl) ?_
  refine va_callv (va_runV (As := []) (rest := []) ⟨hx, hb, hml, hown, hts⟩ (y_X8_step l dC dI ad E hEE A C nb _ hN st4 sl so B g m 0 hG.1 hO.1 hB (by show st4 1 3 = _; rw [est4, up2_ne (r := 1) (k := 14) (a := 1) (j := 3) _ _ (by omega), est3, up2_ne (r := 1) (k := 13) (a := 1) (j := 3) _ _ (by omega), est2, up2_same]; rfl) (Nat.zero_le _)) (cwV 0 hts gX8_open_X8_step rfl rfl rfl (by decide +kernel) ⟨Nat.le_of_ble_eq_true rfl, Nat.le_of_ble_eq_true rfl⟩) ⟨fun a U g mk q => ⟨q.1, xPre.blind hEE q.2⟩, va_recv hK hP (ci := 9) (q0 := 1) rfl (xw_is (r := 1) (by omega) (xc_fix (r := 1) (by omega))), fun U hU hW => ⟨rfl, xPre.of hEE hP hK hE hS hU hW⟩⟩ rfl rfl hl.1 rfl (lv_room (Nat.le_of_ble_eq_true rfl)) dX8_open_21 ⟨Nat.le_of_ble_eq_true rfl, Nat.le_of_ble_eq_true rfl⟩) hS (fun q _ h => XA.le hS.1 q h) (XA.le hS.1) (fun x t H locs ht hvm hw hB9 _ _ hS => ?_)
  have hP := xB.at ht hB9
  clear hB9 ht hvm
  obtain ⟨st6, sl7, so8⟩ := x
  obtain ⟨hGst6, hOst6, hFst6, hw⟩ := hw
  dsimp only at hGst6 hOst6 hFst6 hw
  have hO : OG ad [2, 3, 4] so so8 := hO.tr hOst6 (by decide)
  have hP : va_P (dC, dI) vwCl (xw A C nb st6 sl7 so8) _ := hP
  have hG : XG [1, 2, 3, 4, 5, 6, 7, 8, 9, 12, 13, 14, 15] st st6 := hG.tr hGst6 (by decide)
  have hT := hw
  have hp9 := hT.2.2.2.2.2.2
  have hk1 := tkd_lt (B := B) (g := g) (m := m) (p := 0)
  have hk2 := tkx_le (B := B) (g := g) (m := m) (p := 0) hp9
  have hk3 := tka_le (B := B) (g := g) (m := m) (p := 0) hp9 hB.2.2.1
  have hk4 := tkv_ltc (p := 0) hB hp9
  have hk5 := tkw_lt (B := B) (g := g) (m := m) (p := 0)
  have hhi : ∀ r k, 36 ≤ r → st6 r k = st r k ∧ sl7 r k = sl r k := fun r k hr => ⟨((FX.hi hFst6 (by omega) r k hr).1).trans (by rw [est4, up2_ne (r := 1) (k := 14) (a := r) (j := k) _ _ (by omega), est3, up2_ne (r := 1) (k := 13) (a := r) (j := k) _ _ (by omega), est2, up2_ne (r := 1) (k := 3) (a := r) (j := k) _ _ (by omega), est1, up2_ne (r := 1) (k := 2) (a := r) (j := k) _ _ (by omega)]), (FX.hi hFst6 (by omega) r k hr).2⟩
  have hB7 := CBt.fr hB hFst6
  have h13 : st6 1 13 = 0 := by rw [(hFst6 1 13 (by decide)).1, est4, up2_ne (r := 1) (k := 14) (a := 1) (j := 13) _ _ (by omega), est3, up2_same]
  subst hm
  exact W.vret hx hb hr (fun t ht hW => ⟨⟨(st6, sl7, so8), rfl, ⟨hG, hO, ⟨hB7, hT, h13, hhi⟩⟩, xB.of ht hP⟩, hS.F ht⟩) hS.2.2 dX8_open_24
