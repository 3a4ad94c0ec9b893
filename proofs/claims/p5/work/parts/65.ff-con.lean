set_option maxHeartbeats 4000000 in
set_option maxRecDepth 100000 in
theorem y_X5_readDog (l : Launch) (dC : Nat → ClassId) (dI : Nat → Nat → Nat) (ad : Nat → Nat) (E : EP) (hEE : EC ad E) (A : Nat → Nat) (C : Nat → ClassId) (nb sz : Nat) (hN : XN A) (st : Nat → Nat → Int32) (sl : Nat → Nat → Int64) (so : Nat → XR) (B : Nat → Nat) (g m : Nat) (p : Nat) (c : Nat → Nat) (nm : Nat → Nat → Nat) (hI : XI st) (hOI : OI ad so) (hB : CBt B g m st) (hT : TC B g m p ad st sl so) (hR : PT c nm st sl) (hw : tkw B g m p = 3) : Met l yX5_readDog wsX5_readDog ({ frames := 7, cells := 0, slots := 0, locals := 152 }) (va_Pc [.ref (A 3), .ref (A 1), .ref (A (36 + 20 * 1))] (xPre E dC dI A C nb sz st sl so)) (va_Qi (fun (r : Int32) (x : XT) => XG [1, 2, 3, 4, 5, 6, 8, 9, 12, 13, 14, 15] st x.1 ∧ OG ad [2, 3, 4] so x.2.2 ∧ FX 4 st sl so x.1 x.2.1 x.2.2 ∧ ((∃ c1 : Nat → Nat, ∃ n1 : Nat → Nat → Nat, ∃ q : Nat, r = 1 ∧ PT c1 n1 x.1 x.2.1 ∧ TC B g m q ad x.1 x.2.1 x.2.2 ∧ x.1 1 13 = st 1 13 ∧ c1 0 + c1 1 + c1 2 + c1 3 + c1 4 = c 0 + c 1 + c 2 + c 3 + c 4 + 1 ∧ lDog B g m p c nm = (0, q, c1, n1)) ∨ (∃ f : Nat, ∃ a : Nat, r = 0 ∧ x.1 1 13 = nI f ∧ x.1 1 14 = nI a ∧ (1 ≤ f ∧ f < 9) ∧ lDog B g m p c nm = fl f a))) (xB dC dI A C nb) (XA A sz)) 0 0 (XA A sz) := by
  refine Met.ofW (cc := cX5_readDog) (maxL := 6) (ret := (some .boolean)) (by decide) rfl ?_
  intro p9 e s m9 args below meth c9 s₁ B9 hml hv
  obtain ⟨rfl, hsz, hP, hK, hE⟩ := hv
  have hx := B9.exec
  have hb := B9.bytes
  have hr := B9.returns
  have hts := atoms_spec (ws := wsX5_readDog) B9.pre
  have hown : s.vm.findClass RX5 = some m9.cls := findClass_of_methodNamed B9.named
  subst hsz
  have hEv := hEE.1 _ _ _ hE
  have hS : va_S (XA A s.heap.size) s.heap s.heap [] := va_S.rf
  have hG : XG [1, 2, 3, 4, 5, 6, 8, 9, 12, 13, 14, 15] st st := XG.rf hI
  have hO : OG ad [2, 3, 4] so so := OG.rf hOI
  have hl := lv_entry ([.ref (A 3), .ref (A 1), .ref (A (36 + 20 * 1))]) (n := 6) (Nat.le_of_ble_eq_true rfl)
  rw [lg_entry_eq]
  generalize (lg_sl ([.ref (A 3), .ref (A 1), .ref (A (36 + 20 * 1))]) ++ List.replicate (6 - (lg_sl ([.ref (A 3), .ref (A 1), .ref (A (36 + 20 * 1))])).length) Slot.unset).toArray = ls at hl ⊢
  have hl : lv_has ls 6 [(0, .ref (A 3)), (1, .ref (A 1)), (2, .ref (A (36 + 20 * 1)))] := hl
  have hB1 := hB.2.2.1
  have hB2 := hB.2.2.2.1
  have hF : FX 4 st sl so st sl so := FX.rf
  have hp9 := hT.2.2.2.2.2.2
  have hk1 := tkd_lt (B := B) (g := g) (m := m) (p := p)
  have hk2 := tkx_le (B := B) (g := g) (m := m) (p := p) hp9
  have hk3 := tka_le (B := B) (g := g) (m := m) (p := p) hp9 hB.2.2.1
  have hk4 := tkv_ltc (p := p) hB hp9
  have hk5 := tkw_lt (B := B) (g := g) (m := m) (p := p)
  have hR9 := hR.2.2.2.2.2.1
  refine lv_aload_n hx hb dX5_readDog_0 rfl (lv_at hl 2 rfl) ?_
  refine va_getN (host := "OffTheLead") (D := (dC, dI)) (ci := 5) (v := .int (st (36 + 20 * 1) 7)) (C := RX4) (T := TX4) (N := 12) hx hb hts ii_X5_readDog_X4 hown hK hP (36 + 20 * 1) (xw_is (r := (36 + 20 * 1)) (by omega) (xc_pk (i := 1) (o := 0) (by omega) (by omega))) rfl 7 (by decide) (va_Nw.use rfl (nf_X5_132 hEv)) (fun _ hh => hh) rfl dX5_readDog_1 ?_
  refine zz_top (v := (nI (c 2))) (by show st (36 + 20 * 1) 7 = _; rw [hR.2.2.1]) ?_
  refine lv_bipush (v := 6) hx hb dX5_readDog_4 (by decide) ?_
  refine lv_icmp_lt (tgt := 15) hx hb dX5_readDog_6 (by decide) (fun c1 => ?_) (fun c1 => ?_)
  · have c1 : (c 2) < 6 := (nI_ltI (a := (c 2)) (b := 6) (by omega) (by omega)).mp c1
    refine lv_aload_n hx hb dX5_readDog_15 rfl (lv_at hl 1 rfl) ?_
    refine va_callv (va_runV (As := []) (rest := []) ⟨hx, hb, hml, hown, hts⟩ (y_X8_step l dC dI ad E hEE A C nb _ hN st sl so B g m (tkx B g m p) hG.1 hO.1 (CBt.fr hB hF) hT.1 hk2.2) (cwV 0 hts gX5_readDog_X8_step rfl rfl rfl (by decide +kernel) ⟨Nat.le_of_ble_eq_true rfl, Nat.le_of_ble_eq_true rfl⟩) ⟨fun a U g mk q => ⟨q.1, xPre.blind hEE q.2⟩, va_recv hK hP (ci := 9) (q0 := 1) rfl (xw_is (r := 1) (by omega) (xc_fix (r := 1) (by omega))), fun U hU hW => ⟨rfl, xPre.of hEE hP hK hE hS hU hW⟩⟩ rfl rfl hl.1 rfl (lv_room (Nat.le_of_ble_eq_true rfl)) dX5_readDog_16 ⟨Nat.le_of_ble_eq_true rfl, Nat.le_of_ble_eq_true rfl⟩) hS (fun q _ h => XA.le hS.1 q h) (XA.le hS.1) (fun x t H locs ht hvm hw hB9 _ _ hS => ?_)
    have hP := xB.at ht hB9
    clear hB9 ht hvm
    obtain ⟨st2, sl3, so4⟩ := x
    obtain ⟨hGst2, hOst2, hFst2, hw⟩ := hw
    dsimp only at hGst2 hOst2 hFst2 hw
    have hO : OG ad [2, 3, 4] so so4 := hO.tr hOst2 (by decide)
    have hP : va_P (dC, dI) vwCl (xw A C nb st2 sl3 so4) _ := hP
    have hG : XG [1, 2, 3, 4, 5, 6, 8, 9, 12, 13, 14, 15] st st2 := hG.tr hGst2 (by decide)
    have hF : FX 4 st sl so st2 sl3 so4 := hF.tr hFst2 (by omega) (by omega)
    have hR : PT c nm st2 sl3 := hR.fr hFst2 (by omega)
    have hT := hw
    have hp9 := hT.2.2.2.2.2.2
    have hk1 := tkd_lt (B := B) (g := g) (m := m) (p := (tkx B g m p))
    have hk2 := tkx_le (B := B) (g := g) (m := m) (p := (tkx B g m p)) hp9
    have hk3 := tka_le (B := B) (g := g) (m := m) (p := (tkx B g m p)) hp9 hB.2.2.1
    have hk4 := tkv_ltc (p := (tkx B g m p)) hB hp9
    have hk5 := tkw_lt (B := B) (g := g) (m := m) (p := (tkx B g m p))
    refine lv_aload_n hx hb dX5_readDog_19 rfl (lv_at hl 1 rfl) ?_
    refine lv_aload_n hx hb dX5_readDog_20 rfl (lv_at hl 2 rfl) ?_
    refine va_calli (va_runV (As := [.ref (A (36 + 20 * 1))]) (rest := []) ⟨hx, hb, hml, hown, hts⟩ (y_X8_takeNewName l dC dI ad E hEE A C nb _ hN st2 sl3 so4 B g m (tkx B g m p) c nm hG.1 hO.1 (CBt.fr hB hF) hT hR) (cwV 1 hts gX5_readDog_X8_takeNewName rfl rfl rfl (by decide +kernel) ⟨Nat.le_of_ble_eq_true rfl, Nat.le_of_ble_eq_true rfl⟩) ⟨fun a U g mk q => ⟨q.1, xPre.blind hEE q.2⟩, va_recv hK hP (ci := 9) (q0 := 1) rfl (xw_is (r := 1) (by omega) (xc_fix (r := 1) (by omega))), fun U hU hW => ⟨rfl, xPre.of hEE hP hK hE hS hU hW⟩⟩ rfl rfl hl.1 rfl (lv_room (Nat.le_of_ble_eq_true rfl)) dX5_readDog_21 ⟨Nat.le_of_ble_eq_true rfl, Nat.le_of_ble_eq_true rfl⟩) hS (fun q _ h => XA.le hS.1 q h) (XA.le hS.1) (fun r5 x t H locs ht hvm hw hB9 _ _ hS => ?_)
    have hP := xB.at ht hB9
    clear hB9 ht hvm
    obtain ⟨st6, sl7, so8⟩ := x
    obtain ⟨hGst6, hOst6, hFst6, hw⟩ := hw
    dsimp only at hGst6 hOst6 hFst6 hw
    have hO : OG ad [2, 3, 4] so so8 := hO.tr hOst6 (by decide)
    have hP : va_P (dC, dI) vwCl (xw A C nb st6 sl7 so8) _ := hP
    have hG : XG [1, 2, 3, 4, 5, 6, 8, 9, 12, 13, 14, 15] st st6 := hG.tr hGst6 (by decide)
    have hF : FX 4 st sl so st6 sl7 so8 := hF.tr hFst6 (by omega) (by omega)
    have hR : PT c nm st6 sl7 := hR.fr hFst6 (by omega)
    rcases hw with ⟨rfl, hf9, hN9, hf10, hT, hf11, hf12⟩ | ⟨n13, n14, rfl, hf15, hf16, hf17, hf18⟩
    · have hp9 := hT.2.2.2.2.2.2
      have hk1 := tkd_lt (B := B) (g := g) (m := m) (p := (tkx B g m (tkx B g m p)))
      have hk2 := tkx_le (B := B) (g := g) (m := m) (p := (tkx B g m (tkx B g m p))) hp9
      have hk3 := tka_le (B := B) (g := g) (m := m) (p := (tkx B g m (tkx B g m p))) hp9 hB.2.2.1
      have hk4 := tkv_ltc (p := (tkx B g m (tkx B g m p))) hB hp9
      have hk5 := tkw_lt (B := B) (g := g) (m := m) (p := (tkx B g m (tkx B g m p)))
      refine lv_if_eq (tgt := 36) hx hb dX5_readDog_24 (by decide) (fun cc => absurd cc (by decide)) (fun _ => ?_)
      refine lv_aload_n hx hb dX5_readDog_27 rfl (lv_at hl 1 rfl) ?_
      refine lv_aload_n hx hb dX5_readDog_28 rfl (lv_at hl 2 rfl) ?_
      refine lv_iconst (v := 1) hx hb dX5_readDog_29 (by decide) ?_
      refine va_calli (va_runV (As := [.ref (A (36 + 20 * 1)), .int 1]) (rest := []) ⟨hx, hb, hml, hown, hts⟩ (y_takeNamed1 l dC dI ad E hEE A C nb _ hN st6 sl7 so8 B g m (tkx B g m (tkx B g m p)) c nm hG.1 hO.1 (CBt.fr hB hF) hT hR) (cwV 2 hts gX5_readDog_X8_takeNamed rfl rfl rfl (by decide +kernel) ⟨Nat.le_of_ble_eq_true rfl, Nat.le_of_ble_eq_true rfl⟩) ⟨fun a U g mk q => ⟨q.1, xPre.blind hEE q.2⟩, va_recv hK hP (ci := 9) (q0 := 1) rfl (xw_is (r := 1) (by omega) (xc_fix (r := 1) (by omega))), fun U hU hW => ⟨rfl, xPre.of hEE hP hK hE hS hU hW⟩⟩ rfl rfl hl.1 rfl (lv_room (Nat.le_of_ble_eq_true rfl)) dX5_readDog_30 ⟨Nat.le_of_ble_eq_true rfl, Nat.le_of_ble_eq_true rfl⟩) hS (fun q _ h => XA.le hS.1 q h) (XA.le hS.1) (fun r19 x t H locs ht hvm hw hB9 _ _ hS => ?_)
      have hP := xB.at ht hB9
      clear hB9 ht hvm
      obtain ⟨st20, sl21, so22⟩ := x
      obtain ⟨hGst20, hOst20, hFst20, hw⟩ := hw
      dsimp only at hGst20 hOst20 hFst20 hw
      have hO : OG ad [2, 3, 4] so so22 := hO.tr hOst20 (by decide)
      have hP : va_P (dC, dI) vwCl (xw A C nb st20 sl21 so22) _ := hP
      have hG : XG [1, 2, 3, 4, 5, 6, 8, 9, 12, 13, 14, 15] st st20 := hG.tr hGst20 (by decide)
      have hF : FX 4 st sl so st20 sl21 so22 := hF.tr hFst20 (by omega) (by omega)
      have hR : PT c nm st20 sl21 := hR.fr hFst20 (by omega)
      have hN9 : sl21 1 10 = lN (tkc B g (tkx B g m p)) := by rw [(hFst20 1 10 (by decide)).2.1]; exact hN9
      rcases hw with ⟨n23, rfl, hf24, hf25, hT, hf26, hf27⟩ | ⟨n28, n29, rfl, hf30, hf31, hf32, hf33⟩
      · have hp9 := hT.2.2.2.2.2.2
        have hk1 := tkd_lt (B := B) (g := g) (m := m) (p := (tkx B g m (tkx B g m (tkx B g m p))))
        have hk2 := tkx_le (B := B) (g := g) (m := m) (p := (tkx B g m (tkx B g m (tkx B g m p)))) hp9
        have hk3 := tka_le (B := B) (g := g) (m := m) (p := (tkx B g m (tkx B g m (tkx B g m p)))) hp9 hB.2.2.1
        have hk4 := tkv_ltc (p := (tkx B g m (tkx B g m (tkx B g m p)))) hB hp9
        have hk5 := tkw_lt (B := B) (g := g) (m := m) (p := (tkx B g m (tkx B g m (tkx B g m p))))
        refine lv_if_ne (tgt := 38) hx hb dX5_readDog_33 (by decide) (fun _ => ?_) (fun cc => absurd cc (by decide))
        refine lv_aload_n hx hb dX5_readDog_38 rfl (lv_at hl 1 rfl) ?_
        refine va_getN (host := "OffTheLead") (D := (dC, dI)) (ci := 9) (v := .int (st20 1 9)) (C := RX8) (T := TX8) (N := 15) hx hb hts ii_X5_readDog_X8 hown hK hP 1 (xw_is (r := 1) (by omega) (xc_fix (r := 1) (by omega))) rfl 9 (by decide) (va_Nw.use rfl (nf_X5_101 hEv)) (fun _ hh => hh) rfl dX5_readDog_39 ?_
        refine zz_top (v := (nI n23)) (by show st20 1 9 = _; rw [hf25]) ?_
        refine lv_istore_n (lv' := [(3, .int (nI n23)), (0, .ref (A 3)), (1, .ref (A 1)), (2, .ref (A (36 + 20 * 1)))]) hx hb dX5_readDog_42 rfl hl (by decide) rfl (fun ls hl => ?_)
        refine lv_aload_n hx hb dX5_readDog_43 rfl (lv_at hl 2 rfl) ?_
        refine lv_iconst (v := 0) hx hb dX5_readDog_44 (by decide) ?_
        refine lv_bipush (v := 12) hx hb dX5_readDog_45 (by decide) ?_
        refine va_calli (va_runV (As := [.int 0, .int 12]) (rest := []) ⟨hx, hb, hml, hown, hts⟩ (y_X8_takeNumber l dC dI ad E hEE A C nb _ hN st20 sl21 so22 0 12 B g m (tkx B g m (tkx B g m (tkx B g m p))) (by omega) (by omega) hG.1 hO.1 (CBt.fr hB hF) hT) (cwV 2 hts gX5_readDog_X8_takeNumber rfl rfl rfl (by decide +kernel) ⟨Nat.le_of_ble_eq_true rfl, Nat.le_of_ble_eq_true rfl⟩) ⟨fun a U g mk q => ⟨q.1, xPre.blind hEE q.2⟩, va_recv hK hP (ci := 9) (q0 := 1) rfl (xw_is (r := 1) (by omega) (xc_fix (r := 1) (by omega))), fun U hU hW => ⟨rfl, xPre.of hEE hP hK hE hS hU hW⟩⟩ rfl rfl hl.1 rfl (lv_room (Nat.le_of_ble_eq_true rfl)) dX5_readDog_47 ⟨Nat.le_of_ble_eq_true rfl, Nat.le_of_ble_eq_true rfl⟩) hS (fun q _ h => XA.le hS.1 q h) (XA.le hS.1) (fun r34 x t H locs ht hvm hw hB9 _ _ hS => ?_)
        have hP := xB.at ht hB9
        clear hB9 ht hvm
        obtain ⟨st35, sl36, so37⟩ := x
        obtain ⟨hGst35, hOst35, hFst35, hw⟩ := hw
        dsimp only at hGst35 hOst35 hFst35 hw
        have hO : OG ad [2, 3, 4] so so37 := hO.tr hOst35 (by decide)
        have hP : va_P (dC, dI) vwCl (xw A C nb st35 sl36 so37) _ := hP
        have hG : XG [1, 2, 3, 4, 5, 6, 8, 9, 12, 13, 14, 15] st st35 := hG.tr hGst35 (by decide)
        have hF : FX 4 st sl so st35 sl36 so37 := hF.tr hFst35 (by omega) (by omega)
        have hR : PT c nm st35 sl36 := hR.fr hFst35 (by omega)
        have hN9 : sl36 1 10 = lN (tkc B g (tkx B g m p)) := by rw [(hFst35 1 10 (by decide)).2.1]; exact hN9
        rcases hw with ⟨rfl, hf38, hf39, hf40, hT, hf41, hf42⟩ | ⟨n43, n44, rfl, hf45, hf46, hf47, hf48⟩
        · have hp9 := hT.2.2.2.2.2.2
          have hk1 := tkd_lt (B := B) (g := g) (m := m) (p := (tkx B g m (tkx B g m (tkx B g m (tkx B g m p)))))
          have hk2 := tkx_le (B := B) (g := g) (m := m) (p := (tkx B g m (tkx B g m (tkx B g m (tkx B g m p))))) hp9
          have hk3 := tka_le (B := B) (g := g) (m := m) (p := (tkx B g m (tkx B g m (tkx B g m (tkx B g m p))))) hp9 hB.2.2.1
          have hk4 := tkv_ltc (p := (tkx B g m (tkx B g m (tkx B g m (tkx B g m p))))) hB hp9
          have hk5 := tkw_lt (B := B) (g := g) (m := m) (p := (tkx B g m (tkx B g m (tkx B g m (tkx B g m p)))))
          refine lv_if_ne (tgt := 55) hx hb dX5_readDog_50 (by decide) (fun _ => ?_) (fun cc => absurd cc (by decide))
          refine lv_aload_n hx hb dX5_readDog_55 rfl (lv_at hl 2 rfl) ?_
          refine va_getN (host := "OffTheLead") (D := (dC, dI)) (ci := 9) (v := .int (st35 1 9)) (C := RX8) (T := TX8) (N := 15) hx hb hts ii_X5_readDog_X8 hown hK hP 1 (xw_is (r := 1) (by omega) (xc_fix (r := 1) (by omega))) rfl 9 (by decide) (va_Nw.use rfl (nf_X5_101 hEv)) (fun _ hh => hh) rfl dX5_readDog_56 ?_
          refine zz_top (v := (nI (tkv B g (tkx B g m (tkx B g m (tkx B g m p)))))) (by show st35 1 9 = _; rw [hf40]) ?_
          refine lv_istore (lv' := [(4, .int (nI (tkv B g (tkx B g m (tkx B g m (tkx B g m p)))))), (3, .int (nI n23)), (0, .ref (A 3)), (1, .ref (A 1)), (2, .ref (A (36 + 20 * 1)))]) hx hb dX5_readDog_59 hl (by decide) rfl (fun ls hl => ?_)
          refine lv_aload_n hx hb dX5_readDog_61 rfl (lv_at hl 3 rfl) ?_
          refine lv_iconst (v := 0) hx hb dX5_readDog_62 (by decide) ?_
          refine lv_bipush (v := 12) hx hb dX5_readDog_63 (by decide) ?_
          refine va_calli (va_runV (As := [.int 0, .int 12]) (rest := []) ⟨hx, hb, hml, hown, hts⟩ (y_X8_takeNumber l dC dI ad E hEE A C nb _ hN st35 sl36 so37 0 12 B g m (tkx B g m (tkx B g m (tkx B g m (tkx B g m p)))) (by omega) (by omega) hG.1 hO.1 (CBt.fr hB hF) hT) (cwV 2 hts gX5_readDog_X8_takeNumber rfl rfl rfl (by decide +kernel) ⟨Nat.le_of_ble_eq_true rfl, Nat.le_of_ble_eq_true rfl⟩) ⟨fun a U g mk q => ⟨q.1, xPre.blind hEE q.2⟩, va_recv hK hP (ci := 9) (q0 := 1) rfl (xw_is (r := 1) (by omega) (xc_fix (r := 1) (by omega))), fun U hU hW => ⟨rfl, xPre.of hEE hP hK hE hS hU hW⟩⟩ rfl rfl hl.1 rfl (lv_room (Nat.le_of_ble_eq_true rfl)) dX5_readDog_65 ⟨Nat.le_of_ble_eq_true rfl, Nat.le_of_ble_eq_true rfl⟩) hS (fun q _ h => XA.le hS.1 q h) (XA.le hS.1) (fun r49 x t H locs ht hvm hw hB9 _ _ hS => ?_)
          have hP := xB.at ht hB9
          clear hB9 ht hvm
          obtain ⟨st50, sl51, so52⟩ := x
          obtain ⟨hGst50, hOst50, hFst50, hw⟩ := hw
          dsimp only at hGst50 hOst50 hFst50 hw
          have hO : OG ad [2, 3, 4] so so52 := hO.tr hOst50 (by decide)
          have hP : va_P (dC, dI) vwCl (xw A C nb st50 sl51 so52) _ := hP
          have hG : XG [1, 2, 3, 4, 5, 6, 8, 9, 12, 13, 14, 15] st st50 := hG.tr hGst50 (by decide)
          have hF : FX 4 st sl so st50 sl51 so52 := hF.tr hFst50 (by omega) (by omega)
          have hR : PT c nm st50 sl51 := hR.fr hFst50 (by omega)
          have hN9 : sl51 1 10 = lN (tkc B g (tkx B g m p)) := by rw [(hFst50 1 10 (by decide)).2.1]; exact hN9
          rcases hw with ⟨rfl, hf53, hf54, hf55, hT, hf56, hf57⟩ | ⟨n58, n59, rfl, hf60, hf61, hf62, hf63⟩
          · have hp9 := hT.2.2.2.2.2.2
            have hk1 := tkd_lt (B := B) (g := g) (m := m) (p := (tkx B g m (tkx B g m (tkx B g m (tkx B g m (tkx B g m p))))))
            have hk2 := tkx_le (B := B) (g := g) (m := m) (p := (tkx B g m (tkx B g m (tkx B g m (tkx B g m (tkx B g m p)))))) hp9
            have hk3 := tka_le (B := B) (g := g) (m := m) (p := (tkx B g m (tkx B g m (tkx B g m (tkx B g m (tkx B g m p)))))) hp9 hB.2.2.1
            have hk4 := tkv_ltc (p := (tkx B g m (tkx B g m (tkx B g m (tkx B g m (tkx B g m p)))))) hB hp9
            have hk5 := tkw_lt (B := B) (g := g) (m := m) (p := (tkx B g m (tkx B g m (tkx B g m (tkx B g m (tkx B g m p))))))
            refine lv_if_ne (tgt := 73) hx hb dX5_readDog_68 (by decide) (fun _ => ?_) (fun cc => absurd cc (by decide))
            refine lv_aload_n hx hb dX5_readDog_73 rfl (lv_at hl 4 rfl) ?_
            refine lv_aload_n hx hb dX5_readDog_74 rfl (lv_at hl 3 rfl) ?_
            refine va_getN (host := "OffTheLead") (D := (dC, dI)) (ci := 9) (v := .long (sl51 1 10)) (C := RX8) (T := TX8) (N := 15) hx hb hts ii_X5_readDog_X8 hown hK hP 1 (xw_is (r := 1) (by omega) (xc_fix (r := 1) (by omega))) rfl 10 (by decide) (va_Nw.use rfl (nf_X5_83 hEv)) (fun _ hh => hh) rfl dX5_readDog_75 ?_
            refine lv_topl (fun z64 ez64 => ?_)
            refine lv_iload_n hx hb dX5_readDog_78 rfl (lv_at hl 1 rfl) ?_
            refine va_callr (va_runV (As := [.long z64, .int (nI n23)]) (rest := []) ⟨hx, hb, hml, hown, hts⟩ (y_X4_addDog l dC dI ad E hEE A C nb _ hN st50 sl51 so52 z64 n23 B g m (tkx B g m (tkx B g m (tkx B g m (tkx B g m (tkx B g m p))))) c nm (tkc B g (tkx B g m p)) (by omega) hG.1 hO.1 (CBt.fr hB hF) hT hR (by rw [ez64]; exact hN9) (hf10) (by omega)) (cwV 2 hts gX5_readDog_X4_addDog rfl rfl rfl (by decide +kernel) ⟨Nat.le_of_ble_eq_true rfl, Nat.le_of_ble_eq_true rfl⟩) ⟨fun a U g mk q => ⟨q.1, xPre.blind hEE q.2⟩, va_recv hK hP (ci := 5) (q0 := (36 + 20 * 1)) rfl (xw_is (r := (36 + 20 * 1)) (by omega) (xc_pk (i := 1) (o := 0) (by omega) (by omega))), fun U hU hW => ⟨rfl, xPre.of hEE hP hK hE hS hU hW⟩⟩ rfl rfl hl.1 rfl (lv_room (Nat.le_of_ble_eq_true rfl)) dX5_readDog_79 ⟨Nat.le_of_ble_eq_true rfl, Nat.le_of_ble_eq_true rfl⟩) hS (fun q _ h => XA.le hS.1 q h) (XA.le hS.1) (fun x r65 t H locs ht hvm hw hB9 _ _ hS => ?_)
            obtain ⟨hw, hB9⟩ := hB9
            have hP := xB.at ht hB9
            clear hB9 ht hvm
            obtain ⟨st66, sl67, so68⟩ := x
            obtain ⟨hGst66, hOst66, hFst66, hw⟩ := hw
            dsimp only at hGst66 hOst66 hFst66 hw
            have hO : OG ad [2, 3, 4] so so68 := hO.tr hOst66 (by decide)
            have hP : va_P (dC, dI) vwCl (xw A C nb st66 sl67 so68) _ := hP
            have hG : XG [1, 2, 3, 4, 5, 6, 8, 9, 12, 13, 14, 15] st st66 := hG.tr hGst66 (by decide)
            have hF : FX 4 st sl so st66 sl67 so68 := hF.tr hFst66 (by omega) (by omega)
            obtain ⟨rfl, hR, hT, hf69⟩ := hw
            have hp9 := hT.2.2.2.2.2.2
            have hk1 := tkd_lt (B := B) (g := g) (m := m) (p := (tkx B g m (tkx B g m (tkx B g m (tkx B g m (tkx B g m p))))))
            have hk2 := tkx_le (B := B) (g := g) (m := m) (p := (tkx B g m (tkx B g m (tkx B g m (tkx B g m (tkx B g m p)))))) hp9
            have hk3 := tka_le (B := B) (g := g) (m := m) (p := (tkx B g m (tkx B g m (tkx B g m (tkx B g m (tkx B g m p)))))) hp9 hB.2.2.1
            have hk4 := tkv_ltc (p := (tkx B g m (tkx B g m (tkx B g m (tkx B g m (tkx B g m p)))))) hB hp9
            have hk5 := tkw_lt (B := B) (g := g) (m := m) (p := (tkx B g m (tkx B g m (tkx B g m (tkx B g m (tkx B g m p))))))
            refine lv_astore (lv' := [(5, .ref (A (36 + 20 * 1 + (14 + c 2)))), (4, .int (nI (tkv B g (tkx B g m (tkx B g m (tkx B g m p)))))), (3, .int (nI n23)), (0, .ref (A 3)), (1, .ref (A 1)), (2, .ref (A (36 + 20 * 1)))]) hx hb dX5_readDog_82 hl (by decide) rfl (fun ls hl => ?_)
            refine lv_aload hx hb dX5_readDog_84 (lv_at hl 0 rfl) ?_
            refine lv_iload hx hb dX5_readDog_86 (lv_at hl 1 rfl) ?_
            refine va_putN (host := "OffTheLead") (D := (dC, dI)) (ci := 3) (v := .int (nI (tkv B g (tkx B g m (tkx B g m (tkx B g m p)))))) (ty := .int) (C := RX2) (T := TX2) (N := 7) hx hb hts ii_X5_readDog_X2 tyX2 tyX2_ok nmX2 hown hK hP (xD hN _ _ _ _ _ _) hS (36 + 20 * 1 + (14 + c 2)) (xw_is (r := (36 + 20 * 1 + (14 + c 2))) (by omega) (xc_dog (i := 1) (p := c 2) (by omega) (by omega))) rfl 2 (by decide) (va_Nw.use rfl (nf_X5_139 hEv)) (fun _ hh => hh) rfl (by decide +kernel) rfl rfl (Nat.le_of_ble_eq_true rfl) dX5_readDog_88 (fun H locs hP _ hS => ?_)
            have hP : va_P (dC, dI) vwCl (xw A C nb (up2 st66 (36 + 20 * 1 + (14 + c 2)) 2 (nI (tkv B g (tkx B g m (tkx B g m (tkx B g m p)))))) sl67 so68) H := by rw [← xset (r := (36 + 20 * 1 + (14 + c 2))) (k := 2) (v := (nI (tkv B g (tkx B g m (tkx B g m (tkx B g m p)))))) (xc_dog (i := 1) (p := c 2) (by omega) (by omega))]; exact hP
            obtain ⟨st70, est70⟩ : ∃ y, y = up2 st66 (36 + 20 * 1 + (14 + c 2)) 2 (nI (tkv B g (tkx B g m (tkx B g m (tkx B g m p))))) := ⟨_, rfl⟩
            have hG : XG [1, 2, 3, 4, 5, 6, 8, 9, 12, 13, 14, 15] st st70 := by rw [est70]; exact hG.up (xz (r := (36 + 20 * 1 + (14 + c 2))) (k := 2) ((xrg_do (i := 1) (p := c 2) (by omega)).trans (by decide))) (xpn (c := 0) (xcl_do (i := 1) (p := c 2) (k := 2) (by omega)) (by decide))
            rw [← est70] at hP
            have hF : FX 4 st sl so st70 sl67 so68 := by rw [est70]; exact hF.up (dc_pk (o := 14 + c 2) (by omega))
            have hT : TC B g m (tkx B g m (tkx B g m (tkx B g m (tkx B g m (tkx B g m p))))) ad st70 sl67 so68 := by rw [est70]; exact hT.up (by omega)
            have hR : PT (uN c 2 (c 2 + 1)) (uM nm 2 (c 2) (tkc B g (tkx B g m p))) st70 sl67 := by rw [est70]; exact hR.up (by omega)
            refine lv_aload hx hb dX5_readDog_91 (lv_at hl 0 rfl) ?_
            refine lv_aload_n hx hb dX5_readDog_93 rfl (lv_at hl 4 rfl) ?_
            refine va_getN (host := "OffTheLead") (D := (dC, dI)) (ci := 9) (v := .int (st70 1 9)) (C := RX8) (T := TX8) (N := 15) hx hb hts ii_X5_readDog_X8 hown hK hP 1 (xw_is (r := 1) (by omega) (xc_fix (r := 1) (by omega))) rfl 9 (by decide) (va_Nw.use rfl (nf_X5_101 hEv)) (fun _ hh => hh) rfl dX5_readDog_94 ?_
            obtain ⟨z71, ez71⟩ : ∃ y : Int32, st70 1 9 = y := ⟨_, rfl⟩
            refine zz_top (v := z71) (by exact ez71) ?_
            refine va_putN (host := "OffTheLead") (D := (dC, dI)) (ci := 3) (v := .int z71) (ty := .int) (C := RX2) (T := TX2) (N := 7) hx hb hts ii_X5_readDog_X2 tyX2 tyX2_ok nmX2 hown hK hP (xD hN _ _ _ _ _ _) hS (36 + 20 * 1 + (14 + c 2)) (xw_is (r := (36 + 20 * 1 + (14 + c 2))) (by omega) (xc_dog (i := 1) (p := c 2) (by omega) (by omega))) rfl 3 (by decide) (va_Nw.use rfl (nf_X5_144 hEv)) (fun _ hh => hh) rfl (by decide +kernel) rfl rfl (Nat.le_of_ble_eq_true rfl) dX5_readDog_97 (fun H locs hP _ hS => ?_)
            have hP : va_P (dC, dI) vwCl (xw A C nb (up2 st70 (36 + 20 * 1 + (14 + c 2)) 3 z71) sl67 so68) H := by rw [← xset (r := (36 + 20 * 1 + (14 + c 2))) (k := 3) (v := z71) (xc_dog (i := 1) (p := c 2) (by omega) (by omega))]; exact hP
            obtain ⟨st72, est72⟩ : ∃ y, y = up2 st70 (36 + 20 * 1 + (14 + c 2)) 3 z71 := ⟨_, rfl⟩
            have hG : XG [1, 2, 3, 4, 5, 6, 8, 9, 12, 13, 14, 15] st st72 := by rw [est72]; exact hG.up (xz (r := (36 + 20 * 1 + (14 + c 2))) (k := 3) ((xrg_do (i := 1) (p := c 2) (by omega)).trans (by decide))) (xpn (c := 0) (xcl_do (i := 1) (p := c 2) (k := 3) (by omega)) (by decide))
            rw [← est72] at hP
            have hF : FX 4 st sl so st72 sl67 so68 := by rw [est72]; exact hF.up (dc_pk (o := 14 + c 2) (by omega))
            have hT : TC B g m (tkx B g m (tkx B g m (tkx B g m (tkx B g m (tkx B g m p))))) ad st72 sl67 so68 := by rw [est72]; exact hT.up (by omega)
            have hR : PT (uN c 2 (c 2 + 1)) (uM nm 2 (c 2) (tkc B g (tkx B g m p))) st72 sl67 := by rw [est72]; exact hR.up (by omega)
            refine lv_aload_n hx hb dX5_readDog_100 rfl (lv_at hl 4 rfl) ?_
            refine lv_bipush (v := 59) hx hb dX5_readDog_101 (by decide) ?_
            refine va_calli (va_runV (As := [.int 59]) (rest := []) ⟨hx, hb, hml, hown, hts⟩ (y_X8_takeMark l dC dI ad E hEE A C nb _ hN st72 sl67 so68 B g m (tkx B g m (tkx B g m (tkx B g m (tkx B g m (tkx B g m p))))) hG.1 hO.1 (CBt.fr hB hF) hT) (cwV 1 hts gX5_readDog_X8_takeMark rfl rfl rfl (by decide +kernel) ⟨Nat.le_of_ble_eq_true rfl, Nat.le_of_ble_eq_true rfl⟩) ⟨fun a U g mk q => ⟨q.1, xPre.blind hEE q.2⟩, va_recv hK hP (ci := 9) (q0 := 1) rfl (xw_is (r := 1) (by omega) (xc_fix (r := 1) (by omega))), fun U hU hW => ⟨rfl, xPre.of hEE hP hK hE hS hU hW⟩⟩ rfl rfl hl.1 rfl (lv_room (Nat.le_of_ble_eq_true rfl)) dX5_readDog_103 ⟨Nat.le_of_ble_eq_true rfl, Nat.le_of_ble_eq_true rfl⟩) hS (fun q _ h => XA.le hS.1 q h) (XA.le hS.1) (fun r73 x t H locs ht hvm hw hB9 _ _ hS => ?_)
            have hP := xB.at ht hB9
            clear hB9 ht hvm
            obtain ⟨st74, sl75, so76⟩ := x
            obtain ⟨hGst74, hOst74, hFst74, hw⟩ := hw
            dsimp only at hGst74 hOst74 hFst74 hw
            have hO : OG ad [2, 3, 4] so so76 := hO.tr hOst74 (by decide)
            have hP : va_P (dC, dI) vwCl (xw A C nb st74 sl75 so76) _ := hP
            have hG : XG [1, 2, 3, 4, 5, 6, 8, 9, 12, 13, 14, 15] st st74 := hG.tr hGst74 (by decide)
            have hF : FX 4 st sl so st74 sl75 so76 := hF.tr hFst74 (by omega) (by omega)
            have hR : PT (uN c 2 (c 2 + 1)) (uM nm 2 (c 2) (tkc B g (tkx B g m p))) st74 sl75 := hR.fr hFst74 (by omega)
            rcases hw with ⟨rfl, hT, hf77, hf78⟩ | ⟨n79, n80, rfl, hf81, hf82, hf83, hf84⟩
            · have hp9 := hT.2.2.2.2.2.2
              have hk1 := tkd_lt (B := B) (g := g) (m := m) (p := (tkx B g m (tkx B g m (tkx B g m (tkx B g m (tkx B g m (tkx B g m p)))))))
              have hk2 := tkx_le (B := B) (g := g) (m := m) (p := (tkx B g m (tkx B g m (tkx B g m (tkx B g m (tkx B g m (tkx B g m p))))))) hp9
              have hk3 := tka_le (B := B) (g := g) (m := m) (p := (tkx B g m (tkx B g m (tkx B g m (tkx B g m (tkx B g m (tkx B g m p))))))) hp9 hB.2.2.1
              have hk4 := tkv_ltc (p := (tkx B g m (tkx B g m (tkx B g m (tkx B g m (tkx B g m (tkx B g m p))))))) hB hp9
              have hk5 := tkw_lt (B := B) (g := g) (m := m) (p := (tkx B g m (tkx B g m (tkx B g m (tkx B g m (tkx B g m (tkx B g m p)))))))
              exact W.zret (v := 1) hx hb hr rfl (fun t ht hW => ⟨⟨1, (st74, sl75, so76), rfl, ⟨hG, hO, hF, Or.inl (⟨(uN c 2 (c 2 + 1)), (uM nm 2 (c 2) (tkc B g (tkx B g m p))), (tkx B g m (tkx B g m (tkx B g m (tkx B g m (tkx B g m (tkx B g m p)))))), rfl, hR, hT, by show st74 1 13 = st 1 13; rw [hf77, est72, up2_ne (r := (36 + 20 * 1 + (14 + c 2))) (k := 3) (a := 1) (j := 13) _ _ (by omega), est70, up2_ne (r := (36 + 20 * 1 + (14 + c 2))) (k := 2) (a := 1) (j := 13) _ _ (by omega), hf69, hf56, hf41, hf26, hf11, (hFst2 1 13 (by decide)).1], uN_sum (a := 2) (by decide) rfl, by unfold lDog; rw [if_neg (by omega), hf12, hf27, hf42, hf57, hf78]⟩)⟩, xB.of ht hP⟩, hS.F ht⟩) hS.2.2 dX5_readDog_106
            · exact W.zret (v := 0) hx hb hr rfl (fun t ht hW => ⟨⟨0, (st74, sl75, so76), rfl, ⟨hG, hO, hF, Or.inr (⟨n79, n80, rfl, by show st74 1 13 = _; rw [hf81], by show st74 1 14 = _; rw [hf82], by omega, by unfold lDog; rw [if_neg (by omega), hf12, hf27, hf42, hf57, hf84]⟩)⟩, xB.of ht hP⟩, hS.F ht⟩) hS.2.2 dX5_readDog_106
          · refine lv_if_ne (tgt := 73) hx hb dX5_readDog_68 (by decide) (fun cc => absurd (by decide) cc) (fun _ => ?_)
            refine lv_iconst (v := 0) hx hb dX5_readDog_71 (by decide) ?_
            exact W.zret (v := 0) hx hb hr rfl (fun t ht hW => ⟨⟨0, (st50, sl51, so52), rfl, ⟨hG, hO, hF, Or.inr (⟨n58, n59, rfl, by show st50 1 13 = _; rw [hf60], by show st50 1 14 = _; rw [hf61], by omega, by unfold lDog; rw [if_neg (by omega), hf12, hf27, hf42, hf63]⟩)⟩, xB.of ht hP⟩, hS.F ht⟩) hS.2.2 dX5_readDog_72
        · refine lv_if_ne (tgt := 55) hx hb dX5_readDog_50 (by decide) (fun cc => absurd (by decide) cc) (fun _ => ?_)
          refine lv_iconst (v := 0) hx hb dX5_readDog_53 (by decide) ?_
          exact W.zret (v := 0) hx hb hr rfl (fun t ht hW => ⟨⟨0, (st35, sl36, so37), rfl, ⟨hG, hO, hF, Or.inr (⟨n43, n44, rfl, by show st35 1 13 = _; rw [hf45], by show st35 1 14 = _; rw [hf46], by omega, by unfold lDog; rw [if_neg (by omega), hf12, hf27, hf48]⟩)⟩, xB.of ht hP⟩, hS.F ht⟩) hS.2.2 dX5_readDog_54
      · refine lv_if_ne (tgt := 38) hx hb dX5_readDog_33 (by decide) (fun cc => absurd (by decide) cc) (fun _ => ?_)
        refine lv_iconst (v := 0) hx hb dX5_readDog_36 (by decide) ?_
        exact W.zret (v := 0) hx hb hr rfl (fun t ht hW => ⟨⟨0, (st20, sl21, so22), rfl, ⟨hG, hO, hF, Or.inr (⟨n28, n29, rfl, by show st20 1 13 = _; rw [hf30], by show st20 1 14 = _; rw [hf31], by omega, by unfold lDog; rw [if_neg (by omega), hf12, hf33]⟩)⟩, xB.of ht hP⟩, hS.F ht⟩) hS.2.2 dX5_readDog_37
    · refine lv_if_eq (tgt := 36) hx hb dX5_readDog_24 (by decide) (fun _ => ?_) (fun cc => absurd (by decide) cc)
      refine lv_iconst (v := 0) hx hb dX5_readDog_36 (by decide) ?_
      exact W.zret (v := 0) hx hb hr rfl (fun t ht hW => ⟨⟨0, (st6, sl7, so8), rfl, ⟨hG, hO, hF, Or.inr (⟨n13, n14, rfl, by show st6 1 13 = _; rw [hf15], by show st6 1 14 = _; rw [hf16], by omega, by unfold lDog; rw [if_neg (by omega), hf18]⟩)⟩, xB.of ht hP⟩, hS.F ht⟩) hS.2.2 dX5_readDog_37
  · have c1 : ¬ (c 2) < 6 := fun hh => c1 ((nI_ltI (a := (c 2)) (b := 6) (by omega) (by omega)).mpr hh)
    refine lv_aload_n hx hb dX5_readDog_9 rfl (lv_at hl 1 rfl) ?_
    refine lv_iconst (v := 4) hx hb dX5_readDog_10 (by decide) ?_
    refine va_calli (va_runV (As := [.int 4]) (rest := []) ⟨hx, hb, hml, hown, hts⟩ (y_X8_refuse l dC dI ad E hEE A C nb _ hN st sl so 4 B g m p (by omega) hG.1 hO.1 (CBt.fr hB hF) hT) (cwV 1 hts gX5_readDog_X8_refuse rfl rfl rfl (by decide +kernel) ⟨Nat.le_of_ble_eq_true rfl, Nat.le_of_ble_eq_true rfl⟩) ⟨fun a U g mk q => ⟨q.1, xPre.blind hEE q.2⟩, va_recv hK hP (ci := 9) (q0 := 1) rfl (xw_is (r := 1) (by omega) (xc_fix (r := 1) (by omega))), fun U hU hW => ⟨rfl, xPre.of hEE hP hK hE hS hU hW⟩⟩ rfl rfl hl.1 rfl (lv_room (Nat.le_of_ble_eq_true rfl)) dX5_readDog_11 ⟨Nat.le_of_ble_eq_true rfl, Nat.le_of_ble_eq_true rfl⟩) hS (fun q _ h => XA.le hS.1 q h) (XA.le hS.1) (fun r85 x t H locs ht hvm hw hB9 _ _ hS => ?_)
    have hP := xB.at ht hB9
    clear hB9 ht hvm
    obtain ⟨st86, sl87, so88⟩ := x
    obtain ⟨hGst86, hOst86, hFst86, hw⟩ := hw
    dsimp only at hGst86 hOst86 hFst86 hw
    have hO : OG ad [2, 3, 4] so so88 := hO.tr hOst86 (by decide)
    have hP : va_P (dC, dI) vwCl (xw A C nb st86 sl87 so88) _ := hP
    have hG : XG [1, 2, 3, 4, 5, 6, 8, 9, 12, 13, 14, 15] st st86 := hG.tr hGst86 (by decide)
    have hF : FX 4 st sl so st86 sl87 so88 := hF.tr hFst86 (by omega) (by omega)
    have hR : PT c nm st86 sl87 := hR.fr hFst86 (by omega)
    obtain ⟨rfl, hf89, hf90, hT⟩ := hw
    have hp9 := hT.2.2.2.2.2.2
    have hk1 := tkd_lt (B := B) (g := g) (m := m) (p := p)
    have hk2 := tkx_le (B := B) (g := g) (m := m) (p := p) hp9
    have hk3 := tka_le (B := B) (g := g) (m := m) (p := p) hp9 hB.2.2.1
    have hk4 := tkv_ltc (p := p) hB hp9
    have hk5 := tkw_lt (B := B) (g := g) (m := m) (p := p)
    exact W.zret (v := 0) hx hb hr rfl (fun t ht hW => ⟨⟨0, (st86, sl87, so88), rfl, ⟨hG, hO, hF, Or.inr (⟨4, (tka B g m p), rfl, by show st86 1 13 = _; rw [hf89], by show st86 1 14 = _; rw [hf90], by omega, by unfold lDog; rw [if_pos (by omega)]⟩)⟩, xB.of ht hP⟩, hS.F ht⟩) hS.2.2 dX5_readDog_14
set_option maxHeartbeats 4000000 in
set_option maxRecDepth 100000 in
theorem y_X5_readFree (l : Launch) (dC : Nat → ClassId) (dI : Nat → Nat → Nat) (ad : Nat → Nat) (E : EP) (hEE : EC ad E) (A : Nat → Nat) (C : Nat → ClassId) (nb sz : Nat) (hN : XN A) (st : Nat → Nat → Int32) (sl : Nat → Nat → Int64) (so : Nat → XR) (B : Nat → Nat) (g m : Nat) (p : Nat) (c : Nat → Nat) (nm : Nat → Nat → Nat) (hI : XI st) (hOI : OI ad so) (hB : CBt B g m st) (hT : TC B g m p ad st sl so) (hR : PT c nm st sl) (hw : tkw B g m p = 4) : Met l yX5_readFree wsX5_readFree ({ frames := 8, cells := 0, slots := 0, locals := 172 }) (va_Pc [.ref (A 3), .ref (A 1), .ref (A (36 + 20 * 1))] (xPre E dC dI A C nb sz st sl so)) (va_Qi (fun (r : Int32) (x : XT) => XG [1, 2, 3, 4, 5, 6, 8, 9, 12, 13, 14, 15] st x.1 ∧ OG ad [2, 3, 4] so x.2.2 ∧ FX 4 st sl so x.1 x.2.1 x.2.2 ∧ ((∃ c1 : Nat → Nat, ∃ n1 : Nat → Nat → Nat, ∃ q : Nat, r = 1 ∧ PT c1 n1 x.1 x.2.1 ∧ TC B g m q ad x.1 x.2.1 x.2.2 ∧ x.1 1 13 = st 1 13 ∧ c1 0 + c1 1 + c1 2 + c1 3 + c1 4 = c 0 + c 1 + c 2 + c 3 + c 4 + 1 ∧ lFree B g m p c nm = (0, q, c1, n1)) ∨ (∃ f : Nat, ∃ a : Nat, r = 0 ∧ x.1 1 13 = nI f ∧ x.1 1 14 = nI a ∧ (1 ≤ f ∧ f < 9) ∧ lFree B g m p c nm = fl f a))) (xB dC dI A C nb) (XA A sz)) 0 0 (XA A sz) := by
  refine Met.ofW (cc := cX5_readFree) (maxL := 4) (ret := (some .boolean)) (by decide) rfl ?_
  intro p9 e s m9 args below meth c9 s₁ B9 hml hv
  obtain ⟨rfl, hsz, hP, hK, hE⟩ := hv
  have hx := B9.exec
  have hb := B9.bytes
  have hr := B9.returns
  have hts := atoms_spec (ws := wsX5_readFree) B9.pre
  have hown : s.vm.findClass RX5 = some m9.cls := findClass_of_methodNamed B9.named
  subst hsz
  have hEv := hEE.1 _ _ _ hE
  have hS : va_S (XA A s.heap.size) s.heap s.heap [] := va_S.rf
  have hG : XG [1, 2, 3, 4, 5, 6, 8, 9, 12, 13, 14, 15] st st := XG.rf hI
  have hO : OG ad [2, 3, 4] so so := OG.rf hOI
  have hl := lv_entry ([.ref (A 3), .ref (A 1), .ref (A (36 + 20 * 1))]) (n := 4) (Nat.le_of_ble_eq_true rfl)
  rw [lg_entry_eq]
  generalize (lg_sl ([.ref (A 3), .ref (A 1), .ref (A (36 + 20 * 1))]) ++ List.replicate (4 - (lg_sl ([.ref (A 3), .ref (A 1), .ref (A (36 + 20 * 1))])).length) Slot.unset).toArray = ls at hl ⊢
  have hl : lv_has ls 4 [(0, .ref (A 3)), (1, .ref (A 1)), (2, .ref (A (36 + 20 * 1)))] := hl
  have hB1 := hB.2.2.1
  have hB2 := hB.2.2.2.1
  have hF : FX 4 st sl so st sl so := FX.rf
  have hp9 := hT.2.2.2.2.2.2
  have hk1 := tkd_lt (B := B) (g := g) (m := m) (p := p)
  have hk2 := tkx_le (B := B) (g := g) (m := m) (p := p) hp9
  have hk3 := tka_le (B := B) (g := g) (m := m) (p := p) hp9 hB.2.2.1
  have hk4 := tkv_ltc (p := p) hB hp9
  have hk5 := tkw_lt (B := B) (g := g) (m := m) (p := p)
  have hR9 := hR.2.2.2.2.2.1
  refine lv_aload_n hx hb dX5_readFree_0 rfl (lv_at hl 0 rfl) ?_
  refine va_get (D := (dC, dI)) (ci := 6) (v := .int (st 3 0)) (C := RX5) (T := TX5) (N := 2) hx hb hts ii_X5_readFree_X5 hown hK hP 3 (xw_is (r := 3) (by omega) (xc_fix (r := 3) (by omega))) rfl 0 (by decide) (hts _ mm_X5_readFree_1) (fun _ hh => hh) rfl dX5_readFree_1 ?_
  refine zz_top (v := (nI (c 3))) (by show st 3 0 = _; rw [hR.2.2.2.1]) ?_
  refine lv_bipush (v := 12) hx hb dX5_readFree_4 (by decide) ?_
  refine lv_icmp_lt (tgt := 15) hx hb dX5_readFree_6 (by decide) (fun c1 => ?_) (fun c1 => ?_)
  · have c1 : (c 3) < 12 := (nI_ltI (a := (c 3)) (b := 12) (by omega) (by omega)).mp c1
    refine lv_aload_n hx hb dX5_readFree_15 rfl (lv_at hl 0 rfl) ?_
    refine lv_dup hx hb dX5_readFree_16 rfl ?_
    refine va_get (D := (dC, dI)) (ci := 6) (v := .int (st 3 0)) (C := RX5) (T := TX5) (N := 2) hx hb hts ii_X5_readFree_X5 hown hK hP 3 (xw_is (r := 3) (by omega) (xc_fix (r := 3) (by omega))) rfl 0 (by decide) (hts _ mm_X5_readFree_1) (fun _ hh => hh) rfl dX5_readFree_17 ?_
    refine zz_top (v := (nI (c 3))) (by show st 3 0 = _; rw [hR.2.2.2.1]) ?_
    refine lv_iconst (v := 1) hx hb dX5_readFree_20 (by decide) ?_
    refine lv_iadd hx hb dX5_readFree_21 ?_
    refine zz_top (v := nI ((c 3) + 1)) (nI_add (c 3) 1) ?_
    refine va_put (D := (dC, dI)) (ci := 6) (v := .int (nI ((c 3) + 1))) (ty := .int) (C := RX5) (T := TX5) (N := 2) hx hb hts ii_X5_readFree_X5 tyX5 tyX5_ok nmX5 hown hK hP (xD hN _ _ _ _ _ _) hS 3 (xw_is (r := 3) (by omega) (xc_fix (r := 3) (by omega))) rfl 0 (by decide) (hts _ mm_X5_readFree_1) (fun _ hh => hh) rfl (by decide +kernel) rfl rfl (Nat.le_of_ble_eq_true rfl) dX5_readFree_22 (fun H locs hP _ hS => ?_)
    have hP : va_P (dC, dI) vwCl (xw A C nb (up2 st 3 0 (nI ((c 3) + 1))) sl so) H := by rw [← xset (r := 3) (k := 0) (v := (nI ((c 3) + 1))) (xc_fix (r := 3) (by omega))]; exact hP
    obtain ⟨st1, est1⟩ : ∃ y, y = up2 st 3 0 (nI ((c 3) + 1)) := ⟨_, rfl⟩
    have hG : XG [1, 2, 3, 4, 5, 6, 8, 9, 12, 13, 14, 15] st st1 := by rw [est1]; exact hG.up (xz (r := 3) (k := 0) (by decide : xrg 3 0 = 0)) (xpn (c := 0) (by decide : xcl 3 0 = 0) (by decide))
    rw [← est1] at hP
    have hF : FX 4 st sl so st1 sl so := by rw [est1]; exact hF.up (by decide)
    have hT : TC B g m p ad st1 sl so := by rw [est1]; exact hT.up (by omega)
    have hR : PT (uN c 3 (c 3 + 1)) nm st1 sl := by rw [est1]; exact hR.inc3 (by omega)
    refine lv_aload_n hx hb dX5_readFree_25 rfl (lv_at hl 1 rfl) ?_
    refine va_callv (va_runV (As := []) (rest := []) ⟨hx, hb, hml, hown, hts⟩ (y_X8_step l dC dI ad E hEE A C nb _ hN st1 sl so B g m (tkx B g m p) hG.1 hO.1 (CBt.fr hB hF) hT.1 hk2.2) (cwV 0 hts gX5_readFree_X8_step rfl rfl rfl (by decide +kernel) ⟨Nat.le_of_ble_eq_true rfl, Nat.le_of_ble_eq_true rfl⟩) ⟨fun a U g mk q => ⟨q.1, xPre.blind hEE q.2⟩, va_recv hK hP (ci := 9) (q0 := 1) rfl (xw_is (r := 1) (by omega) (xc_fix (r := 1) (by omega))), fun U hU hW => ⟨rfl, xPre.of hEE hP hK hE hS hU hW⟩⟩ rfl rfl hl.1 rfl (lv_room (Nat.le_of_ble_eq_true rfl)) dX5_readFree_26 ⟨Nat.le_of_ble_eq_true rfl, Nat.le_of_ble_eq_true rfl⟩) hS (fun q _ h => XA.le hS.1 q h) (XA.le hS.1) (fun x t H locs ht hvm hw hB9 _ _ hS => ?_)
    have hP := xB.at ht hB9
    clear hB9 ht hvm
    obtain ⟨st3, sl4, so5⟩ := x
    obtain ⟨hGst3, hOst3, hFst3, hw⟩ := hw
    dsimp only at hGst3 hOst3 hFst3 hw
    have hO : OG ad [2, 3, 4] so so5 := hO.tr hOst3 (by decide)
    have hP : va_P (dC, dI) vwCl (xw A C nb st3 sl4 so5) _ := hP
    have hG : XG [1, 2, 3, 4, 5, 6, 8, 9, 12, 13, 14, 15] st st3 := hG.tr hGst3 (by decide)
    have hF : FX 4 st sl so st3 sl4 so5 := hF.tr hFst3 (by omega) (by omega)
    have hR : PT (uN c 3 (c 3 + 1)) nm st3 sl4 := hR.fr hFst3 (by omega)
    have hT := hw
    have hp9 := hT.2.2.2.2.2.2
    have hk1 := tkd_lt (B := B) (g := g) (m := m) (p := (tkx B g m p))
    have hk2 := tkx_le (B := B) (g := g) (m := m) (p := (tkx B g m p)) hp9
    have hk3 := tka_le (B := B) (g := g) (m := m) (p := (tkx B g m p)) hp9 hB.2.2.1
    have hk4 := tkv_ltc (p := (tkx B g m p)) hB hp9
    have hk5 := tkw_lt (B := B) (g := g) (m := m) (p := (tkx B g m p))
    refine lv_aload_n hx hb dX5_readFree_29 rfl (lv_at hl 1 rfl) ?_
    refine lv_aload_n hx hb dX5_readFree_30 rfl (lv_at hl 2 rfl) ?_
    refine lv_iconst (v := 0) hx hb dX5_readFree_31 (by decide) ?_
    refine va_calli (va_runV (As := [.ref (A (36 + 20 * 1)), .int 0]) (rest := []) ⟨hx, hb, hml, hown, hts⟩ (y_takeNamed0 l dC dI ad E hEE A C nb _ hN st3 sl4 so5 B g m (tkx B g m p) (uN c 3 (c 3 + 1)) nm hG.1 hO.1 (CBt.fr hB hF) hT hR) (cwV 2 hts gX5_readFree_X8_takeNamed rfl rfl rfl (by decide +kernel) ⟨Nat.le_of_ble_eq_true rfl, Nat.le_of_ble_eq_true rfl⟩) ⟨fun a U g mk q => ⟨q.1, xPre.blind hEE q.2⟩, va_recv hK hP (ci := 9) (q0 := 1) rfl (xw_is (r := 1) (by omega) (xc_fix (r := 1) (by omega))), fun U hU hW => ⟨rfl, xPre.of hEE hP hK hE hS hU hW⟩⟩ rfl rfl hl.1 rfl (lv_room (Nat.le_of_ble_eq_true rfl)) dX5_readFree_32 ⟨Nat.le_of_ble_eq_true rfl, Nat.le_of_ble_eq_true rfl⟩) hS (fun q _ h => XA.le hS.1 q h) (XA.le hS.1) (fun r6 x t H locs ht hvm hw hB9 _ _ hS => ?_)
    have hP := xB.at ht hB9
    clear hB9 ht hvm
    obtain ⟨st7, sl8, so9⟩ := x
    obtain ⟨hGst7, hOst7, hFst7, hw⟩ := hw
    dsimp only at hGst7 hOst7 hFst7 hw
    have hO : OG ad [2, 3, 4] so so9 := hO.tr hOst7 (by decide)
    have hP : va_P (dC, dI) vwCl (xw A C nb st7 sl8 so9) _ := hP
    have hG : XG [1, 2, 3, 4, 5, 6, 8, 9, 12, 13, 14, 15] st st7 := hG.tr hGst7 (by decide)
    have hF : FX 4 st sl so st7 sl8 so9 := hF.tr hFst7 (by omega) (by omega)
    have hR : PT (uN c 3 (c 3 + 1)) nm st7 sl8 := hR.fr hFst7 (by omega)
    rcases hw with ⟨n10, rfl, hf11, hf12, hT, hf13, hf14⟩ | ⟨n15, n16, rfl, hf17, hf18, hf19, hf20⟩
    · have hp9 := hT.2.2.2.2.2.2
      have hk1 := tkd_lt (B := B) (g := g) (m := m) (p := (tkx B g m (tkx B g m p)))
      have hk2 := tkx_le (B := B) (g := g) (m := m) (p := (tkx B g m (tkx B g m p))) hp9
      have hk3 := tka_le (B := B) (g := g) (m := m) (p := (tkx B g m (tkx B g m p))) hp9 hB.2.2.1
      have hk4 := tkv_ltc (p := (tkx B g m (tkx B g m p))) hB hp9
      have hk5 := tkw_lt (B := B) (g := g) (m := m) (p := (tkx B g m (tkx B g m p)))
      have hE32 := hf14
      rw [uN_n c (c 3 + 1) (show ¬ 0 = 3 by omega)] at hE32
      have hn32 := hf11
      rw [uN_n c (c 3 + 1) (show ¬ 0 = 3 by omega)] at hn32
      refine lv_if_ne (tgt := 40) hx hb dX5_readFree_35 (by decide) (fun _ => ?_) (fun cc => absurd cc (by decide))
      refine lv_aload_n hx hb dX5_readFree_40 rfl (lv_at hl 1 rfl) ?_
      refine va_getN (host := "OffTheLead") (D := (dC, dI)) (ci := 9) (v := .int (st7 1 9)) (C := RX8) (T := TX8) (N := 15) hx hb hts ii_X5_readFree_X8 hown hK hP 1 (xw_is (r := 1) (by omega) (xc_fix (r := 1) (by omega))) rfl 9 (by decide) (va_Nw.use rfl (nf_X5_101 hEv)) (fun _ hh => hh) rfl dX5_readFree_41 ?_
      refine zz_top (v := (nI n10)) (by show st7 1 9 = _; rw [hf12]) ?_
      refine lv_istore_n (lv' := [(3, .int (nI n10)), (0, .ref (A 3)), (1, .ref (A 1)), (2, .ref (A (36 + 20 * 1)))]) hx hb dX5_readFree_44 rfl hl (by decide) rfl (fun ls hl => ?_)
      refine lv_aload_n hx hb dX5_readFree_45 rfl (lv_at hl 2 rfl) ?_
      refine va_calli (va_runV (As := []) (rest := []) ⟨hx, hb, hml, hown, hts⟩ (y_X8_takeHours l dC dI ad E hEE A C nb _ hN st7 sl8 so9 B g m (tkx B g m (tkx B g m p)) hG.1 hO.1 (CBt.fr hB hF) hT) (cwV 0 hts gX5_readFree_X8_takeHours rfl rfl rfl (by decide +kernel) ⟨Nat.le_of_ble_eq_true rfl, Nat.le_of_ble_eq_true rfl⟩) ⟨fun a U g mk q => ⟨q.1, xPre.blind hEE q.2⟩, va_recv hK hP (ci := 9) (q0 := 1) rfl (xw_is (r := 1) (by omega) (xc_fix (r := 1) (by omega))), fun U hU hW => ⟨rfl, xPre.of hEE hP hK hE hS hU hW⟩⟩ rfl rfl hl.1 rfl (lv_room (Nat.le_of_ble_eq_true rfl)) dX5_readFree_46 ⟨Nat.le_of_ble_eq_true rfl, Nat.le_of_ble_eq_true rfl⟩) hS (fun q _ h => XA.le hS.1 q h) (XA.le hS.1) (fun r21 x t H locs ht hvm hw hB9 _ _ hS => ?_)
      have hP := xB.at ht hB9
      clear hB9 ht hvm
      obtain ⟨st22, sl23, so24⟩ := x
      obtain ⟨hGst22, hOst22, hFst22, hw⟩ := hw
      dsimp only at hGst22 hOst22 hFst22 hw
      have hO : OG ad [2, 3, 4] so so24 := hO.tr hOst22 (by decide)
      have hP : va_P (dC, dI) vwCl (xw A C nb st22 sl23 so24) _ := hP
      have hG : XG [1, 2, 3, 4, 5, 6, 8, 9, 12, 13, 14, 15] st st22 := hG.tr hGst22 (by decide)
      have hF : FX 4 st sl so st22 sl23 so24 := hF.tr hFst22 (by omega) (by omega)
      have hR : PT (uN c 3 (c 3 + 1)) nm st22 sl23 := hR.fr hFst22 (by omega)
      rcases hw with ⟨rfl, hf25, hf26, hf27, hf28, hT, hf29, hf30, hf31⟩ | ⟨n32, n33, rfl, hf34, hf35, hf36, hf37⟩
      · have hp9 := hT.2.2.2.2.2.2
        have hk1 := tkd_lt (B := B) (g := g) (m := m) (p := (tkx B g m (tkx B g m (tkx B g m (tkx B g m p)))))
        have hk2 := tkx_le (B := B) (g := g) (m := m) (p := (tkx B g m (tkx B g m (tkx B g m (tkx B g m p))))) hp9
        have hk3 := tka_le (B := B) (g := g) (m := m) (p := (tkx B g m (tkx B g m (tkx B g m (tkx B g m p))))) hp9 hB.2.2.1
        have hk4 := tkv_ltc (p := (tkx B g m (tkx B g m (tkx B g m (tkx B g m p))))) hB hp9
        have hk5 := tkw_lt (B := B) (g := g) (m := m) (p := (tkx B g m (tkx B g m (tkx B g m (tkx B g m p)))))
        refine lv_if_ne (tgt := 54) hx hb dX5_readFree_49 (by decide) (fun _ => ?_) (fun cc => absurd cc (by decide))
        refine lv_aload_n hx hb dX5_readFree_54 rfl (lv_at hl 3 rfl) ?_
        refine va_getN (host := "OffTheLead") (D := (dC, dI)) (ci := 5) (v := .ref (A (36 + 20 * 1 + 2))) (C := RX4) (T := TX4) (N := 12) hx hb hts ii_X5_readFree_X4 hown hK hP (36 + 20 * 1) (xw_is (r := (36 + 20 * 1)) (by omega) (xc_pk (i := 1) (o := 0) (by omega) (by omega))) rfl 1 (by decide) (va_Nw.use rfl (nf_X5_147 hEv)) (fun _ hh => hh) rfl dX5_readFree_55 ?_
        refine lv_iload_n hx hb dX5_readFree_58 rfl (lv_at hl 0 rfl) ?_
        refine lv_dup2_11 hx hb dX5_readFree_59 rfl rfl ?_
        refine va_iald hx hb hK hP (36 + 20 * 1 + 2) (36 + 20 * 1 + 2) (xw_is (r := (36 + 20 * 1 + 2)) (by omega) (xc_pk (i := 1) (o := 2) (by omega) (by omega))) (xt_is (r := (36 + 20 * 1 + 2)) (by omega) ((xty_pk (i := 1) (o := 2) (by omega)).trans rfl)) (i := (nI n10)) (vp_in_nI (by omega) (by decide)) dX5_readFree_60 ?_
        obtain ⟨z38, ez38⟩ : ∃ y : Int32, st22 (36 + 20 * 1 + 2) n10 = y := ⟨_, rfl⟩
        refine zz_top (v := z38) (by rw [nI_clamp (by omega)]; exact ez38) ?_
        refine lv_aload_n hx hb dX5_readFree_61 rfl (lv_at hl 2 rfl) ?_
        refine va_getN (host := "OffTheLead") (D := (dC, dI)) (ci := 9) (v := .int (st22 1 11)) (C := RX8) (T := TX8) (N := 15) hx hb hts ii_X5_readFree_X8 hown hK hP 1 (xw_is (r := 1) (by omega) (xc_fix (r := 1) (by omega))) rfl 11 (by decide) (va_Nw.use rfl (nf_X5_121 hEv)) (fun _ hh => hh) rfl dX5_readFree_62 ?_
        refine zz_top (v := (nI (tkv B g (tkx B g m (tkx B g m p))))) (by show st22 1 11 = _; rw [hf25]) ?_
        refine lv_aload_n hx hb dX5_readFree_65 rfl (lv_at hl 2 rfl) ?_
        refine va_getN (host := "OffTheLead") (D := (dC, dI)) (ci := 9) (v := .int (st22 1 12)) (C := RX8) (T := TX8) (N := 15) hx hb hts ii_X5_readFree_X8 hown hK hP 1 (xw_is (r := 1) (by omega) (xc_fix (r := 1) (by omega))) rfl 12 (by decide) (va_Nw.use rfl (nf_X5_125 hEv)) (fun _ hh => hh) rfl dX5_readFree_66 ?_
        refine zz_top (v := (nI (tkv B g (tkx B g m (tkx B g m (tkx B g m p)))))) (by show st22 1 12 = _; rw [hf26]) ?_
        refine va_calli (va_runSN (As := [.int (nI (tkv B g (tkx B g m (tkx B g m p)))), .int (nI (tkv B g (tkx B g m (tkx B g m (tkx B g m p)))))]) (rest := [.int z38, .int (nI n10), .ref (A (36 + 20 * 1 + 2))]) ⟨hx, hb, hml, hown, hts⟩ (x_X11_hoursOf l dC dI ad E hEE A C nb _ hN st22 sl23 so24 (nI (tkv B g (tkx B g m (tkx B g m p)))) (nI (tkv B g (tkx B g m (tkx B g m (tkx B g m p))))) hG.1 ) (⟨va_cnB 2 hts gX5_readFree_X11_hoursOf_n151 rfl rfl rfl (nm_X5_151 hEv) (hts _ mm_X5_readFree_122) (by decide +kernel) ⟨Nat.le_of_ble_eq_true rfl, Nat.le_of_ble_eq_true rfl⟩, (hts _ mm_X5_readFree_121), trivial⟩) ⟨fun a U g mk q => ⟨q.1, xPre.blind hEE q.2⟩, fun U hU hW => ⟨rfl, xPre.of hEE hP hK hE hS hU hW⟩⟩ rfl rfl hl.1 rfl (lv_room (Nat.le_of_ble_eq_true rfl)) dX5_readFree_69 ⟨Nat.le_of_ble_eq_true rfl, Nat.le_of_ble_eq_true rfl⟩) hS (fun q _ h => XA.le hS.1 q h) (XA.le hS.1) (fun r39 x t H locs ht hvm hw hB9 _ _ hS => ?_)
        have hP := xB.at ht hB9
        clear hB9 ht hvm
        obtain ⟨rfl, hw⟩ := hw
        have hP : va_P (dC, dI) vwCl (xw A C nb st22 sl23 so24) _ := hP
        clear hw
        refine lv_ior hx hb dX5_readFree_72 ?_
        refine lv_topi (fun z40 ez40 => ?_)
        refine va_iast hx hb hK hP (xD hN _ _ _ _ _ _) hS (36 + 20 * 1 + 2) (36 + 20 * 1 + 2) (xw_is (r := (36 + 20 * 1 + 2)) (by omega) (xc_pk (i := 1) (o := 2) (by omega) (by omega))) (xt_is (r := (36 + 20 * 1 + 2)) (by omega) ((xty_pk (i := 1) (o := 2) (by omega)).trans rfl)) (i := (nI n10)) (vp_in_nI (by omega) (by decide)) dX5_readFree_73 (fun H locs hP _ hS => ?_)
        rw [nI_clamp (by omega)] at hP
        have hP : va_P (dC, dI) vwCl (xw A C nb (up2 st22 (36 + 20 * 1 + 2) n10 z40) sl23 so24) H := by rw [← xset (r := (36 + 20 * 1 + 2)) (k := n10) (v := z40) (xc_pk (i := 1) (o := 2) (by omega) (by omega))]; exact hP
        obtain ⟨st41, est41⟩ : ∃ y, y = up2 st22 (36 + 20 * 1 + 2) n10 z40 := ⟨_, rfl⟩
        have hG : XG [1, 2, 3, 4, 5, 6, 8, 9, 12, 13, 14, 15] st st41 := by rw [est41]; exact hG.up (xz (r := (36 + 20 * 1 + 2)) (k := n10) ((xrg_pk (i := 1) (o := 2) (k := n10) (by omega)).trans (by first | rfl | decide))) (xpn (c := 0) ((xcl_pk (i := 1) (o := 2) (k := n10) (by omega)).trans (by first | rfl | decide)) (by decide))
        rw [← est41] at hP
        have hF : FX 4 st sl so st41 sl23 so24 := by rw [est41]; exact hF.up (dc_pk (o := 2) (by omega))
        have hT : TC B g m (tkx B g m (tkx B g m (tkx B g m (tkx B g m p)))) ad st41 sl23 so24 := by rw [est41]; exact hT.up (by omega)
        have hR : PT (uN c 3 (c 3 + 1)) nm st41 sl23 := by rw [est41]; exact hR.up (by omega)
        refine lv_aload_n hx hb dX5_readFree_74 rfl (lv_at hl 2 rfl) ?_
        refine lv_bipush (v := 59) hx hb dX5_readFree_75 (by decide) ?_
        refine va_calli (va_runV (As := [.int 59]) (rest := []) ⟨hx, hb, hml, hown, hts⟩ (y_X8_takeMark l dC dI ad E hEE A C nb _ hN st41 sl23 so24 B g m (tkx B g m (tkx B g m (tkx B g m (tkx B g m p)))) hG.1 hO.1 (CBt.fr hB hF) hT) (cwV 1 hts gX5_readFree_X8_takeMark rfl rfl rfl (by decide +kernel) ⟨Nat.le_of_ble_eq_true rfl, Nat.le_of_ble_eq_true rfl⟩) ⟨fun a U g mk q => ⟨q.1, xPre.blind hEE q.2⟩, va_recv hK hP (ci := 9) (q0 := 1) rfl (xw_is (r := 1) (by omega) (xc_fix (r := 1) (by omega))), fun U hU hW => ⟨rfl, xPre.of hEE hP hK hE hS hU hW⟩⟩ rfl rfl hl.1 rfl (lv_room (Nat.le_of_ble_eq_true rfl)) dX5_readFree_77 ⟨Nat.le_of_ble_eq_true rfl, Nat.le_of_ble_eq_true rfl⟩) hS (fun q _ h => XA.le hS.1 q h) (XA.le hS.1) (fun r42 x t H locs ht hvm hw hB9 _ _ hS => ?_)
        have hP := xB.at ht hB9
        clear hB9 ht hvm
        obtain ⟨st43, sl44, so45⟩ := x
        obtain ⟨hGst43, hOst43, hFst43, hw⟩ := hw
        dsimp only at hGst43 hOst43 hFst43 hw
        have hO : OG ad [2, 3, 4] so so45 := hO.tr hOst43 (by decide)
        have hP : va_P (dC, dI) vwCl (xw A C nb st43 sl44 so45) _ := hP
        have hG : XG [1, 2, 3, 4, 5, 6, 8, 9, 12, 13, 14, 15] st st43 := hG.tr hGst43 (by decide)
        have hF : FX 4 st sl so st43 sl44 so45 := hF.tr hFst43 (by omega) (by omega)
        have hR : PT (uN c 3 (c 3 + 1)) nm st43 sl44 := hR.fr hFst43 (by omega)
        rcases hw with ⟨rfl, hT, hf46, hf47⟩ | ⟨n48, n49, rfl, hf50, hf51, hf52, hf53⟩
        · have hp9 := hT.2.2.2.2.2.2
          have hk1 := tkd_lt (B := B) (g := g) (m := m) (p := (tkx B g m (tkx B g m (tkx B g m (tkx B g m (tkx B g m p))))))
          have hk2 := tkx_le (B := B) (g := g) (m := m) (p := (tkx B g m (tkx B g m (tkx B g m (tkx B g m (tkx B g m p)))))) hp9
          have hk3 := tka_le (B := B) (g := g) (m := m) (p := (tkx B g m (tkx B g m (tkx B g m (tkx B g m (tkx B g m p)))))) hp9 hB.2.2.1
          have hk4 := tkv_ltc (p := (tkx B g m (tkx B g m (tkx B g m (tkx B g m (tkx B g m p)))))) hB hp9
          have hk5 := tkw_lt (B := B) (g := g) (m := m) (p := (tkx B g m (tkx B g m (tkx B g m (tkx B g m (tkx B g m p))))))
          exact W.zret (v := 1) hx hb hr rfl (fun t ht hW => ⟨⟨1, (st43, sl44, so45), rfl, ⟨hG, hO, hF, Or.inl (⟨(uN c 3 (c 3 + 1)), nm, (tkx B g m (tkx B g m (tkx B g m (tkx B g m (tkx B g m p))))), rfl, hR, hT, by show st43 1 13 = st 1 13; rw [hf46, est41, up2_ne (r := (36 + 20 * 1 + 2)) (k := n10) (a := 1) (j := 13) _ _ (by omega), hf29, hf13, (hFst3 1 13 (by decide)).1, est1, up2_ne (r := 3) (k := 0) (a := 1) (j := 13) _ _ (by omega)], uN_sum (a := 3) (by decide) rfl, by unfold lFree; rw [if_neg (by omega), hE32, hf31, hf47]⟩)⟩, xB.of ht hP⟩, hS.F ht⟩) hS.2.2 dX5_readFree_80
        · exact W.zret (v := 0) hx hb hr rfl (fun t ht hW => ⟨⟨0, (st43, sl44, so45), rfl, ⟨hG, hO, hF, Or.inr (⟨n48, n49, rfl, by show st43 1 13 = _; rw [hf50], by show st43 1 14 = _; rw [hf51], by omega, by unfold lFree; rw [if_neg (by omega), hE32, hf31, hf53]⟩)⟩, xB.of ht hP⟩, hS.F ht⟩) hS.2.2 dX5_readFree_80
      · refine lv_if_ne (tgt := 54) hx hb dX5_readFree_49 (by decide) (fun cc => absurd (by decide) cc) (fun _ => ?_)
        refine lv_iconst (v := 0) hx hb dX5_readFree_52 (by decide) ?_
        exact W.zret (v := 0) hx hb hr rfl (fun t ht hW => ⟨⟨0, (st22, sl23, so24), rfl, ⟨hG, hO, hF, Or.inr (⟨n32, n33, rfl, by show st22 1 13 = _; rw [hf34], by show st22 1 14 = _; rw [hf35], by omega, by unfold lFree; rw [if_neg (by omega), hE32, hf37]⟩)⟩, xB.of ht hP⟩, hS.F ht⟩) hS.2.2 dX5_readFree_53
    · have hE32 := hf20
      rw [uN_n c (c 3 + 1) (show ¬ 0 = 3 by omega)] at hE32
      refine lv_if_ne (tgt := 40) hx hb dX5_readFree_35 (by decide) (fun cc => absurd (by decide) cc) (fun _ => ?_)
      refine lv_iconst (v := 0) hx hb dX5_readFree_38 (by decide) ?_
      exact W.zret (v := 0) hx hb hr rfl (fun t ht hW => ⟨⟨0, (st7, sl8, so9), rfl, ⟨hG, hO, hF, Or.inr (⟨n15, n16, rfl, by show st7 1 13 = _; rw [hf17], by show st7 1 14 = _; rw [hf18], by omega, by unfold lFree; rw [if_neg (by omega), hE32]⟩)⟩, xB.of ht hP⟩, hS.F ht⟩) hS.2.2 dX5_readFree_39
  · have c1 : ¬ (c 3) < 12 := fun hh => c1 ((nI_ltI (a := (c 3)) (b := 12) (by omega) (by omega)).mpr hh)
    refine lv_aload_n hx hb dX5_readFree_9 rfl (lv_at hl 1 rfl) ?_
    refine lv_iconst (v := 4) hx hb dX5_readFree_10 (by decide) ?_
    refine va_calli (va_runV (As := [.int 4]) (rest := []) ⟨hx, hb, hml, hown, hts⟩ (y_X8_refuse l dC dI ad E hEE A C nb _ hN st sl so 4 B g m p (by omega) hG.1 hO.1 (CBt.fr hB hF) hT) (cwV 1 hts gX5_readFree_X8_refuse rfl rfl rfl (by decide +kernel) ⟨Nat.le_of_ble_eq_true rfl, Nat.le_of_ble_eq_true rfl⟩) ⟨fun a U g mk q => ⟨q.1, xPre.blind hEE q.2⟩, va_recv hK hP (ci := 9) (q0 := 1) rfl (xw_is (r := 1) (by omega) (xc_fix (r := 1) (by omega))), fun U hU hW => ⟨rfl, xPre.of hEE hP hK hE hS hU hW⟩⟩ rfl rfl hl.1 rfl (lv_room (Nat.le_of_ble_eq_true rfl)) dX5_readFree_11 ⟨Nat.le_of_ble_eq_true rfl, Nat.le_of_ble_eq_true rfl⟩) hS (fun q _ h => XA.le hS.1 q h) (XA.le hS.1) (fun r54 x t H locs ht hvm hw hB9 _ _ hS => ?_)
    have hP := xB.at ht hB9
    clear hB9 ht hvm
    obtain ⟨st55, sl56, so57⟩ := x
    obtain ⟨hGst55, hOst55, hFst55, hw⟩ := hw
    dsimp only at hGst55 hOst55 hFst55 hw
    have hO : OG ad [2, 3, 4] so so57 := hO.tr hOst55 (by decide)
    have hP : va_P (dC, dI) vwCl (xw A C nb st55 sl56 so57) _ := hP
    have hG : XG [1, 2, 3, 4, 5, 6, 8, 9, 12, 13, 14, 15] st st55 := hG.tr hGst55 (by decide)
    have hF : FX 4 st sl so st55 sl56 so57 := hF.tr hFst55 (by omega) (by omega)
    have hR : PT c nm st55 sl56 := hR.fr hFst55 (by omega)
    obtain ⟨rfl, hf58, hf59, hT⟩ := hw
    have hp9 := hT.2.2.2.2.2.2
    have hk1 := tkd_lt (B := B) (g := g) (m := m) (p := p)
    have hk2 := tkx_le (B := B) (g := g) (m := m) (p := p) hp9
    have hk3 := tka_le (B := B) (g := g) (m := m) (p := p) hp9 hB.2.2.1
    have hk4 := tkv_ltc (p := p) hB hp9
    have hk5 := tkw_lt (B := B) (g := g) (m := m) (p := p)
    exact W.zret (v := 0) hx hb hr rfl (fun t ht hW => ⟨⟨0, (st55, sl56, so57), rfl, ⟨hG, hO, hF, Or.inr (⟨4, (tka B g m p), rfl, by show st55 1 13 = _; rw [hf58], by show st55 1 14 = _; rw [hf59], by omega, by unfold lFree; rw [if_pos (by omega)]⟩)⟩, xB.of ht hP⟩, hS.F ht⟩) hS.2.2 dX5_readFree_14
set_option maxHeartbeats 4000000 in
set_option maxRecDepth 100000 in
theorem y_X5_readSign (l : Launch) (dC : Nat → ClassId) (dI : Nat → Nat → Nat) (ad : Nat → Nat) (E : EP) (hEE : EC ad E) (A : Nat → Nat) (C : Nat → ClassId) (nb sz : Nat) (hN : XN A) (st : Nat → Nat → Int32) (sl : Nat → Nat → Int64) (so : Nat → XR) (B : Nat → Nat) (g m : Nat) (p : Nat) (c : Nat → Nat) (nm : Nat → Nat → Nat) (hI : XI st) (hOI : OI ad so) (hB : CBt B g m st) (hT : TC B g m p ad st sl so) (hR : PT c nm st sl) (hw : tkw B g m p = 5) : Met l yX5_readSign wsX5_readSign ({ frames := 7, cells := 0, slots := 0, locals := 152 }) (va_Pc [.ref (A 3), .ref (A 1), .ref (A (36 + 20 * 1))] (xPre E dC dI A C nb sz st sl so)) (va_Qi (fun (r : Int32) (x : XT) => XG [1, 2, 3, 4, 5, 6, 8, 9, 12, 13, 14, 15] st x.1 ∧ OG ad [2, 3, 4] so x.2.2 ∧ FX 4 st sl so x.1 x.2.1 x.2.2 ∧ ((∃ c1 : Nat → Nat, ∃ n1 : Nat → Nat → Nat, ∃ q : Nat, r = 1 ∧ PT c1 n1 x.1 x.2.1 ∧ TC B g m q ad x.1 x.2.1 x.2.2 ∧ x.1 1 13 = st 1 13 ∧ c1 0 + c1 1 + c1 2 + c1 3 + c1 4 = c 0 + c 1 + c 2 + c 3 + c 4 + 1 ∧ lSign B g m p c nm = (0, q, c1, n1)) ∨ (∃ f : Nat, ∃ a : Nat, r = 0 ∧ x.1 1 13 = nI f ∧ x.1 1 14 = nI a ∧ (1 ≤ f ∧ f < 9) ∧ lSign B g m p c nm = fl f a))) (xB dC dI A C nb) (XA A sz)) 0 0 (XA A sz) := by
  refine Met.ofW (cc := cX5_readSign) (maxL := 3) (ret := (some .boolean)) (by decide) rfl ?_
  intro p9 e s m9 args below meth c9 s₁ B9 hml hv
  obtain ⟨rfl, hsz, hP, hK, hE⟩ := hv
  have hx := B9.exec
  have hb := B9.bytes
  have hr := B9.returns
  have hts := atoms_spec (ws := wsX5_readSign) B9.pre
  have hown : s.vm.findClass RX5 = some m9.cls := findClass_of_methodNamed B9.named
  subst hsz
  have hEv := hEE.1 _ _ _ hE
  have hS : va_S (XA A s.heap.size) s.heap s.heap [] := va_S.rf
  have hG : XG [1, 2, 3, 4, 5, 6, 8, 9, 12, 13, 14, 15] st st := XG.rf hI
  have hO : OG ad [2, 3, 4] so so := OG.rf hOI
  have hl := lv_entry ([.ref (A 3), .ref (A 1), .ref (A (36 + 20 * 1))]) (n := 3) (Nat.le_of_ble_eq_true rfl)
  rw [lg_entry_eq]
  generalize (lg_sl ([.ref (A 3), .ref (A 1), .ref (A (36 + 20 * 1))]) ++ List.replicate (3 - (lg_sl ([.ref (A 3), .ref (A 1), .ref (A (36 + 20 * 1))])).length) Slot.unset).toArray = ls at hl ⊢
  have hl : lv_has ls 3 [(0, .ref (A 3)), (1, .ref (A 1)), (2, .ref (A (36 + 20 * 1)))] := hl
  have hB1 := hB.2.2.1
  have hB2 := hB.2.2.2.1
  have hF : FX 4 st sl so st sl so := FX.rf
  have hp9 := hT.2.2.2.2.2.2
  have hk1 := tkd_lt (B := B) (g := g) (m := m) (p := p)
  have hk2 := tkx_le (B := B) (g := g) (m := m) (p := p) hp9
  have hk3 := tka_le (B := B) (g := g) (m := m) (p := p) hp9 hB.2.2.1
  have hk4 := tkv_ltc (p := p) hB hp9
  have hk5 := tkw_lt (B := B) (g := g) (m := m) (p := p)
  have hR9 := hR.2.2.2.2.2.1
  refine lv_aload_n hx hb dX5_readSign_0 rfl (lv_at hl 0 rfl) ?_
  refine va_get (D := (dC, dI)) (ci := 6) (v := .int (st 3 1)) (C := RX5) (T := TX5) (N := 2) hx hb hts ii_X5_readSign_X5 hown hK hP 3 (xw_is (r := 3) (by omega) (xc_fix (r := 3) (by omega))) rfl 1 (by decide) (hts _ mm_X5_readSign_1) (fun _ hh => hh) rfl dX5_readSign_1 ?_
  refine zz_top (v := (nI (c 4))) (by show st 3 1 = _; rw [hR.2.2.2.2.1]) ?_
  refine lv_if_eq (tgt := 13) hx hb dX5_readSign_4 (by decide) (fun c1 => ?_) (fun c1 => ?_)
  · have c1 : (c 4) = 0 := (nI_eq (a := (c 4)) (b := 0) (by omega) (by omega)).mp c1
    refine lv_aload_n hx hb dX5_readSign_13 rfl (lv_at hl 0 rfl) ?_
    refine lv_iconst (v := 1) hx hb dX5_readSign_14 (by decide) ?_
    refine va_put (D := (dC, dI)) (ci := 6) (v := .int 1) (ty := .boolean) (C := RX5) (T := TX5) (N := 2) hx hb hts ii_X5_readSign_X5 tyX5 tyX5_ok nmX5 hown hK hP (xD hN _ _ _ _ _ _) hS 3 (xw_is (r := 3) (by omega) (xc_fix (r := 3) (by omega))) rfl 1 (by decide) (hts _ mm_X5_readSign_1) (fun _ hh => hh) rfl (by decide +kernel) rfl rfl (Nat.le_of_ble_eq_true rfl) dX5_readSign_15 (fun H locs hP _ hS => ?_)
    have hP : va_P (dC, dI) vwCl (xw A C nb (up2 st 3 1 1) sl so) H := by rw [← xset (r := 3) (k := 1) (v := 1) (xc_fix (r := 3) (by omega))]; exact hP
    obtain ⟨st1, est1⟩ : ∃ y, y = up2 st 3 1 1 := ⟨_, rfl⟩
    have hG : XG [1, 2, 3, 4, 5, 6, 8, 9, 12, 13, 14, 15] st st1 := by rw [est1]; exact hG.up (xz (r := 3) (k := 1) (by decide : xrg 3 1 = 0)) (xpn (c := 0) (by decide : xcl 3 1 = 0) (by decide))
    rw [← est1] at hP
    have hF : FX 4 st sl so st1 sl so := by rw [est1]; exact hF.up (by decide)
    have hT : TC B g m p ad st1 sl so := by rw [est1]; exact hT.up (by omega)
    have hR : PT (uN c 4 1) nm st1 sl := by rw [est1]; exact hR.sgn
    refine lv_aload_n hx hb dX5_readSign_18 rfl (lv_at hl 1 rfl) ?_
    refine va_callv (va_runV (As := []) (rest := []) ⟨hx, hb, hml, hown, hts⟩ (y_X8_step l dC dI ad E hEE A C nb _ hN st1 sl so B g m (tkx B g m p) hG.1 hO.1 (CBt.fr hB hF) hT.1 hk2.2) (cwV 0 hts gX5_readSign_X8_step rfl rfl rfl (by decide +kernel) ⟨Nat.le_of_ble_eq_true rfl, Nat.le_of_ble_eq_true rfl⟩) ⟨fun a U g mk q => ⟨q.1, xPre.blind hEE q.2⟩, va_recv hK hP (ci := 9) (q0 := 1) rfl (xw_is (r := 1) (by omega) (xc_fix (r := 1) (by omega))), fun U hU hW => ⟨rfl, xPre.of hEE hP hK hE hS hU hW⟩⟩ rfl rfl hl.1 rfl (lv_room (Nat.le_of_ble_eq_true rfl)) dX5_readSign_19 ⟨Nat.le_of_ble_eq_true rfl, Nat.le_of_ble_eq_true rfl⟩) hS (fun q _ h => XA.le hS.1 q h) (XA.le hS.1) (fun x t H locs ht hvm hw hB9 _ _ hS => ?_)
    have hP := xB.at ht hB9
    clear hB9 ht hvm
    obtain ⟨st3, sl4, so5⟩ := x
    obtain ⟨hGst3, hOst3, hFst3, hw⟩ := hw
    dsimp only at hGst3 hOst3 hFst3 hw
    have hO : OG ad [2, 3, 4] so so5 := hO.tr hOst3 (by decide)
    have hP : va_P (dC, dI) vwCl (xw A C nb st3 sl4 so5) _ := hP
    have hG : XG [1, 2, 3, 4, 5, 6, 8, 9, 12, 13, 14, 15] st st3 := hG.tr hGst3 (by decide)
    have hF : FX 4 st sl so st3 sl4 so5 := hF.tr hFst3 (by omega) (by omega)
    have hR : PT (uN c 4 1) nm st3 sl4 := hR.fr hFst3 (by omega)
    have hT := hw
    have hp9 := hT.2.2.2.2.2.2
    have hk1 := tkd_lt (B := B) (g := g) (m := m) (p := (tkx B g m p))
    have hk2 := tkx_le (B := B) (g := g) (m := m) (p := (tkx B g m p)) hp9
    have hk3 := tka_le (B := B) (g := g) (m := m) (p := (tkx B g m p)) hp9 hB.2.2.1
    have hk4 := tkv_ltc (p := (tkx B g m p)) hB hp9
    have hk5 := tkw_lt (B := B) (g := g) (m := m) (p := (tkx B g m p))
    refine lv_aload_n hx hb dX5_readSign_22 rfl (lv_at hl 1 rfl) ?_
    refine lv_iconst (v := 0) hx hb dX5_readSign_23 (by decide) ?_
    refine lv_bipush (v := 12) hx hb dX5_readSign_24 (by decide) ?_
    refine va_calli (va_runV (As := [.int 0, .int 12]) (rest := []) ⟨hx, hb, hml, hown, hts⟩ (y_X8_takeNumber l dC dI ad E hEE A C nb _ hN st3 sl4 so5 0 12 B g m (tkx B g m p) (by omega) (by omega) hG.1 hO.1 (CBt.fr hB hF) hT) (cwV 2 hts gX5_readSign_X8_takeNumber rfl rfl rfl (by decide +kernel) ⟨Nat.le_of_ble_eq_true rfl, Nat.le_of_ble_eq_true rfl⟩) ⟨fun a U g mk q => ⟨q.1, xPre.blind hEE q.2⟩, va_recv hK hP (ci := 9) (q0 := 1) rfl (xw_is (r := 1) (by omega) (xc_fix (r := 1) (by omega))), fun U hU hW => ⟨rfl, xPre.of hEE hP hK hE hS hU hW⟩⟩ rfl rfl hl.1 rfl (lv_room (Nat.le_of_ble_eq_true rfl)) dX5_readSign_26 ⟨Nat.le_of_ble_eq_true rfl, Nat.le_of_ble_eq_true rfl⟩) hS (fun q _ h => XA.le hS.1 q h) (XA.le hS.1) (fun r6 x t H locs ht hvm hw hB9 _ _ hS => ?_)
    have hP := xB.at ht hB9
    clear hB9 ht hvm
    obtain ⟨st7, sl8, so9⟩ := x
    obtain ⟨hGst7, hOst7, hFst7, hw⟩ := hw
    dsimp only at hGst7 hOst7 hFst7 hw
    have hO : OG ad [2, 3, 4] so so9 := hO.tr hOst7 (by decide)
    have hP : va_P (dC, dI) vwCl (xw A C nb st7 sl8 so9) _ := hP
    have hG : XG [1, 2, 3, 4, 5, 6, 8, 9, 12, 13, 14, 15] st st7 := hG.tr hGst7 (by decide)
    have hF : FX 4 st sl so st7 sl8 so9 := hF.tr hFst7 (by omega) (by omega)
    have hR : PT (uN c 4 1) nm st7 sl8 := hR.fr hFst7 (by omega)
    rcases hw with ⟨rfl, hf10, hf11, hf12, hT, hf13, hf14⟩ | ⟨n15, n16, rfl, hf17, hf18, hf19, hf20⟩
    · have hp9 := hT.2.2.2.2.2.2
      have hk1 := tkd_lt (B := B) (g := g) (m := m) (p := (tkx B g m (tkx B g m p)))
      have hk2 := tkx_le (B := B) (g := g) (m := m) (p := (tkx B g m (tkx B g m p))) hp9
      have hk3 := tka_le (B := B) (g := g) (m := m) (p := (tkx B g m (tkx B g m p))) hp9 hB.2.2.1
      have hk4 := tkv_ltc (p := (tkx B g m (tkx B g m p))) hB hp9
      have hk5 := tkw_lt (B := B) (g := g) (m := m) (p := (tkx B g m (tkx B g m p)))
      refine lv_if_ne (tgt := 34) hx hb dX5_readSign_29 (by decide) (fun _ => ?_) (fun cc => absurd cc (by decide))
      refine lv_aload_n hx hb dX5_readSign_34 rfl (lv_at hl 2 rfl) ?_
      refine lv_aload_n hx hb dX5_readSign_35 rfl (lv_at hl 1 rfl) ?_
      refine va_getN (host := "OffTheLead") (D := (dC, dI)) (ci := 9) (v := .int (st7 1 9)) (C := RX8) (T := TX8) (N := 15) hx hb hts ii_X5_readSign_X8 hown hK hP 1 (xw_is (r := 1) (by omega) (xc_fix (r := 1) (by omega))) rfl 9 (by decide) (va_Nw.use rfl (nf_X5_101 hEv)) (fun _ hh => hh) rfl dX5_readSign_36 ?_
      refine zz_top (v := (nI (tkv B g (tkx B g m p)))) (by show st7 1 9 = _; rw [hf12]) ?_
      refine va_putN (host := "OffTheLead") (D := (dC, dI)) (ci := 5) (v := .int (nI (tkv B g (tkx B g m p)))) (ty := .int) (C := RX4) (T := TX4) (N := 12) hx hb hts ii_X5_readSign_X4 tyX4 tyX4_ok nmX4 hown hK hP (xD hN _ _ _ _ _ _) hS (36 + 20 * 1) (xw_is (r := (36 + 20 * 1)) (by omega) (xc_pk (i := 1) (o := 0) (by omega) (by omega))) rfl 8 (by decide) (va_Nw.use rfl (nf_X5_155 hEv)) (fun _ hh => hh) rfl (by decide +kernel) rfl rfl (Nat.le_of_ble_eq_true rfl) dX5_readSign_39 (fun H locs hP _ hS => ?_)
      have hP : va_P (dC, dI) vwCl (xw A C nb (up2 st7 (36 + 20 * 1) 8 (nI (tkv B g (tkx B g m p)))) sl8 so9) H := by rw [← xset (r := (36 + 20 * 1)) (k := 8) (v := (nI (tkv B g (tkx B g m p)))) (xc_pk (i := 1) (o := 0) (by omega) (by omega))]; exact hP
      obtain ⟨st21, est21⟩ : ∃ y, y = up2 st7 (36 + 20 * 1) 8 (nI (tkv B g (tkx B g m p))) := ⟨_, rfl⟩
      have hG : XG [1, 2, 3, 4, 5, 6, 8, 9, 12, 13, 14, 15] st st21 := by rw [est21]; exact hG.up (xz (r := (36 + 20 * 1)) (k := 8) ((xrg_pk (i := 1) (o := 0) (k := 8) (by omega)).trans (by first | rfl | decide))) (xpn (c := 0) ((xcl_pk (i := 1) (o := 0) (k := 8) (by omega)).trans (by first | rfl | decide)) (by decide))
      rw [← est21] at hP
      have hF : FX 4 st sl so st21 sl8 so9 := by rw [est21]; exact hF.up (dc_pk (o := 0) (by omega))
      have hT : TC B g m (tkx B g m (tkx B g m p)) ad st21 sl8 so9 := by rw [est21]; exact hT.up (by omega)
      have hR : PT (uN c 4 1) nm st21 sl8 := by rw [est21]; exact hR.up (by omega)
      refine lv_aload_n hx hb dX5_readSign_42 rfl (lv_at hl 1 rfl) ?_
      refine lv_bipush (v := 59) hx hb dX5_readSign_43 (by decide) ?_
      refine va_calli (va_runV (As := [.int 59]) (rest := []) ⟨hx, hb, hml, hown, hts⟩ (y_X8_takeMark l dC dI ad E hEE A C nb _ hN st21 sl8 so9 B g m (tkx B g m (tkx B g m p)) hG.1 hO.1 (CBt.fr hB hF) hT) (cwV 1 hts gX5_readSign_X8_takeMark rfl rfl rfl (by decide +kernel) ⟨Nat.le_of_ble_eq_true rfl, Nat.le_of_ble_eq_true rfl⟩) ⟨fun a U g mk q => ⟨q.1, xPre.blind hEE q.2⟩, va_recv hK hP (ci := 9) (q0 := 1) rfl (xw_is (r := 1) (by omega) (xc_fix (r := 1) (by omega))), fun U hU hW => ⟨rfl, xPre.of hEE hP hK hE hS hU hW⟩⟩ rfl rfl hl.1 rfl (lv_room (Nat.le_of_ble_eq_true rfl)) dX5_readSign_45 ⟨Nat.le_of_ble_eq_true rfl, Nat.le_of_ble_eq_true rfl⟩) hS (fun q _ h => XA.le hS.1 q h) (XA.le hS.1) (fun r22 x t H locs ht hvm hw hB9 _ _ hS => ?_)
      have hP := xB.at ht hB9
      clear hB9 ht hvm
      obtain ⟨st23, sl24, so25⟩ := x
      obtain ⟨hGst23, hOst23, hFst23, hw⟩ := hw
      dsimp only at hGst23 hOst23 hFst23 hw
      have hO : OG ad [2, 3, 4] so so25 := hO.tr hOst23 (by decide)
      have hP : va_P (dC, dI) vwCl (xw A C nb st23 sl24 so25) _ := hP
      have hG : XG [1, 2, 3, 4, 5, 6, 8, 9, 12, 13, 14, 15] st st23 := hG.tr hGst23 (by decide)
      have hF : FX 4 st sl so st23 sl24 so25 := hF.tr hFst23 (by omega) (by omega)
      have hR : PT (uN c 4 1) nm st23 sl24 := hR.fr hFst23 (by omega)
      rcases hw with ⟨rfl, hT, hf26, hf27⟩ | ⟨n28, n29, rfl, hf30, hf31, hf32, hf33⟩
      · have hp9 := hT.2.2.2.2.2.2
        have hk1 := tkd_lt (B := B) (g := g) (m := m) (p := (tkx B g m (tkx B g m (tkx B g m p))))
        have hk2 := tkx_le (B := B) (g := g) (m := m) (p := (tkx B g m (tkx B g m (tkx B g m p)))) hp9
        have hk3 := tka_le (B := B) (g := g) (m := m) (p := (tkx B g m (tkx B g m (tkx B g m p)))) hp9 hB.2.2.1
        have hk4 := tkv_ltc (p := (tkx B g m (tkx B g m (tkx B g m p)))) hB hp9
        have hk5 := tkw_lt (B := B) (g := g) (m := m) (p := (tkx B g m (tkx B g m (tkx B g m p))))
        exact W.zret (v := 1) hx hb hr rfl (fun t ht hW => ⟨⟨1, (st23, sl24, so25), rfl, ⟨hG, hO, hF, Or.inl (⟨(uN c 4 1), nm, (tkx B g m (tkx B g m (tkx B g m p))), rfl, hR, hT, by show st23 1 13 = st 1 13; rw [hf26, est21, up2_ne (r := (36 + 20 * 1)) (k := 8) (a := 1) (j := 13) _ _ (by omega), hf13, (hFst3 1 13 (by decide)).1, est1, up2_ne (r := 3) (k := 1) (a := 1) (j := 13) _ _ (by omega)], uN_sum (a := 4) (by decide) (by omega), by unfold lSign; rw [if_neg (by omega), hf14, hf27]⟩)⟩, xB.of ht hP⟩, hS.F ht⟩) hS.2.2 dX5_readSign_48
      · exact W.zret (v := 0) hx hb hr rfl (fun t ht hW => ⟨⟨0, (st23, sl24, so25), rfl, ⟨hG, hO, hF, Or.inr (⟨n28, n29, rfl, by show st23 1 13 = _; rw [hf30], by show st23 1 14 = _; rw [hf31], by omega, by unfold lSign; rw [if_neg (by omega), hf14, hf33]⟩)⟩, xB.of ht hP⟩, hS.F ht⟩) hS.2.2 dX5_readSign_48
    · refine lv_if_ne (tgt := 34) hx hb dX5_readSign_29 (by decide) (fun cc => absurd (by decide) cc) (fun _ => ?_)
      refine lv_iconst (v := 0) hx hb dX5_readSign_32 (by decide) ?_
      exact W.zret (v := 0) hx hb hr rfl (fun t ht hW => ⟨⟨0, (st7, sl8, so9), rfl, ⟨hG, hO, hF, Or.inr (⟨n15, n16, rfl, by show st7 1 13 = _; rw [hf17], by show st7 1 14 = _; rw [hf18], by omega, by unfold lSign; rw [if_neg (by omega), hf20]⟩)⟩, xB.of ht hP⟩, hS.F ht⟩) hS.2.2 dX5_readSign_33
  · have c1 : ¬ (c 4) = 0 := fun hh => c1 ((nI_eq (a := (c 4)) (b := 0) (by omega) (by omega)).mpr hh)
    refine lv_aload_n hx hb dX5_readSign_7 rfl (lv_at hl 1 rfl) ?_
    refine lv_iconst (v := 3) hx hb dX5_readSign_8 (by decide) ?_
    refine va_calli (va_runV (As := [.int 3]) (rest := []) ⟨hx, hb, hml, hown, hts⟩ (y_X8_refuse l dC dI ad E hEE A C nb _ hN st sl so 3 B g m p (by omega) hG.1 hO.1 (CBt.fr hB hF) hT) (cwV 1 hts gX5_readSign_X8_refuse rfl rfl rfl (by decide +kernel) ⟨Nat.le_of_ble_eq_true rfl, Nat.le_of_ble_eq_true rfl⟩) ⟨fun a U g mk q => ⟨q.1, xPre.blind hEE q.2⟩, va_recv hK hP (ci := 9) (q0 := 1) rfl (xw_is (r := 1) (by omega) (xc_fix (r := 1) (by omega))), fun U hU hW => ⟨rfl, xPre.of hEE hP hK hE hS hU hW⟩⟩ rfl rfl hl.1 rfl (lv_room (Nat.le_of_ble_eq_true rfl)) dX5_readSign_9 ⟨Nat.le_of_ble_eq_true rfl, Nat.le_of_ble_eq_true rfl⟩) hS (fun q _ h => XA.le hS.1 q h) (XA.le hS.1) (fun r34 x t H locs ht hvm hw hB9 _ _ hS => ?_)
    have hP := xB.at ht hB9
    clear hB9 ht hvm
    obtain ⟨st35, sl36, so37⟩ := x
    obtain ⟨hGst35, hOst35, hFst35, hw⟩ := hw
    dsimp only at hGst35 hOst35 hFst35 hw
    have hO : OG ad [2, 3, 4] so so37 := hO.tr hOst35 (by decide)
    have hP : va_P (dC, dI) vwCl (xw A C nb st35 sl36 so37) _ := hP
    have hG : XG [1, 2, 3, 4, 5, 6, 8, 9, 12, 13, 14, 15] st st35 := hG.tr hGst35 (by decide)
    have hF : FX 4 st sl so st35 sl36 so37 := hF.tr hFst35 (by omega) (by omega)
    have hR : PT c nm st35 sl36 := hR.fr hFst35 (by omega)
    obtain ⟨rfl, hf38, hf39, hT⟩ := hw
    have hp9 := hT.2.2.2.2.2.2
    have hk1 := tkd_lt (B := B) (g := g) (m := m) (p := p)
    have hk2 := tkx_le (B := B) (g := g) (m := m) (p := p) hp9
    have hk3 := tka_le (B := B) (g := g) (m := m) (p := p) hp9 hB.2.2.1
    have hk4 := tkv_ltc (p := p) hB hp9
    have hk5 := tkw_lt (B := B) (g := g) (m := m) (p := p)
    exact W.zret (v := 0) hx hb hr rfl (fun t ht hW => ⟨⟨0, (st35, sl36, so37), rfl, ⟨hG, hO, hF, Or.inr (⟨3, (tka B g m p), rfl, by show st35 1 13 = _; rw [hf38], by show st35 1 14 = _; rw [hf39], by omega, by unfold lSign; rw [if_pos (by omega)]⟩)⟩, xB.of ht hP⟩, hS.F ht⟩) hS.2.2 dX5_readSign_12
set_option maxHeartbeats 4000000 in
set_option maxRecDepth 100000 in
theorem y_X4_clear (l : Launch) (dC : Nat → ClassId) (dI : Nat → Nat → Nat) (ad : Nat → Nat) (E : EP) (hEE : EC ad E) (A : Nat → Nat) (C : Nat → ClassId) (nb sz : Nat) (hN : XN A) (st : Nat → Nat → Int32) (sl : Nat → Nat → Int64) (so : Nat → XR) (B : Nat → Nat) (g m : Nat) (p : Nat) (hI : XI st) (hOI : OI ad so) (hB : CBt B g m st) (hT : TC B g m p ad st sl so) : Met l yX4_clear wsX4_clear ({ frames := 0, cells := 0, slots := 0, locals := 0 }) (va_Pc [.ref (A (36 + 20 * 1))] (xPre E dC dI A C nb sz st sl so)) (va_Qv (fun (x : XT) => XG [1, 2, 3, 4, 5, 6, 8, 9, 12, 13, 14, 15] st x.1 ∧ OG ad [2, 3, 4] so x.2.2 ∧ FX 4 st sl so x.1 x.2.1 x.2.2 ∧ (x.1 (36 + 20 * 1) 5 = 0 ∧ x.1 (36 + 20 * 1) 6 = 0 ∧ x.1 (36 + 20 * 1) 7 = 0 ∧ TC B g m p ad x.1 x.2.1 x.2.2 ∧ x.1 1 13 = st 1 13)) (xB dC dI A C nb) (XA A sz)) 0 0 (XA A sz) := by
  refine Met.ofW (cc := cX4_clear) (maxL := 1) (ret := none) (by decide) rfl ?_
  intro p9 e s m9 args below meth c9 s₁ B9 hml hv
  obtain ⟨rfl, hsz, hP, hK, hE⟩ := hv
  have hx := B9.exec
  have hb := B9.bytes
  have hr := B9.returns
  have hts := atoms_spec (ws := wsX4_clear) B9.pre
  have hown : s.vm.findClass RX4 = some m9.cls := findClass_of_methodNamed B9.named
  subst hsz
  have hEv := hEE.1 _ _ _ hE
  have hS : va_S (XA A s.heap.size) s.heap s.heap [] := va_S.rf
  have hG : XG [1, 2, 3, 4, 5, 6, 8, 9, 12, 13, 14, 15] st st := XG.rf hI
  have hO : OG ad [2, 3, 4] so so := OG.rf hOI
  have hl := lv_entry ([.ref (A (36 + 20 * 1))]) (n := 1) (Nat.le_of_ble_eq_true rfl)
  rw [lg_entry_eq]
  generalize (lg_sl ([.ref (A (36 + 20 * 1))]) ++ List.replicate (1 - (lg_sl ([.ref (A (36 + 20 * 1))])).length) Slot.unset).toArray = ls at hl ⊢
  have hl : lv_has ls 1 [(0, .ref (A (36 + 20 * 1)))] := hl
  have hB1 := hB.2.2.1
  have hB2 := hB.2.2.2.1
  have hF : FX 4 st sl so st sl so := FX.rf
  have hp9 := hT.2.2.2.2.2.2
  have hk1 := tkd_lt (B := B) (g := g) (m := m) (p := p)
  have hk2 := tkx_le (B := B) (g := g) (m := m) (p := p) hp9
  have hk3 := tka_le (B := B) (g := g) (m := m) (p := p) hp9 hB.2.2.1
  have hk4 := tkv_ltc (p := p) hB hp9
  have hk5 := tkw_lt (B := B) (g := g) (m := m) (p := p)
  refine lv_aload_n hx hb dX4_clear_0 rfl (lv_at hl 0 rfl) ?_
  refine lv_iconst (v := 0) hx hb dX4_clear_1 (by decide) ?_
  refine va_put (D := (dC, dI)) (ci := 5) (v := .int 0) (ty := .int) (C := RX4) (T := TX4) (N := 12) hx hb hts ii_X4_clear_X4 tyX4 tyX4_ok nmX4 hown hK hP (xD hN _ _ _ _ _ _) hS (36 + 20 * 1) (xw_is (r := (36 + 20 * 1)) (by omega) (xc_pk (i := 1) (o := 0) (by omega) (by omega))) rfl 5 (by decide) (hts _ mm_X4_clear_1) (fun _ hh => hh) rfl (by decide +kernel) rfl rfl (Nat.le_of_ble_eq_true rfl) dX4_clear_2 (fun H locs hP _ hS => ?_)
  have hP : va_P (dC, dI) vwCl (xw A C nb (up2 st (36 + 20 * 1) 5 0) sl so) H := by rw [← xset (r := (36 + 20 * 1)) (k := 5) (v := 0) (xc_pk (i := 1) (o := 0) (by omega) (by omega))]; exact hP
  obtain ⟨st1, est1⟩ : ∃ y, y = up2 st (36 + 20 * 1) 5 0 := ⟨_, rfl⟩
  have hG : XG [1, 2, 3, 4, 5, 6, 8, 9, 12, 13, 14, 15] st st1 := by rw [est1]; exact hG.up (xn (n := 0) (b := 6) ((xrg_pk (i := 1) (o := 0) (k := 5) (by omega)).trans (by first | rfl | decide)) (by omega)) (xpn (c := 7) ((xcl_pk (i := 1) (o := 0) (k := 5) (by omega)).trans (by first | rfl | decide)) (by decide))
  rw [← est1] at hP
  have hF : FX 4 st sl so st1 sl so := by rw [est1]; exact hF.up (dc_pk (o := 0) (by omega))
  have hT : TC B g m p ad st1 sl so := by rw [est1]; exact hT.up (by omega)
  refine lv_aload_n hx hb dX4_clear_5 rfl (lv_at hl 0 rfl) ?_
  refine lv_iconst (v := 0) hx hb dX4_clear_6 (by decide) ?_
  refine va_put (D := (dC, dI)) (ci := 5) (v := .int 0) (ty := .int) (C := RX4) (T := TX4) (N := 12) hx hb hts ii_X4_clear_X4 tyX4 tyX4_ok nmX4 hown hK hP (xD hN _ _ _ _ _ _) hS (36 + 20 * 1) (xw_is (r := (36 + 20 * 1)) (by omega) (xc_pk (i := 1) (o := 0) (by omega) (by omega))) rfl 6 (by decide) (hts _ mm_X4_clear_2) (fun _ hh => hh) rfl (by decide +kernel) rfl rfl (Nat.le_of_ble_eq_true rfl) dX4_clear_7 (fun H locs hP _ hS => ?_)
  have hP : va_P (dC, dI) vwCl (xw A C nb (up2 st1 (36 + 20 * 1) 6 0) sl so) H := by rw [← xset (r := (36 + 20 * 1)) (k := 6) (v := 0) (xc_pk (i := 1) (o := 0) (by omega) (by omega))]; exact hP
  obtain ⟨st2, est2⟩ : ∃ y, y = up2 st1 (36 + 20 * 1) 6 0 := ⟨_, rfl⟩
  have hG : XG [1, 2, 3, 4, 5, 6, 8, 9, 12, 13, 14, 15] st st2 := by rw [est2]; exact hG.up (xn (n := 0) (b := 9) ((xrg_pk (i := 1) (o := 0) (k := 6) (by omega)).trans (by first | rfl | decide)) (by omega)) (xpn (c := 7) ((xcl_pk (i := 1) (o := 0) (k := 6) (by omega)).trans (by first | rfl | decide)) (by decide))
  rw [← est2] at hP
  have hF : FX 4 st sl so st2 sl so := by rw [est2]; exact hF.up (dc_pk (o := 0) (by omega))
  have hT : TC B g m p ad st2 sl so := by rw [est2]; exact hT.up (by omega)
  refine lv_aload_n hx hb dX4_clear_10 rfl (lv_at hl 0 rfl) ?_
  refine lv_iconst (v := 0) hx hb dX4_clear_11 (by decide) ?_
  refine va_put (D := (dC, dI)) (ci := 5) (v := .int 0) (ty := .int) (C := RX4) (T := TX4) (N := 12) hx hb hts ii_X4_clear_X4 tyX4 tyX4_ok nmX4 hown hK hP (xD hN _ _ _ _ _ _) hS (36 + 20 * 1) (xw_is (r := (36 + 20 * 1)) (by omega) (xc_pk (i := 1) (o := 0) (by omega) (by omega))) rfl 7 (by decide) (hts _ mm_X4_clear_3) (fun _ hh => hh) rfl (by decide +kernel) rfl rfl (Nat.le_of_ble_eq_true rfl) dX4_clear_12 (fun H locs hP _ hS => ?_)
  have hP : va_P (dC, dI) vwCl (xw A C nb (up2 st2 (36 + 20 * 1) 7 0) sl so) H := by rw [← xset (r := (36 + 20 * 1)) (k := 7) (v := 0) (xc_pk (i := 1) (o := 0) (by omega) (by omega))]; exact hP
  obtain ⟨st3, est3⟩ : ∃ y, y = up2 st2 (36 + 20 * 1) 7 0 := ⟨_, rfl⟩
  have hG : XG [1, 2, 3, 4, 5, 6, 8, 9, 12, 13, 14, 15] st st3 := by rw [est3]; exact hG.up (xn (n := 0) (b := 7) ((xrg_pk (i := 1) (o := 0) (k := 7) (by omega)).trans (by first | rfl | decide)) (by omega)) (xpn (c := 7) ((xcl_pk (i := 1) (o := 0) (k := 7) (by omega)).trans (by first | rfl | decide)) (by decide))
  rw [← est3] at hP
  have hF : FX 4 st sl so st3 sl so := by rw [est3]; exact hF.up (dc_pk (o := 0) (by omega))
  have hT : TC B g m p ad st3 sl so := by rw [est3]; exact hT.up (by omega)
  refine lv_aload_n hx hb dX4_clear_15 rfl (lv_at hl 0 rfl) ?_
  refine lv_iconst (v := 2) hx hb dX4_clear_16 (by decide) ?_
  refine va_put (D := (dC, dI)) (ci := 5) (v := .int 2) (ty := .int) (C := RX4) (T := TX4) (N := 12) hx hb hts ii_X4_clear_X4 tyX4 tyX4_ok nmX4 hown hK hP (xD hN _ _ _ _ _ _) hS (36 + 20 * 1) (xw_is (r := (36 + 20 * 1)) (by omega) (xc_pk (i := 1) (o := 0) (by omega) (by omega))) rfl 8 (by decide) (hts _ mm_X4_clear_4) (fun _ hh => hh) rfl (by decide +kernel) rfl rfl (Nat.le_of_ble_eq_true rfl) dX4_clear_17 (fun H locs hP _ hS => ?_)
  have hP : va_P (dC, dI) vwCl (xw A C nb (up2 st3 (36 + 20 * 1) 8 2) sl so) H := by rw [← xset (r := (36 + 20 * 1)) (k := 8) (v := 2) (xc_pk (i := 1) (o := 0) (by omega) (by omega))]; exact hP
  obtain ⟨st4, est4⟩ : ∃ y, y = up2 st3 (36 + 20 * 1) 8 2 := ⟨_, rfl⟩
  have hG : XG [1, 2, 3, 4, 5, 6, 8, 9, 12, 13, 14, 15] st st4 := by rw [est4]; exact hG.up (xz (r := (36 + 20 * 1)) (k := 8) ((xrg_pk (i := 1) (o := 0) (k := 8) (by omega)).trans (by first | rfl | decide))) (xpn (c := 0) ((xcl_pk (i := 1) (o := 0) (k := 8) (by omega)).trans (by first | rfl | decide)) (by decide))
  rw [← est4] at hP
  have hF : FX 4 st sl so st4 sl so := by rw [est4]; exact hF.up (dc_pk (o := 0) (by omega))
  have hT : TC B g m p ad st4 sl so := by rw [est4]; exact hT.up (by omega)
  refine lv_aload_n hx hb dX4_clear_20 rfl (lv_at hl 0 rfl) ?_
  refine lv_iconst (v := 0) hx hb dX4_clear_21 (by decide) ?_
  refine va_put (D := (dC, dI)) (ci := 5) (v := .int 0) (ty := .int) (C := RX4) (T := TX4) (N := 12) hx hb hts ii_X4_clear_X4 tyX4 tyX4_ok nmX4 hown hK hP (xD hN _ _ _ _ _ _) hS (36 + 20 * 1) (xw_is (r := (36 + 20 * 1)) (by omega) (xc_pk (i := 1) (o := 0) (by omega) (by omega))) rfl 9 (by decide) (hts _ mm_X4_clear_5) (fun _ hh => hh) rfl (by decide +kernel) rfl rfl (Nat.le_of_ble_eq_true rfl) dX4_clear_22 (fun H locs hP _ hS => ?_)
  have hP : va_P (dC, dI) vwCl (xw A C nb (up2 st4 (36 + 20 * 1) 9 0) sl so) H := by rw [← xset (r := (36 + 20 * 1)) (k := 9) (v := 0) (xc_pk (i := 1) (o := 0) (by omega) (by omega))]; exact hP
  obtain ⟨st5, est5⟩ : ∃ y, y = up2 st4 (36 + 20 * 1) 9 0 := ⟨_, rfl⟩
  have hG : XG [1, 2, 3, 4, 5, 6, 8, 9, 12, 13, 14, 15] st st5 := by rw [est5]; exact hG.up (xz (r := (36 + 20 * 1)) (k := 9) ((xrg_pk (i := 1) (o := 0) (k := 9) (by omega)).trans (by first | rfl | decide))) (xpn (c := 0) ((xcl_pk (i := 1) (o := 0) (k := 9) (by omega)).trans (by first | rfl | decide)) (by decide))
  rw [← est5] at hP
  have hF : FX 4 st sl so st5 sl so := by rw [est5]; exact hF.up (dc_pk (o := 0) (by omega))
  have hT : TC B g m p ad st5 sl so := by rw [est5]; exact hT.up (by omega)
  refine lv_aload_n hx hb dX4_clear_25 rfl (lv_at hl 0 rfl) ?_
  refine lv_iconst (v := 0) hx hb dX4_clear_26 (by decide) ?_
  refine va_put (D := (dC, dI)) (ci := 5) (v := .int 0) (ty := .int) (C := RX4) (T := TX4) (N := 12) hx hb hts ii_X4_clear_X4 tyX4 tyX4_ok nmX4 hown hK hP (xD hN _ _ _ _ _ _) hS (36 + 20 * 1) (xw_is (r := (36 + 20 * 1)) (by omega) (xc_pk (i := 1) (o := 0) (by omega) (by omega))) rfl 10 (by decide) (hts _ mm_X4_clear_6) (fun _ hh => hh) rfl (by decide +kernel) rfl rfl (Nat.le_of_ble_eq_true rfl) dX4_clear_27 (fun H locs hP _ hS => ?_)
  have hP : va_P (dC, dI) vwCl (xw A C nb (up2 st5 (36 + 20 * 1) 10 0) sl so) H := by rw [← xset (r := (36 + 20 * 1)) (k := 10) (v := 0) (xc_pk (i := 1) (o := 0) (by omega) (by omega))]; exact hP
  obtain ⟨st6, est6⟩ : ∃ y, y = up2 st5 (36 + 20 * 1) 10 0 := ⟨_, rfl⟩
  have hG : XG [1, 2, 3, 4, 5, 6, 8, 9, 12, 13, 14, 15] st st6 := by rw [est6]; exact hG.up (xz (r := (36 + 20 * 1)) (k := 10) ((xrg_pk (i := 1) (o := 0) (k := 10) (by omega)).trans (by first | rfl | decide))) (xpn (c := 0) ((xcl_pk (i := 1) (o := 0) (k := 10) (by omega)).trans (by first | rfl | decide)) (by decide))
  rw [← est6] at hP
  have hF : FX 4 st sl so st6 sl so := by rw [est6]; exact hF.up (dc_pk (o := 0) (by omega))
  have hT : TC B g m p ad st6 sl so := by rw [est6]; exact hT.up (by omega)
  refine lv_aload_n hx hb dX4_clear_30 rfl (lv_at hl 0 rfl) ?_
  refine lv_iconst (v := 0) hx hb dX4_clear_31 (by decide) ?_
  refine va_put (D := (dC, dI)) (ci := 5) (v := .int 0) (ty := .int) (C := RX4) (T := TX4) (N := 12) hx hb hts ii_X4_clear_X4 tyX4 tyX4_ok nmX4 hown hK hP (xD hN _ _ _ _ _ _) hS (36 + 20 * 1) (xw_is (r := (36 + 20 * 1)) (by omega) (xc_pk (i := 1) (o := 0) (by omega) (by omega))) rfl 11 (by decide) (hts _ mm_X4_clear_7) (fun _ hh => hh) rfl (by decide +kernel) rfl rfl (Nat.le_of_ble_eq_true rfl) dX4_clear_32 (fun H locs hP _ hS => ?_)
  have hP : va_P (dC, dI) vwCl (xw A C nb (up2 st6 (36 + 20 * 1) 11 0) sl so) H := by rw [← xset (r := (36 + 20 * 1)) (k := 11) (v := 0) (xc_pk (i := 1) (o := 0) (by omega) (by omega))]; exact hP
  obtain ⟨st7, est7⟩ : ∃ y, y = up2 st6 (36 + 20 * 1) 11 0 := ⟨_, rfl⟩
  have hG : XG [1, 2, 3, 4, 5, 6, 8, 9, 12, 13, 14, 15] st st7 := by rw [est7]; exact hG.up (xz (r := (36 + 20 * 1)) (k := 11) ((xrg_pk (i := 1) (o := 0) (k := 11) (by omega)).trans (by first | rfl | decide))) (xpn (c := 0) ((xcl_pk (i := 1) (o := 0) (k := 11) (by omega)).trans (by first | rfl | decide)) (by decide))
  rw [← est7] at hP
  have hF : FX 4 st sl so st7 sl so := by rw [est7]; exact hF.up (dc_pk (o := 0) (by omega))
  have hT : TC B g m p ad st7 sl so := by rw [est7]; exact hT.up (by omega)
  exact W.vret hx hb hr (fun t ht hW => ⟨⟨(st7, sl, so), rfl, ⟨hG, hO, hF, ⟨by show st7 (36 + 20 * 1) 5 = _; rw [est7, up2_ne (r := (36 + 20 * 1)) (k := 11) (a := (36 + 20 * 1)) (j := 5) _ _ (by omega), est6, up2_ne (r := (36 + 20 * 1)) (k := 10) (a := (36 + 20 * 1)) (j := 5) _ _ (by omega), est5, up2_ne (r := (36 + 20 * 1)) (k := 9) (a := (36 + 20 * 1)) (j := 5) _ _ (by omega), est4, up2_ne (r := (36 + 20 * 1)) (k := 8) (a := (36 + 20 * 1)) (j := 5) _ _ (by omega), est3, up2_ne (r := (36 + 20 * 1)) (k := 7) (a := (36 + 20 * 1)) (j := 5) _ _ (by omega), est2, up2_ne (r := (36 + 20 * 1)) (k := 6) (a := (36 + 20 * 1)) (j := 5) _ _ (by omega), est1, up2_same], by show st7 (36 + 20 * 1) 6 = _; rw [est7, up2_ne (r := (36 + 20 * 1)) (k := 11) (a := (36 + 20 * 1)) (j := 6) _ _ (by omega), est6, up2_ne (r := (36 + 20 * 1)) (k := 10) (a := (36 + 20 * 1)) (j := 6) _ _ (by omega), est5, up2_ne (r := (36 + 20 * 1)) (k := 9) (a := (36 + 20 * 1)) (j := 6) _ _ (by omega), est4, up2_ne (r := (36 + 20 * 1)) (k := 8) (a := (36 + 20 * 1)) (j := 6) _ _ (by omega), est3, up2_ne (r := (36 + 20 * 1)) (k := 7) (a := (36 + 20 * 1)) (j := 6) _ _ (by omega), est2, up2_same], by show st7 (36 + 20 * 1) 7 = _; rw [est7, up2_ne (r := (36 + 20 * 1)) (k := 11) (a := (36 + 20 * 1)) (j := 7) _ _ (by omega), est6, up2_ne (r := (36 + 20 * 1)) (k := 10) (a := (36 + 20 * 1)) (j := 7) _ _ (by omega), est5, up2_ne (r := (36 + 20 * 1)) (k := 9) (a := (36 + 20 * 1)) (j := 7) _ _ (by omega), est4, up2_ne (r := (36 + 20 * 1)) (k := 8) (a := (36 + 20 * 1)) (j := 7) _ _ (by omega), est3, up2_same], hT, by show st7 1 13 = st 1 13; rw [est7, up2_ne (r := (36 + 20 * 1)) (k := 11) (a := 1) (j := 13) _ _ (by omega), est6, up2_ne (r := (36 + 20 * 1)) (k := 10) (a := 1) (j := 13) _ _ (by omega), est5, up2_ne (r := (36 + 20 * 1)) (k := 9) (a := 1) (j := 13) _ _ (by omega), est4, up2_ne (r := (36 + 20 * 1)) (k := 8) (a := 1) (j := 13) _ _ (by omega), est3, up2_ne (r := (36 + 20 * 1)) (k := 7) (a := 1) (j := 13) _ _ (by omega), est2, up2_ne (r := (36 + 20 * 1)) (k := 6) (a := 1) (j := 13) _ _ (by omega), est1, up2_ne (r := (36 + 20 * 1)) (k := 5) (a := 1) (j := 13) _ _ (by omega)]⟩⟩, xB.of ht hP⟩, hS.F ht⟩) hS.2.2 dX4_clear_35
