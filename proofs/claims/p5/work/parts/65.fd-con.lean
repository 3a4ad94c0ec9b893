set_option maxHeartbeats 4000000 in
set_option maxRecDepth 100000 in
theorem y_X8_takeNewName (l : Launch) (dC : Nat → ClassId) (dI : Nat → Nat → Nat) (ad : Nat → Nat) (E : EP) (hEE : EC ad E) (A : Nat → Nat) (C : Nat → ClassId) (nb sz : Nat) (hN : XN A) (st : Nat → Nat → Int32) (sl : Nat → Nat → Int64) (so : Nat → XR) (B : Nat → Nat) (g m : Nat) (p : Nat) (c : Nat → Nat) (nm : Nat → Nat → Nat) (hI : XI st) (hOI : OI ad so) (hB : CBt B g m st) (hT : TC B g m p ad st sl so) (hR : PT c nm st sl) : Met l yX8_takeNewName wsX8_takeNewName ({ frames := 6, cells := 0, slots := 0, locals := 130 }) (va_Pc [.ref (A 1), .ref (A (36 + 20 * 1))] (xPre E dC dI A C nb sz st sl so)) (va_Qi (fun (r : Int32) (x : XT) => XG [1, 2, 3, 4, 5, 6, 7, 8, 9, 12, 13, 14, 15] st x.1 ∧ OG ad [2, 3, 4] so x.2.2 ∧ FX 3 st sl so x.1 x.2.1 x.2.2 ∧ ((r = 1 ∧ tkw B g m p = 24 ∧ x.2.1 1 10 = lN (tkc B g p) ∧ V5 (tkc B g p) ∧ TC B g m (tkx B g m p) ad x.1 x.2.1 x.2.2 ∧ x.1 1 13 = st 1 13 ∧ (∀ k, eNew B g m p c nm k = k (tkx B g m p) (tkc B g p))) ∨ (∃ f : Nat, ∃ a : Nat, r = 0 ∧ x.1 1 13 = nI f ∧ x.1 1 14 = nI a ∧ (1 ≤ f ∧ f < 9) ∧ (∀ k, eNew B g m p c nm k = fl f a)))) (xB dC dI A C nb) (XA A sz)) 0 0 (XA A sz) := by
  refine Met.ofW (cc := cX8_takeNewName) (maxL := 2) (ret := (some .boolean)) (by decide) rfl ?_
  intro p9 e s m9 args below meth c9 s₁ B9 hml hv
  obtain ⟨rfl, hsz, hP, hK, hE⟩ := hv
  have hx := B9.exec
  have hb := B9.bytes
  have hr := B9.returns
  have hts := atoms_spec (ws := wsX8_takeNewName) B9.pre
  have hown : s.vm.findClass RX8 = some m9.cls := findClass_of_methodNamed B9.named
  subst hsz
  have hEv := hEE.1 _ _ _ hE
  have hS : va_S (XA A s.heap.size) s.heap s.heap [] := va_S.rf
  have hG : XG [1, 2, 3, 4, 5, 6, 7, 8, 9, 12, 13, 14, 15] st st := XG.rf hI
  have hO : OG ad [2, 3, 4] so so := OG.rf hOI
  have hl := lv_entry ([.ref (A 1), .ref (A (36 + 20 * 1))]) (n := 2) (Nat.le_of_ble_eq_true rfl)
  rw [lg_entry_eq]
  generalize (lg_sl ([.ref (A 1), .ref (A (36 + 20 * 1))]) ++ List.replicate (2 - (lg_sl ([.ref (A 1), .ref (A (36 + 20 * 1))])).length) Slot.unset).toArray = ls at hl ⊢
  have hl : lv_has ls 2 [(0, .ref (A 1)), (1, .ref (A (36 + 20 * 1)))] := hl
  have hB1 := hB.2.2.1
  have hB2 := hB.2.2.2.1
  have hF : FX 3 st sl so st sl so := FX.rf
  have hp9 := hT.2.2.2.2.2.2
  have hk1 := tkd_lt (B := B) (g := g) (m := m) (p := p)
  have hk2 := tkx_le (B := B) (g := g) (m := m) (p := p) hp9
  have hk3 := tka_le (B := B) (g := g) (m := m) (p := p) hp9 hB.2.2.1
  have hk4 := tkv_ltc (p := p) hB hp9
  have hk5 := tkw_lt (B := B) (g := g) (m := m) (p := p)
  have hR9 := hR.2.2.2.2.2.1
  have hT0 := hT
  have hR0 := hR
  have hw25 := @tkw_d B g m p
  refine lv_aload_n hx hb dX8_takeNewName_0 rfl (lv_at hl 0 rfl) ?_
  refine va_get (D := (dC, dI)) (ci := 9) (v := va_rf (so 1 7)) (C := RX8) (T := TX8) (N := 15) hx hb hts ii_X8_takeNewName_X8 hown hK hP 1 (xw_is (r := 1) (by omega) (xc_fix (r := 1) (by omega))) rfl 7 (by decide) (hts _ mm_X8_takeNewName_1) (fun _ hh => hh) rfl dX8_takeNewName_1 ?_
  refine zz_topq (r := some (ad (tkw B g m p))) (by rw [hT.2.2.2.2.2.1]) ?_
  refine va_gets (v := .ref (ad 24)) hx hb (EV.word hEv (i := 24) (by decide)) hS hown (hts _ mm_X8_takeNewName_2) (fun _ hh => hh) dX8_takeNewName_4 ?_
  refine lv_acmp_eq (rx := (some (ad (tkw B g m p)))) (ry := (some (ad 24))) (tgt := 16) hx hb dX8_takeNewName_7 (by decide) (fun c1 => ?_) (fun c1 => ?_)
  · have c1 : (tkw B g m p) = 24 := (EV.eqw hEv (i := (tkw B g m p)) (j := 24) (by omega) (by omega)).mp c1
    refine lv_aload_n hx hb dX8_takeNewName_16 rfl (lv_at hl 1 rfl) ?_
    refine lv_iconst (v := 0) hx hb dX8_takeNewName_17 (by decide) ?_
    refine lv_aload_n hx hb dX8_takeNewName_18 rfl (lv_at hl 0 rfl) ?_
    refine va_get (D := (dC, dI)) (ci := 9) (v := .long (sl 1 8)) (C := RX8) (T := TX8) (N := 15) hx hb hts ii_X8_takeNewName_X8 hown hK hP 1 (xw_is (r := 1) (by omega) (xc_fix (r := 1) (by omega))) rfl 8 (by decide) (hts _ mm_X8_takeNewName_3) (fun _ hh => hh) rfl dX8_takeNewName_19 ?_
    refine lv_topl (fun z1 ez1 => ?_)
    refine va_calli (va_runV (As := [.int 0, .long z1]) (rest := []) ⟨hx, hb, hml, hown, hts⟩ (y_numberOf0 l dC dI ad E hEE A C nb _ hN st sl so z1 c nm hG.1 hR) (cwV 2 hts gX8_takeNewName_X4_numberOf rfl rfl rfl (by decide +kernel) ⟨Nat.le_of_ble_eq_true rfl, Nat.le_of_ble_eq_true rfl⟩) ⟨fun a U g mk q => ⟨q.1, xPre.blind hEE q.2⟩, va_recv hK hP (ci := 5) (q0 := (36 + 20 * 1)) rfl (xw_is (r := (36 + 20 * 1)) (by omega) (xc_pk (i := 1) (o := 0) (by omega) (by omega))), fun U hU hW => ⟨rfl, xPre.of hEE hP hK hE hS hU hW⟩⟩ rfl rfl hl.1 rfl (lv_room (Nat.le_of_ble_eq_true rfl)) dX8_takeNewName_22 ⟨Nat.le_of_ble_eq_true rfl, Nat.le_of_ble_eq_true rfl⟩) hS (fun q _ h => XA.le hS.1 q h) (XA.le hS.1) (fun r2 x t H locs ht hvm hw hB9 _ _ hS => ?_)
    have hP := xB.at ht hB9
    clear hB9 ht hvm
    obtain ⟨rfl, hw⟩ := hw
    have hP : va_P (dC, dI) vwCl (xw A C nb st sl so) _ := hP
    rcases hw with ⟨rfl, hf3⟩ | ⟨n4, rfl, hf5, hf6⟩
    · refine lv_iconst (v := (-1)) hx hb dX8_takeNewName_25 (by decide) ?_
      refine lv_icmp_ne (tgt := 55) hx hb dX8_takeNewName_26 (by decide) (fun cc => absurd (by decide) cc) (fun _ => ?_)
      refine lv_aload_n hx hb dX8_takeNewName_29 rfl (lv_at hl 1 rfl) ?_
      refine lv_iconst (v := 1) hx hb dX8_takeNewName_30 (by decide) ?_
      refine lv_aload_n hx hb dX8_takeNewName_31 rfl (lv_at hl 0 rfl) ?_
      refine va_get (D := (dC, dI)) (ci := 9) (v := .long (sl 1 8)) (C := RX8) (T := TX8) (N := 15) hx hb hts ii_X8_takeNewName_X8 hown hK hP 1 (xw_is (r := 1) (by omega) (xc_fix (r := 1) (by omega))) rfl 8 (by decide) (hts _ mm_X8_takeNewName_3) (fun _ hh => hh) rfl dX8_takeNewName_32 ?_
      refine lv_topl (fun z7 ez7 => ?_)
      refine va_calli (va_runV (As := [.int 1, .long z7]) (rest := []) ⟨hx, hb, hml, hown, hts⟩ (y_numberOf1 l dC dI ad E hEE A C nb _ hN st sl so z7 c nm hG.1 hR) (cwV 2 hts gX8_takeNewName_X4_numberOf rfl rfl rfl (by decide +kernel) ⟨Nat.le_of_ble_eq_true rfl, Nat.le_of_ble_eq_true rfl⟩) ⟨fun a U g mk q => ⟨q.1, xPre.blind hEE q.2⟩, va_recv hK hP (ci := 5) (q0 := (36 + 20 * 1)) rfl (xw_is (r := (36 + 20 * 1)) (by omega) (xc_pk (i := 1) (o := 0) (by omega) (by omega))), fun U hU hW => ⟨rfl, xPre.of hEE hP hK hE hS hU hW⟩⟩ rfl rfl hl.1 rfl (lv_room (Nat.le_of_ble_eq_true rfl)) dX8_takeNewName_35 ⟨Nat.le_of_ble_eq_true rfl, Nat.le_of_ble_eq_true rfl⟩) hS (fun q _ h => XA.le hS.1 q h) (XA.le hS.1) (fun r8 x t H locs ht hvm hw hB9 _ _ hS => ?_)
      have hP := xB.at ht hB9
      clear hB9 ht hvm
      obtain ⟨rfl, hw⟩ := hw
      have hP : va_P (dC, dI) vwCl (xw A C nb st sl so) _ := hP
      rcases hw with ⟨rfl, hf9⟩ | ⟨n10, rfl, hf11, hf12⟩
      · refine lv_iconst (v := (-1)) hx hb dX8_takeNewName_38 (by decide) ?_
        refine lv_icmp_ne (tgt := 55) hx hb dX8_takeNewName_39 (by decide) (fun cc => absurd (by decide) cc) (fun _ => ?_)
        refine lv_aload_n hx hb dX8_takeNewName_42 rfl (lv_at hl 1 rfl) ?_
        refine lv_iconst (v := 2) hx hb dX8_takeNewName_43 (by decide) ?_
        refine lv_aload_n hx hb dX8_takeNewName_44 rfl (lv_at hl 0 rfl) ?_
        refine va_get (D := (dC, dI)) (ci := 9) (v := .long (sl 1 8)) (C := RX8) (T := TX8) (N := 15) hx hb hts ii_X8_takeNewName_X8 hown hK hP 1 (xw_is (r := 1) (by omega) (xc_fix (r := 1) (by omega))) rfl 8 (by decide) (hts _ mm_X8_takeNewName_3) (fun _ hh => hh) rfl dX8_takeNewName_45 ?_
        refine lv_topl (fun z13 ez13 => ?_)
        refine va_calli (va_runV (As := [.int 2, .long z13]) (rest := []) ⟨hx, hb, hml, hown, hts⟩ (y_numberOf2 l dC dI ad E hEE A C nb _ hN st sl so z13 c nm hG.1 hR) (cwV 2 hts gX8_takeNewName_X4_numberOf rfl rfl rfl (by decide +kernel) ⟨Nat.le_of_ble_eq_true rfl, Nat.le_of_ble_eq_true rfl⟩) ⟨fun a U g mk q => ⟨q.1, xPre.blind hEE q.2⟩, va_recv hK hP (ci := 5) (q0 := (36 + 20 * 1)) rfl (xw_is (r := (36 + 20 * 1)) (by omega) (xc_pk (i := 1) (o := 0) (by omega) (by omega))), fun U hU hW => ⟨rfl, xPre.of hEE hP hK hE hS hU hW⟩⟩ rfl rfl hl.1 rfl (lv_room (Nat.le_of_ble_eq_true rfl)) dX8_takeNewName_48 ⟨Nat.le_of_ble_eq_true rfl, Nat.le_of_ble_eq_true rfl⟩) hS (fun q _ h => XA.le hS.1 q h) (XA.le hS.1) (fun r14 x t H locs ht hvm hw hB9 _ _ hS => ?_)
        have hP := xB.at ht hB9
        clear hB9 ht hvm
        obtain ⟨rfl, hw⟩ := hw
        have hP : va_P (dC, dI) vwCl (xw A C nb st sl so) _ := hP
        rcases hw with ⟨rfl, hf15⟩ | ⟨n16, rfl, hf17, hf18⟩
        · refine lv_iconst (v := (-1)) hx hb dX8_takeNewName_51 (by decide) ?_
          refine lv_icmp_eq (tgt := 61) hx hb dX8_takeNewName_52 (by decide) (fun _ => ?_) (fun cc => absurd (by decide) cc)
          refine lv_aload_n hx hb dX8_takeNewName_61 rfl (lv_at hl 0 rfl) ?_
          refine lv_aload_n hx hb dX8_takeNewName_62 rfl (lv_at hl 0 rfl) ?_
          refine va_get (D := (dC, dI)) (ci := 9) (v := .long (sl 1 8)) (C := RX8) (T := TX8) (N := 15) hx hb hts ii_X8_takeNewName_X8 hown hK hP 1 (xw_is (r := 1) (by omega) (xc_fix (r := 1) (by omega))) rfl 8 (by decide) (hts _ mm_X8_takeNewName_3) (fun _ hh => hh) rfl dX8_takeNewName_63 ?_
          refine lv_topl (fun z19 ez19 => ?_)
          refine va_put (D := (dC, dI)) (ci := 9) (v := .long z19) (ty := .long) (C := RX8) (T := TX8) (N := 15) hx hb hts ii_X8_takeNewName_X8 tyX8 tyX8_ok nmX8 hown hK hP (xD hN _ _ _ _ _ _) hS 1 (xw_is (r := 1) (by omega) (xc_fix (r := 1) (by omega))) rfl 10 (by decide) (hts _ mm_X8_takeNewName_4) (fun _ hh => hh) rfl (by decide +kernel) rfl rfl (Nat.le_of_ble_eq_true rfl) dX8_takeNewName_66 (fun H locs hP _ hS => ?_)
          have hP : va_P (dC, dI) vwCl (xw A C nb st (upL sl 1 10 z19) so) H := by rw [← xsetL (r := 1) (k := 10) (v := z19) (xc_fix (r := 1) (by omega))]; exact hP
          obtain ⟨sl20, esl20⟩ : ∃ y, y = upL sl 1 10 z19 := ⟨_, rfl⟩
          rw [← esl20] at hP
          have hF : FX 3 st sl so st sl20 so := by rw [esl20]; exact hF.upL (by decide)
          have hT : TC B g m p ad st sl20 so := by rw [esl20]; exact hT.upL (by omega)
          have hR : PT c nm st sl20 := by rw [esl20]; exact hR.upL (by omega)
          refine lv_aload_n hx hb dX8_takeNewName_69 rfl (lv_at hl 0 rfl) ?_
          refine va_callv (va_runV (As := []) (rest := []) ⟨hx, hb, hml, hown, hts⟩ (y_X8_step l dC dI ad E hEE A C nb _ hN st sl20 so B g m (tkx B g m p) hG.1 hO.1 (CBt.fr hB hF) hT.1 hk2.2) (cwV 0 hts gX8_takeNewName_X8_step rfl rfl rfl (by decide +kernel) ⟨Nat.le_of_ble_eq_true rfl, Nat.le_of_ble_eq_true rfl⟩) ⟨fun a U g mk q => ⟨q.1, xPre.blind hEE q.2⟩, va_recv hK hP (ci := 9) (q0 := 1) rfl (xw_is (r := 1) (by omega) (xc_fix (r := 1) (by omega))), fun U hU hW => ⟨rfl, xPre.of hEE hP hK hE hS hU hW⟩⟩ rfl rfl hl.1 rfl (lv_room (Nat.le_of_ble_eq_true rfl)) dX8_takeNewName_70 ⟨Nat.le_of_ble_eq_true rfl, Nat.le_of_ble_eq_true rfl⟩) hS (fun q _ h => XA.le hS.1 q h) (XA.le hS.1) (fun x t H locs ht hvm hw hB9 _ _ hS => ?_)
          have hP := xB.at ht hB9
          clear hB9 ht hvm
          obtain ⟨st22, sl23, so24⟩ := x
          obtain ⟨hGst22, hOst22, hFst22, hw⟩ := hw
          dsimp only at hGst22 hOst22 hFst22 hw
          have hO : OG ad [2, 3, 4] so so24 := hO.tr hOst22 (by decide)
          have hP : va_P (dC, dI) vwCl (xw A C nb st22 sl23 so24) _ := hP
          have hG : XG [1, 2, 3, 4, 5, 6, 7, 8, 9, 12, 13, 14, 15] st st22 := hG.tr hGst22 (by decide)
          have hF : FX 3 st sl so st22 sl23 so24 := hF.tr hFst22 (by omega) (by omega)
          have hR : PT c nm st22 sl23 := hR.fr hFst22 (by omega)
          have hT := hw
          have hp9 := hT.2.2.2.2.2.2
          have hk1 := tkd_lt (B := B) (g := g) (m := m) (p := (tkx B g m p))
          have hk2 := tkx_le (B := B) (g := g) (m := m) (p := (tkx B g m p)) hp9
          have hk3 := tka_le (B := B) (g := g) (m := m) (p := (tkx B g m p)) hp9 hB.2.2.1
          have hk4 := tkv_ltc (p := (tkx B g m p)) hB hp9
          have hk5 := tkw_lt (B := B) (g := g) (m := m) (p := (tkx B g m p))
          refine lv_iconst (v := 1) hx hb dX8_takeNewName_73 (by decide) ?_
          exact W.zret (v := 1) hx hb hr rfl (fun t ht hW => ⟨⟨1, (st22, sl23, so24), rfl, ⟨hG, hO, hF, Or.inl (⟨rfl, by omega, by show sl23 1 10 = _; rw [(hFst22 1 10 (by decide)).2.1, esl20, upL_same, ez19]; exact (hT0.2.2.2.2.1 (by omega)), tkc_V (m := m) (by omega) hB1 (by omega), hT, by show st22 1 13 = st 1 13; rw [(hFst22 1 13 (by decide)).1], fun k => by unfold eNew; rw [if_neg (by omega), if_neg (kna_f (knw_f _ (hR0.nk0 (fun i hi => by rw [← (hT0.2.2.2.2.1 (by omega)), ← ez1]; exact hf3 i hi))) (knw_f _ (hR0.nk1 (fun i hi => by rw [← (hT0.2.2.2.2.1 (by omega)), ← ez7]; exact hf9 i hi))) (knw_f _ (hR0.nk2 (fun i hi => by rw [← (hT0.2.2.2.2.1 (by omega)), ← ez13]; exact hf15 i hi))))]⟩)⟩, xB.of ht hP⟩, hS.F ht⟩) hS.2.2 dX8_takeNewName_74
        · refine lv_iconst (v := (-1)) hx hb dX8_takeNewName_51 (by decide) ?_
          refine lv_icmp_eq (tgt := 61) hx hb dX8_takeNewName_52 (by decide) (fun cc => absurd cc (nI_nem (by omega))) (fun _ => ?_)
          refine lv_aload_n hx hb dX8_takeNewName_55 rfl (lv_at hl 0 rfl) ?_
          refine lv_iconst (v := 3) hx hb dX8_takeNewName_56 (by decide) ?_
          refine va_calli (va_runV (As := [.int 3]) (rest := []) ⟨hx, hb, hml, hown, hts⟩ (y_X8_refuse l dC dI ad E hEE A C nb _ hN st sl so 3 B g m p (by omega) hG.1 hO.1 (CBt.fr hB hF) hT) (cwV 1 hts gX8_takeNewName_X8_refuse rfl rfl rfl (by decide +kernel) ⟨Nat.le_of_ble_eq_true rfl, Nat.le_of_ble_eq_true rfl⟩) ⟨fun a U g mk q => ⟨q.1, xPre.blind hEE q.2⟩, va_recv hK hP (ci := 9) (q0 := 1) rfl (xw_is (r := 1) (by omega) (xc_fix (r := 1) (by omega))), fun U hU hW => ⟨rfl, xPre.of hEE hP hK hE hS hU hW⟩⟩ rfl rfl hl.1 rfl (lv_room (Nat.le_of_ble_eq_true rfl)) dX8_takeNewName_57 ⟨Nat.le_of_ble_eq_true rfl, Nat.le_of_ble_eq_true rfl⟩) hS (fun q _ h => XA.le hS.1 q h) (XA.le hS.1) (fun r25 x t H locs ht hvm hw hB9 _ _ hS => ?_)
          have hP := xB.at ht hB9
          clear hB9 ht hvm
          obtain ⟨st26, sl27, so28⟩ := x
          obtain ⟨hGst26, hOst26, hFst26, hw⟩ := hw
          dsimp only at hGst26 hOst26 hFst26 hw
          have hO : OG ad [2, 3, 4] so so28 := hO.tr hOst26 (by decide)
          have hP : va_P (dC, dI) vwCl (xw A C nb st26 sl27 so28) _ := hP
          have hG : XG [1, 2, 3, 4, 5, 6, 7, 8, 9, 12, 13, 14, 15] st st26 := hG.tr hGst26 (by decide)
          have hF : FX 3 st sl so st26 sl27 so28 := hF.tr hFst26 (by omega) (by omega)
          have hR : PT c nm st26 sl27 := hR.fr hFst26 (by omega)
          obtain ⟨rfl, hf29, hf30, hT⟩ := hw
          have hp9 := hT.2.2.2.2.2.2
          have hk1 := tkd_lt (B := B) (g := g) (m := m) (p := p)
          have hk2 := tkx_le (B := B) (g := g) (m := m) (p := p) hp9
          have hk3 := tka_le (B := B) (g := g) (m := m) (p := p) hp9 hB.2.2.1
          have hk4 := tkv_ltc (p := p) hB hp9
          have hk5 := tkw_lt (B := B) (g := g) (m := m) (p := p)
          exact W.zret (v := 0) hx hb hr rfl (fun t ht hW => ⟨⟨0, (st26, sl27, so28), rfl, ⟨hG, hO, hF, Or.inr (⟨3, (tka B g m p), rfl, by show st26 1 13 = _; rw [hf29], by show st26 1 14 = _; rw [hf30], by omega, fun k => by unfold eNew; rw [if_neg (by omega), if_pos (kna_t (a := 2) (by decide) (knw_t (n := c 2) (i := n16) hf17 (hR0.kn2 hf17 (tkc_V (m := m) (by omega) hB1 (by omega)) (hf18.trans (by rw [ez13]; exact (hT0.2.2.2.2.1 (by omega)))))))]⟩)⟩, xB.of ht hP⟩, hS.F ht⟩) hS.2.2 dX8_takeNewName_60
      · refine lv_iconst (v := (-1)) hx hb dX8_takeNewName_38 (by decide) ?_
        refine lv_icmp_ne (tgt := 55) hx hb dX8_takeNewName_39 (by decide) (fun _ => ?_) (fun cc => absurd cc (nI_nem (by omega)))
        refine lv_aload_n hx hb dX8_takeNewName_55 rfl (lv_at hl 0 rfl) ?_
        refine lv_iconst (v := 3) hx hb dX8_takeNewName_56 (by decide) ?_
        refine va_calli (va_runV (As := [.int 3]) (rest := []) ⟨hx, hb, hml, hown, hts⟩ (y_X8_refuse l dC dI ad E hEE A C nb _ hN st sl so 3 B g m p (by omega) hG.1 hO.1 (CBt.fr hB hF) hT) (cwV 1 hts gX8_takeNewName_X8_refuse rfl rfl rfl (by decide +kernel) ⟨Nat.le_of_ble_eq_true rfl, Nat.le_of_ble_eq_true rfl⟩) ⟨fun a U g mk q => ⟨q.1, xPre.blind hEE q.2⟩, va_recv hK hP (ci := 9) (q0 := 1) rfl (xw_is (r := 1) (by omega) (xc_fix (r := 1) (by omega))), fun U hU hW => ⟨rfl, xPre.of hEE hP hK hE hS hU hW⟩⟩ rfl rfl hl.1 rfl (lv_room (Nat.le_of_ble_eq_true rfl)) dX8_takeNewName_57 ⟨Nat.le_of_ble_eq_true rfl, Nat.le_of_ble_eq_true rfl⟩) hS (fun q _ h => XA.le hS.1 q h) (XA.le hS.1) (fun r31 x t H locs ht hvm hw hB9 _ _ hS => ?_)
        have hP := xB.at ht hB9
        clear hB9 ht hvm
        obtain ⟨st32, sl33, so34⟩ := x
        obtain ⟨hGst32, hOst32, hFst32, hw⟩ := hw
        dsimp only at hGst32 hOst32 hFst32 hw
        have hO : OG ad [2, 3, 4] so so34 := hO.tr hOst32 (by decide)
        have hP : va_P (dC, dI) vwCl (xw A C nb st32 sl33 so34) _ := hP
        have hG : XG [1, 2, 3, 4, 5, 6, 7, 8, 9, 12, 13, 14, 15] st st32 := hG.tr hGst32 (by decide)
        have hF : FX 3 st sl so st32 sl33 so34 := hF.tr hFst32 (by omega) (by omega)
        have hR : PT c nm st32 sl33 := hR.fr hFst32 (by omega)
        obtain ⟨rfl, hf35, hf36, hT⟩ := hw
        have hp9 := hT.2.2.2.2.2.2
        have hk1 := tkd_lt (B := B) (g := g) (m := m) (p := p)
        have hk2 := tkx_le (B := B) (g := g) (m := m) (p := p) hp9
        have hk3 := tka_le (B := B) (g := g) (m := m) (p := p) hp9 hB.2.2.1
        have hk4 := tkv_ltc (p := p) hB hp9
        have hk5 := tkw_lt (B := B) (g := g) (m := m) (p := p)
        exact W.zret (v := 0) hx hb hr rfl (fun t ht hW => ⟨⟨0, (st32, sl33, so34), rfl, ⟨hG, hO, hF, Or.inr (⟨3, (tka B g m p), rfl, by show st32 1 13 = _; rw [hf35], by show st32 1 14 = _; rw [hf36], by omega, fun k => by unfold eNew; rw [if_neg (by omega), if_pos (kna_t (a := 1) (by decide) (knw_t (n := c 1) (i := n10) hf11 (hR0.kn1 hf11 (tkc_V (m := m) (by omega) hB1 (by omega)) (hf12.trans (by rw [ez7]; exact (hT0.2.2.2.2.1 (by omega)))))))]⟩)⟩, xB.of ht hP⟩, hS.F ht⟩) hS.2.2 dX8_takeNewName_60
    · refine lv_iconst (v := (-1)) hx hb dX8_takeNewName_25 (by decide) ?_
      refine lv_icmp_ne (tgt := 55) hx hb dX8_takeNewName_26 (by decide) (fun _ => ?_) (fun cc => absurd cc (nI_nem (by omega)))
      refine lv_aload_n hx hb dX8_takeNewName_55 rfl (lv_at hl 0 rfl) ?_
      refine lv_iconst (v := 3) hx hb dX8_takeNewName_56 (by decide) ?_
      refine va_calli (va_runV (As := [.int 3]) (rest := []) ⟨hx, hb, hml, hown, hts⟩ (y_X8_refuse l dC dI ad E hEE A C nb _ hN st sl so 3 B g m p (by omega) hG.1 hO.1 (CBt.fr hB hF) hT) (cwV 1 hts gX8_takeNewName_X8_refuse rfl rfl rfl (by decide +kernel) ⟨Nat.le_of_ble_eq_true rfl, Nat.le_of_ble_eq_true rfl⟩) ⟨fun a U g mk q => ⟨q.1, xPre.blind hEE q.2⟩, va_recv hK hP (ci := 9) (q0 := 1) rfl (xw_is (r := 1) (by omega) (xc_fix (r := 1) (by omega))), fun U hU hW => ⟨rfl, xPre.of hEE hP hK hE hS hU hW⟩⟩ rfl rfl hl.1 rfl (lv_room (Nat.le_of_ble_eq_true rfl)) dX8_takeNewName_57 ⟨Nat.le_of_ble_eq_true rfl, Nat.le_of_ble_eq_true rfl⟩) hS (fun q _ h => XA.le hS.1 q h) (XA.le hS.1) (fun r37 x t H locs ht hvm hw hB9 _ _ hS => ?_)
      have hP := xB.at ht hB9
      clear hB9 ht hvm
      obtain ⟨st38, sl39, so40⟩ := x
      obtain ⟨hGst38, hOst38, hFst38, hw⟩ := hw
      dsimp only at hGst38 hOst38 hFst38 hw
      have hO : OG ad [2, 3, 4] so so40 := hO.tr hOst38 (by decide)
      have hP : va_P (dC, dI) vwCl (xw A C nb st38 sl39 so40) _ := hP
      have hG : XG [1, 2, 3, 4, 5, 6, 7, 8, 9, 12, 13, 14, 15] st st38 := hG.tr hGst38 (by decide)
      have hF : FX 3 st sl so st38 sl39 so40 := hF.tr hFst38 (by omega) (by omega)
      have hR : PT c nm st38 sl39 := hR.fr hFst38 (by omega)
      obtain ⟨rfl, hf41, hf42, hT⟩ := hw
      have hp9 := hT.2.2.2.2.2.2
      have hk1 := tkd_lt (B := B) (g := g) (m := m) (p := p)
      have hk2 := tkx_le (B := B) (g := g) (m := m) (p := p) hp9
      have hk3 := tka_le (B := B) (g := g) (m := m) (p := p) hp9 hB.2.2.1
      have hk4 := tkv_ltc (p := p) hB hp9
      have hk5 := tkw_lt (B := B) (g := g) (m := m) (p := p)
      exact W.zret (v := 0) hx hb hr rfl (fun t ht hW => ⟨⟨0, (st38, sl39, so40), rfl, ⟨hG, hO, hF, Or.inr (⟨3, (tka B g m p), rfl, by show st38 1 13 = _; rw [hf41], by show st38 1 14 = _; rw [hf42], by omega, fun k => by unfold eNew; rw [if_neg (by omega), if_pos (kna_t (a := 0) (by decide) (knw_t (n := c 0) (i := n4) hf5 (hR0.kn0 hf5 (tkc_V (m := m) (by omega) hB1 (by omega)) (hf6.trans (by rw [ez1]; exact (hT0.2.2.2.2.1 (by omega)))))))]⟩)⟩, xB.of ht hP⟩, hS.F ht⟩) hS.2.2 dX8_takeNewName_60
  · have c1 : ¬ (tkw B g m p) = 24 := fun hh => c1 ((EV.eqw hEv (i := (tkw B g m p)) (j := 24) (by omega) (by omega)).mpr hh)
    refine lv_aload_n hx hb dX8_takeNewName_10 rfl (lv_at hl 0 rfl) ?_
    refine lv_iconst (v := 1) hx hb dX8_takeNewName_11 (by decide) ?_
    refine va_calli (va_runV (As := [.int 1]) (rest := []) ⟨hx, hb, hml, hown, hts⟩ (y_X8_refuse l dC dI ad E hEE A C nb _ hN st sl so 1 B g m p (by omega) hG.1 hO.1 (CBt.fr hB hF) hT) (cwV 1 hts gX8_takeNewName_X8_refuse rfl rfl rfl (by decide +kernel) ⟨Nat.le_of_ble_eq_true rfl, Nat.le_of_ble_eq_true rfl⟩) ⟨fun a U g mk q => ⟨q.1, xPre.blind hEE q.2⟩, va_recv hK hP (ci := 9) (q0 := 1) rfl (xw_is (r := 1) (by omega) (xc_fix (r := 1) (by omega))), fun U hU hW => ⟨rfl, xPre.of hEE hP hK hE hS hU hW⟩⟩ rfl rfl hl.1 rfl (lv_room (Nat.le_of_ble_eq_true rfl)) dX8_takeNewName_12 ⟨Nat.le_of_ble_eq_true rfl, Nat.le_of_ble_eq_true rfl⟩) hS (fun q _ h => XA.le hS.1 q h) (XA.le hS.1) (fun r43 x t H locs ht hvm hw hB9 _ _ hS => ?_)
    have hP := xB.at ht hB9
    clear hB9 ht hvm
    obtain ⟨st44, sl45, so46⟩ := x
    obtain ⟨hGst44, hOst44, hFst44, hw⟩ := hw
    dsimp only at hGst44 hOst44 hFst44 hw
    have hO : OG ad [2, 3, 4] so so46 := hO.tr hOst44 (by decide)
    have hP : va_P (dC, dI) vwCl (xw A C nb st44 sl45 so46) _ := hP
    have hG : XG [1, 2, 3, 4, 5, 6, 7, 8, 9, 12, 13, 14, 15] st st44 := hG.tr hGst44 (by decide)
    have hF : FX 3 st sl so st44 sl45 so46 := hF.tr hFst44 (by omega) (by omega)
    have hR : PT c nm st44 sl45 := hR.fr hFst44 (by omega)
    obtain ⟨rfl, hf47, hf48, hT⟩ := hw
    have hp9 := hT.2.2.2.2.2.2
    have hk1 := tkd_lt (B := B) (g := g) (m := m) (p := p)
    have hk2 := tkx_le (B := B) (g := g) (m := m) (p := p) hp9
    have hk3 := tka_le (B := B) (g := g) (m := m) (p := p) hp9 hB.2.2.1
    have hk4 := tkv_ltc (p := p) hB hp9
    have hk5 := tkw_lt (B := B) (g := g) (m := m) (p := p)
    exact W.zret (v := 0) hx hb hr rfl (fun t ht hW => ⟨⟨0, (st44, sl45, so46), rfl, ⟨hG, hO, hF, Or.inr (⟨1, (tka B g m p), rfl, by show st44 1 13 = _; rw [hf47], by show st44 1 14 = _; rw [hf48], by omega, fun k => by unfold eNew; rw [if_pos (by omega)]⟩)⟩, xB.of ht hP⟩, hS.F ht⟩) hS.2.2 dX8_takeNewName_15
set_option maxHeartbeats 4000000 in
set_option maxRecDepth 100000 in
theorem y_X4_addPlace (l : Launch) (dC : Nat → ClassId) (dI : Nat → Nat → Nat) (ad : Nat → Nat) (E : EP) (hEE : EC ad E) (A : Nat → Nat) (C : Nat → ClassId) (nb sz : Nat) (hN : XN A) (st : Nat → Nat → Int32) (sl : Nat → Nat → Int64) (so : Nat → XR) (vw : Int64) (vf : Int32) (B : Nat → Nat) (g m : Nat) (p : Nat) (c : Nat → Nat) (nm : Nat → Nat → Nat) (gx : Nat) (hvf : vf = 0 ∨ vf = 1) (hI : XI st) (hOI : OI ad so) (hB : CBt B g m st) (hT : TC B g m p ad st sl so) (hR : PT c nm st sl) (hgx : vw = lN gx) (hgx2 : V5 gx) (hgm : c 0 < 5) : Met l yX4_addPlace wsX4_addPlace ({ frames := 0, cells := 0, slots := 0, locals := 0 }) (va_Pc [.ref (A (36 + 20 * 1)), .long vw, .int vf] (xPre E dC dI A C nb sz st sl so)) (va_Qv (fun (x : XT) => XG [1, 2, 3, 4, 5, 6, 8, 9, 12, 13, 14, 15] st x.1 ∧ OG ad [2, 3, 4] so x.2.2 ∧ FX 4 st sl so x.1 x.2.1 x.2.2 ∧ (PT (uN c 0 (c 0 + 1)) (uM nm 0 (c 0) gx) x.1 x.2.1 ∧ TC B g m p ad x.1 x.2.1 x.2.2 ∧ x.1 1 13 = st 1 13)) (xB dC dI A C nb) (XA A sz)) 0 0 (XA A sz) := by
  refine Met.ofW (cc := cX4_addPlace) (maxL := 4) (ret := none) (by decide) rfl ?_
  intro p9 e s m9 args below meth c9 s₁ B9 hml hv
  obtain ⟨rfl, hsz, hP, hK, hE⟩ := hv
  have hx := B9.exec
  have hb := B9.bytes
  have hr := B9.returns
  have hts := atoms_spec (ws := wsX4_addPlace) B9.pre
  have hown : s.vm.findClass RX4 = some m9.cls := findClass_of_methodNamed B9.named
  subst hsz
  have hEv := hEE.1 _ _ _ hE
  have hS : va_S (XA A s.heap.size) s.heap s.heap [] := va_S.rf
  have hG : XG [1, 2, 3, 4, 5, 6, 8, 9, 12, 13, 14, 15] st st := XG.rf hI
  have hO : OG ad [2, 3, 4] so so := OG.rf hOI
  have hl := lv_entry ([.ref (A (36 + 20 * 1)), .long vw, .int vf]) (n := 4) (Nat.le_of_ble_eq_true rfl)
  rw [lg_entry_eq]
  generalize (lg_sl ([.ref (A (36 + 20 * 1)), .long vw, .int vf]) ++ List.replicate (4 - (lg_sl ([.ref (A (36 + 20 * 1)), .long vw, .int vf])).length) Slot.unset).toArray = ls at hl ⊢
  have hl : lv_has ls 4 [(0, .ref (A (36 + 20 * 1))), (1, .long vw), (3, .int vf)] := hl
  have hB1 := hB.2.2.1
  have hB2 := hB.2.2.2.1
  have hF : FX 4 st sl so st sl so := FX.rf
  have hp9 := hT.2.2.2.2.2.2
  have hk1 := tkd_lt (B := B) (g := g) (m := m) (p := p)
  have hk2 := tkx_le (B := B) (g := g) (m := m) (p := p) hp9
  have hk3 := tka_le (B := B) (g := g) (m := m) (p := p) hp9 hB.2.2.1
  have hk4 := tkv_ltc (p := p) hB hp9
  have hk5 := tkw_lt (B := B) (g := g) (m := m) (p := p)
  have hR9 := hR.2.2.2.2.2.1
  refine lv_aload_n hx hb dX4_addPlace_0 rfl (lv_at hl 0 rfl) ?_
  refine va_get (D := (dC, dI)) (ci := 5) (v := .ref (A (36 + 20 * 1 + 1))) (C := RX4) (T := TX4) (N := 12) hx hb hts ii_X4_addPlace_X4 hown hK hP (36 + 20 * 1) (xw_is (r := (36 + 20 * 1)) (by omega) (xc_pk (i := 1) (o := 0) (by omega) (by omega))) rfl 0 (by decide) (hts _ mm_X4_addPlace_1) (fun _ hh => hh) rfl dX4_addPlace_1 ?_
  refine lv_aload_n hx hb dX4_addPlace_4 rfl (lv_at hl 0 rfl) ?_
  refine va_get (D := (dC, dI)) (ci := 5) (v := .int (st (36 + 20 * 1) 5)) (C := RX4) (T := TX4) (N := 12) hx hb hts ii_X4_addPlace_X4 hown hK hP (36 + 20 * 1) (xw_is (r := (36 + 20 * 1)) (by omega) (xc_pk (i := 1) (o := 0) (by omega) (by omega))) rfl 5 (by decide) (hts _ mm_X4_addPlace_2) (fun _ hh => hh) rfl dX4_addPlace_5 ?_
  refine zz_top (v := (nI (c 0))) (by show st (36 + 20 * 1) 5 = _; rw [hR.1]) ?_
  refine lv_lload_n hx hb dX4_addPlace_8 rfl (lv_at hl 1 rfl) ?_
  refine va_last hx hb hK hP (xD hN _ _ _ _ _ _) hS (36 + 20 * 1 + 1) (36 + 20 * 1 + 1) (xw_is (r := (36 + 20 * 1 + 1)) (by omega) (xc_pk (i := 1) (o := 1) (by omega) (by omega))) (xt_is (r := (36 + 20 * 1 + 1)) (by omega) ((xty_pk (i := 1) (o := 1) (by omega)).trans rfl)) (i := (nI (c 0))) (vp_in_nI (by omega) (by decide)) dX4_addPlace_9 (fun H locs hP _ hS => ?_)
  rw [nI_clamp (by omega)] at hP
  have hP : va_P (dC, dI) vwCl (xw A C nb st (upL sl (36 + 20 * 1 + 1) (c 0) vw) so) H := by rw [← xsetL (r := (36 + 20 * 1 + 1)) (k := (c 0)) (v := vw) (xc_pk (i := 1) (o := 1) (by omega) (by omega))]; exact hP
  obtain ⟨sl1, esl1⟩ : ∃ y, y = upL sl (36 + 20 * 1 + 1) (c 0) vw := ⟨_, rfl⟩
  rw [← esl1] at hP
  have hF : FX 4 st sl so st sl1 so := by rw [esl1]; exact hF.upL (dc_pk (o := 1) (by omega))
  have hT : TC B g m p ad st sl1 so := by rw [esl1]; exact hT.upL (by omega)
  have hR : PT c nm st sl1 := by rw [esl1]; exact hR.slot0 (by omega)
  refine lv_aload_n hx hb dX4_addPlace_10 rfl (lv_at hl 0 rfl) ?_
  refine va_get (D := (dC, dI)) (ci := 5) (v := .ref (A (36 + 20 * 1 + 2))) (C := RX4) (T := TX4) (N := 12) hx hb hts ii_X4_addPlace_X4 hown hK hP (36 + 20 * 1) (xw_is (r := (36 + 20 * 1)) (by omega) (xc_pk (i := 1) (o := 0) (by omega) (by omega))) rfl 1 (by decide) (hts _ mm_X4_addPlace_3) (fun _ hh => hh) rfl dX4_addPlace_11 ?_
  refine lv_aload_n hx hb dX4_addPlace_14 rfl (lv_at hl 0 rfl) ?_
  refine va_get (D := (dC, dI)) (ci := 5) (v := .int (st (36 + 20 * 1) 5)) (C := RX4) (T := TX4) (N := 12) hx hb hts ii_X4_addPlace_X4 hown hK hP (36 + 20 * 1) (xw_is (r := (36 + 20 * 1)) (by omega) (xc_pk (i := 1) (o := 0) (by omega) (by omega))) rfl 5 (by decide) (hts _ mm_X4_addPlace_2) (fun _ hh => hh) rfl dX4_addPlace_15 ?_
  refine zz_top (v := (nI (c 0))) (by show st (36 + 20 * 1) 5 = _; rw [hR.1]) ?_
  refine lv_iconst (v := 0) hx hb dX4_addPlace_18 (by decide) ?_
  refine va_iast hx hb hK hP (xD hN _ _ _ _ _ _) hS (36 + 20 * 1 + 2) (36 + 20 * 1 + 2) (xw_is (r := (36 + 20 * 1 + 2)) (by omega) (xc_pk (i := 1) (o := 2) (by omega) (by omega))) (xt_is (r := (36 + 20 * 1 + 2)) (by omega) ((xty_pk (i := 1) (o := 2) (by omega)).trans rfl)) (i := (nI (c 0))) (vp_in_nI (by omega) (by decide)) dX4_addPlace_19 (fun H locs hP _ hS => ?_)
  rw [nI_clamp (by omega)] at hP
  have hP : va_P (dC, dI) vwCl (xw A C nb (up2 st (36 + 20 * 1 + 2) (c 0) 0) sl1 so) H := by rw [← xset (r := (36 + 20 * 1 + 2)) (k := (c 0)) (v := 0) (xc_pk (i := 1) (o := 2) (by omega) (by omega))]; exact hP
  obtain ⟨st2, est2⟩ : ∃ y, y = up2 st (36 + 20 * 1 + 2) (c 0) 0 := ⟨_, rfl⟩
  have hG : XG [1, 2, 3, 4, 5, 6, 8, 9, 12, 13, 14, 15] st st2 := by rw [est2]; exact hG.up (xz (r := (36 + 20 * 1 + 2)) (k := (c 0)) ((xrg_pk (i := 1) (o := 2) (k := (c 0)) (by omega)).trans (by first | rfl | decide))) (xpn (c := 0) ((xcl_pk (i := 1) (o := 2) (k := (c 0)) (by omega)).trans (by first | rfl | decide)) (by decide))
  rw [← est2] at hP
  have hF : FX 4 st sl so st2 sl1 so := by rw [est2]; exact hF.up (dc_pk (o := 2) (by omega))
  have hT : TC B g m p ad st2 sl1 so := by rw [est2]; exact hT.up (by omega)
  have hR : PT c nm st2 sl1 := by rw [est2]; exact hR.up (by omega)
  refine lv_aload_n hx hb dX4_addPlace_20 rfl (lv_at hl 0 rfl) ?_
  refine va_get (D := (dC, dI)) (ci := 5) (v := .ref (A (36 + 20 * 1 + 3))) (C := RX4) (T := TX4) (N := 12) hx hb hts ii_X4_addPlace_X4 hown hK hP (36 + 20 * 1) (xw_is (r := (36 + 20 * 1)) (by omega) (xc_pk (i := 1) (o := 0) (by omega) (by omega))) rfl 2 (by decide) (hts _ mm_X4_addPlace_4) (fun _ hh => hh) rfl dX4_addPlace_21 ?_
  refine lv_aload_n hx hb dX4_addPlace_24 rfl (lv_at hl 0 rfl) ?_
  refine va_get (D := (dC, dI)) (ci := 5) (v := .int (st2 (36 + 20 * 1) 5)) (C := RX4) (T := TX4) (N := 12) hx hb hts ii_X4_addPlace_X4 hown hK hP (36 + 20 * 1) (xw_is (r := (36 + 20 * 1)) (by omega) (xc_pk (i := 1) (o := 0) (by omega) (by omega))) rfl 5 (by decide) (hts _ mm_X4_addPlace_2) (fun _ hh => hh) rfl dX4_addPlace_25 ?_
  refine zz_top (v := (nI (c 0))) (by show st2 (36 + 20 * 1) 5 = _; rw [hR.1]) ?_
  refine lv_iload_n hx hb dX4_addPlace_28 rfl (lv_at hl 2 rfl) ?_
  refine va_zast hx hb hK hP (xD hN _ _ _ _ _ _) hS (36 + 20 * 1 + 3) (36 + 20 * 1 + 3) (xw_is (r := (36 + 20 * 1 + 3)) (by omega) (xc_pk (i := 1) (o := 3) (by omega) (by omega))) (xt_is (r := (36 + 20 * 1 + 3)) (by omega) ((xty_pk (i := 1) (o := 3) (by omega)).trans rfl)) (i := (nI (c 0))) (vp_in_nI (by omega) (by decide)) dX4_addPlace_29 (fun H locs hP _ hS => ?_)
  rw [nI_clamp (by omega)] at hP
  obtain ⟨z3, ez3⟩ : ∃ y : Int32, y = vp_nar .boolean vf := ⟨_, rfl⟩
  rw [← ez3] at hP
  have hP : va_P (dC, dI) vwCl (xw A C nb (up2 st2 (36 + 20 * 1 + 3) (c 0) z3) sl1 so) H := by rw [← xset (r := (36 + 20 * 1 + 3)) (k := (c 0)) (v := z3) (xc_pk (i := 1) (o := 3) (by omega) (by omega))]; exact hP
  obtain ⟨st4, est4⟩ : ∃ y, y = up2 st2 (36 + 20 * 1 + 3) (c 0) z3 := ⟨_, rfl⟩
  have hG : XG [1, 2, 3, 4, 5, 6, 8, 9, 12, 13, 14, 15] st st4 := by rw [est4]; exact hG.up (xz (r := (36 + 20 * 1 + 3)) (k := (c 0)) ((xrg_pk (i := 1) (o := 3) (k := (c 0)) (by omega)).trans (by first | rfl | decide))) (xpn (c := 0) ((xcl_pk (i := 1) (o := 3) (k := (c 0)) (by omega)).trans (by first | rfl | decide)) (by decide))
  rw [← est4] at hP
  have hF : FX 4 st sl so st4 sl1 so := by rw [est4]; exact hF.up (dc_pk (o := 3) (by omega))
  have hT : TC B g m p ad st4 sl1 so := by rw [est4]; exact hT.up (by omega)
  have hR : PT c nm st4 sl1 := by rw [est4]; exact hR.up (by omega)
  refine lv_aload_n hx hb dX4_addPlace_30 rfl (lv_at hl 0 rfl) ?_
  refine lv_dup hx hb dX4_addPlace_31 rfl ?_
  refine va_get (D := (dC, dI)) (ci := 5) (v := .int (st4 (36 + 20 * 1) 5)) (C := RX4) (T := TX4) (N := 12) hx hb hts ii_X4_addPlace_X4 hown hK hP (36 + 20 * 1) (xw_is (r := (36 + 20 * 1)) (by omega) (xc_pk (i := 1) (o := 0) (by omega) (by omega))) rfl 5 (by decide) (hts _ mm_X4_addPlace_2) (fun _ hh => hh) rfl dX4_addPlace_32 ?_
  refine zz_top (v := (nI (c 0))) (by show st4 (36 + 20 * 1) 5 = _; rw [hR.1]) ?_
  refine lv_iconst (v := 1) hx hb dX4_addPlace_35 (by decide) ?_
  refine lv_iadd hx hb dX4_addPlace_36 ?_
  refine zz_top (v := nI ((c 0) + 1)) (nI_add (c 0) 1) ?_
  refine va_put (D := (dC, dI)) (ci := 5) (v := .int (nI ((c 0) + 1))) (ty := .int) (C := RX4) (T := TX4) (N := 12) hx hb hts ii_X4_addPlace_X4 tyX4 tyX4_ok nmX4 hown hK hP (xD hN _ _ _ _ _ _) hS (36 + 20 * 1) (xw_is (r := (36 + 20 * 1)) (by omega) (xc_pk (i := 1) (o := 0) (by omega) (by omega))) rfl 5 (by decide) (hts _ mm_X4_addPlace_2) (fun _ hh => hh) rfl (by decide +kernel) rfl rfl (Nat.le_of_ble_eq_true rfl) dX4_addPlace_37 (fun H locs hP _ hS => ?_)
  have hP : va_P (dC, dI) vwCl (xw A C nb (up2 st4 (36 + 20 * 1) 5 (nI ((c 0) + 1))) sl1 so) H := by rw [← xset (r := (36 + 20 * 1)) (k := 5) (v := (nI ((c 0) + 1))) (xc_pk (i := 1) (o := 0) (by omega) (by omega))]; exact hP
  obtain ⟨st5, est5⟩ : ∃ y, y = up2 st4 (36 + 20 * 1) 5 (nI ((c 0) + 1)) := ⟨_, rfl⟩
  have hG : XG [1, 2, 3, 4, 5, 6, 8, 9, 12, 13, 14, 15] st st5 := by rw [est5]; exact hG.up (xn (n := ((c 0) + 1)) (b := 6) ((xrg_pk (i := 1) (o := 0) (k := 5) (by omega)).trans (by first | rfl | decide)) (by omega)) (xpn (c := 7) ((xcl_pk (i := 1) (o := 0) (k := 5) (by omega)).trans (by first | rfl | decide)) (by decide))
  rw [← est5] at hP
  have hF : FX 4 st sl so st5 sl1 so := by rw [est5]; exact hF.up (dc_pk (o := 0) (by omega))
  have hT : TC B g m p ad st5 sl1 so := by rw [est5]; exact hT.up (by omega)
  have hR : PT (uN c 0 (c 0 + 1)) (uM nm 0 (c 0) gx) st5 sl1 := by rw [est5]; exact hR.inc0 (by omega) hgx2 (by rw [esl1, upL_same]; exact hgx)
  exact W.vret hx hb hr (fun t ht hW => ⟨⟨(st5, sl1, so), rfl, ⟨hG, hO, hF, ⟨hR, hT, by show st5 1 13 = st 1 13; rw [est5, up2_ne (r := (36 + 20 * 1)) (k := 5) (a := 1) (j := 13) _ _ (by omega), est4, up2_ne (r := (36 + 20 * 1 + 3)) (k := (c 0)) (a := 1) (j := 13) _ _ (by omega), est2, up2_ne (r := (36 + 20 * 1 + 2)) (k := (c 0)) (a := 1) (j := 13) _ _ (by omega)]⟩⟩, xB.of ht hP⟩, hS.F ht⟩) hS.2.2 dX4_addPlace_40
set_option maxHeartbeats 4000000 in
set_option maxRecDepth 100000 in
theorem y_X4_addPerson (l : Launch) (dC : Nat → ClassId) (dI : Nat → Nat → Nat) (ad : Nat → Nat) (E : EP) (hEE : EC ad E) (A : Nat → Nat) (C : Nat → ClassId) (nb sz : Nat) (hN : XN A) (st : Nat → Nat → Int32) (sl : Nat → Nat → Int64) (so : Nat → XR) (vw : Int64) (B : Nat → Nat) (g m : Nat) (p : Nat) (c : Nat → Nat) (nm : Nat → Nat → Nat) (gx : Nat) (hI : XI st) (hOI : OI ad so) (hB : CBt B g m st) (hT : TC B g m p ad st sl so) (hR : PT c nm st sl) (hgx : vw = lN gx) (hgx2 : V5 gx) (hgm : c 1 < 8) : Met l yX4_addPerson wsX4_addPerson ({ frames := 0, cells := 0, slots := 0, locals := 0 }) (va_Pc [.ref (A (36 + 20 * 1)), .long vw] (xPre E dC dI A C nb sz st sl so)) (va_Qr (fun (_ : XT) => True) (fun (x : XT) (r : Nat) (t : State) => (XG [1, 2, 3, 4, 5, 6, 8, 9, 12, 13, 14, 15] st x.1 ∧ OG ad [2, 3, 4] so x.2.2 ∧ FX 4 st sl so x.1 x.2.1 x.2.2 ∧ (r = A (36 + 20 * 1 + (6 + c 1)) ∧ PT (uN c 1 (c 1 + 1)) (uM nm 1 (c 1) gx) x.1 x.2.1 ∧ TC B g m p ad x.1 x.2.1 x.2.2 ∧ x.1 1 13 = st 1 13)) ∧ xB dC dI A C nb x t) (XA A sz)) 0 0 (XA A sz) := by
  refine Met.ofW (cc := cX4_addPerson) (maxL := 4) (ret := (some (.object "OffTheLead$Person"))) (by decide) rfl ?_
  intro p9 e s m9 args below meth c9 s₁ B9 hml hv
  obtain ⟨rfl, hsz, hP, hK, hE⟩ := hv
  have hx := B9.exec
  have hb := B9.bytes
  have hr := B9.returns
  have hts := atoms_spec (ws := wsX4_addPerson) B9.pre
  have hown : s.vm.findClass RX4 = some m9.cls := findClass_of_methodNamed B9.named
  subst hsz
  have hEv := hEE.1 _ _ _ hE
  have hS : va_S (XA A s.heap.size) s.heap s.heap [] := va_S.rf
  have hG : XG [1, 2, 3, 4, 5, 6, 8, 9, 12, 13, 14, 15] st st := XG.rf hI
  have hO : OG ad [2, 3, 4] so so := OG.rf hOI
  have hl := lv_entry ([.ref (A (36 + 20 * 1)), .long vw]) (n := 4) (Nat.le_of_ble_eq_true rfl)
  rw [lg_entry_eq]
  generalize (lg_sl ([.ref (A (36 + 20 * 1)), .long vw]) ++ List.replicate (4 - (lg_sl ([.ref (A (36 + 20 * 1)), .long vw])).length) Slot.unset).toArray = ls at hl ⊢
  have hl : lv_has ls 4 [(0, .ref (A (36 + 20 * 1))), (1, .long vw)] := hl
  have hB1 := hB.2.2.1
  have hB2 := hB.2.2.2.1
  have hF : FX 4 st sl so st sl so := FX.rf
  have hp9 := hT.2.2.2.2.2.2
  have hk1 := tkd_lt (B := B) (g := g) (m := m) (p := p)
  have hk2 := tkx_le (B := B) (g := g) (m := m) (p := p) hp9
  have hk3 := tka_le (B := B) (g := g) (m := m) (p := p) hp9 hB.2.2.1
  have hk4 := tkv_ltc (p := p) hB hp9
  have hk5 := tkw_lt (B := B) (g := g) (m := m) (p := p)
  have hR9 := hR.2.2.2.2.2.1
  refine lv_aload_n hx hb dX4_addPerson_0 rfl (lv_at hl 0 rfl) ?_
  refine va_get (D := (dC, dI)) (ci := 5) (v := .ref (A (36 + 20 * 1 + 4))) (C := RX4) (T := TX4) (N := 12) hx hb hts ii_X4_addPerson_X4 hown hK hP (36 + 20 * 1) (xw_is (r := (36 + 20 * 1)) (by omega) (xc_pk (i := 1) (o := 0) (by omega) (by omega))) rfl 3 (by decide) (hts _ mm_X4_addPerson_1) (fun _ hh => hh) rfl dX4_addPerson_1 ?_
  refine lv_aload_n hx hb dX4_addPerson_4 rfl (lv_at hl 0 rfl) ?_
  refine va_get (D := (dC, dI)) (ci := 5) (v := .int (st (36 + 20 * 1) 6)) (C := RX4) (T := TX4) (N := 12) hx hb hts ii_X4_addPerson_X4 hown hK hP (36 + 20 * 1) (xw_is (r := (36 + 20 * 1)) (by omega) (xc_pk (i := 1) (o := 0) (by omega) (by omega))) rfl 6 (by decide) (hts _ mm_X4_addPerson_2) (fun _ hh => hh) rfl dX4_addPerson_5 ?_
  refine zz_top (v := (nI (c 1))) (by show st (36 + 20 * 1) 6 = _; rw [hR.2.1]) ?_
  refine va_aldq hx hb hK hP (36 + 20 * 1 + 4) (36 + 20 * 1 + 4) (xw_is (r := (36 + 20 * 1 + 4)) (by omega) (xc_pk (i := 1) (o := 4) (by omega) (by omega))) (xt_is (r := (36 + 20 * 1 + 4)) (by omega) ((xty_pk (i := 1) (o := 4) (by omega)).trans rfl)) (i := (nI (c 1))) (vp_in_nI (by omega) (by decide)) dX4_addPerson_8 ?_
  refine zz_topq (r := some (A (36 + 20 * 1 + (6 + (c 1))))) (by rw [nI_clamp (by omega)]; exact congrArg some (congrArg A (by omega))) ?_
  refine lv_astore_n (lv' := [(3, .ref (A (36 + 20 * 1 + (6 + (c 1))))), (0, .ref (A (36 + 20 * 1))), (1, .long vw)]) hx hb dX4_addPerson_9 rfl hl (by decide) rfl (fun ls hl => ?_)
  refine lv_aload_n hx hb dX4_addPerson_10 rfl (lv_at hl 0 rfl) ?_
  refine lv_lload_n hx hb dX4_addPerson_11 rfl (lv_at hl 2 rfl) ?_
  refine va_putN (host := "OffTheLead") (D := (dC, dI)) (ci := 7) (v := .long vw) (ty := .long) (C := RX6) (T := TX6) (N := 9) hx hb hts ii_X4_addPerson_X6 tyX6 tyX6_ok nmX6 hown hK hP (xD hN _ _ _ _ _ _) hS (36 + 20 * 1 + (6 + (c 1))) (xw_is (r := (36 + 20 * 1 + (6 + (c 1)))) (by omega) (xc_person (i := 1) (p := (c 1)) (by omega) (by omega))) rfl 0 (by decide) (va_Nw.use rfl (nf_X4_66 hEv)) (fun _ hh => hh) rfl (by decide +kernel) rfl rfl (Nat.le_of_ble_eq_true rfl) dX4_addPerson_12 (fun H locs hP _ hS => ?_)
  have hP : va_P (dC, dI) vwCl (xw A C nb st (upL sl (36 + 20 * 1 + (6 + (c 1))) 0 vw) so) H := by rw [← xsetL (r := (36 + 20 * 1 + (6 + (c 1)))) (k := 0) (v := vw) (xc_person (i := 1) (p := (c 1)) (by omega) (by omega))]; exact hP
  obtain ⟨sl1, esl1⟩ : ∃ y, y = upL sl (36 + 20 * 1 + (6 + (c 1))) 0 vw := ⟨_, rfl⟩
  rw [← esl1] at hP
  have hF : FX 4 st sl so st sl1 so := by rw [esl1]; exact hF.upL (dc_pk (o := 6 + (c 1)) (by omega))
  have hT : TC B g m p ad st sl1 so := by rw [esl1]; exact hT.upL (by omega)
  have hR : PT c nm st sl1 := by rw [esl1]; exact hR.slot1 ⟨by omega, by omega⟩
  refine lv_aload_n hx hb dX4_addPerson_15 rfl (lv_at hl 0 rfl) ?_
  refine lv_iconst (v := 0) hx hb dX4_addPerson_16 (by decide) ?_
  refine va_putN (host := "OffTheLead") (D := (dC, dI)) (ci := 7) (v := .int 0) (ty := .int) (C := RX6) (T := TX6) (N := 9) hx hb hts ii_X4_addPerson_X6 tyX6 tyX6_ok nmX6 hown hK hP (xD hN _ _ _ _ _ _) hS (36 + 20 * 1 + (6 + (c 1))) (xw_is (r := (36 + 20 * 1 + (6 + (c 1)))) (by omega) (xc_person (i := 1) (p := (c 1)) (by omega) (by omega))) rfl 5 (by decide) (va_Nw.use rfl (nf_X4_70 hEv)) (fun _ hh => hh) rfl (by decide +kernel) rfl rfl (Nat.le_of_ble_eq_true rfl) dX4_addPerson_17 (fun H locs hP _ hS => ?_)
  have hP : va_P (dC, dI) vwCl (xw A C nb (up2 st (36 + 20 * 1 + (6 + (c 1))) 5 0) sl1 so) H := by rw [← xset (r := (36 + 20 * 1 + (6 + (c 1)))) (k := 5) (v := 0) (xc_person (i := 1) (p := (c 1)) (by omega) (by omega))]; exact hP
  obtain ⟨st2, est2⟩ : ∃ y, y = up2 st (36 + 20 * 1 + (6 + (c 1))) 5 0 := ⟨_, rfl⟩
  have hG : XG [1, 2, 3, 4, 5, 6, 8, 9, 12, 13, 14, 15] st st2 := by rw [est2]; exact hG.up (xz (r := (36 + 20 * 1 + (6 + (c 1)))) (k := 5) ((xrg_pe (i := 1) (p := (c 1)) (by omega)).trans (by decide))) (xpn (c := 0) (xcl_pe (i := 1) (p := (c 1)) (k := 5) (by omega)) (by decide))
  rw [← est2] at hP
  have hF : FX 4 st sl so st2 sl1 so := by rw [est2]; exact hF.up (dc_pk (o := 6 + (c 1)) (by omega))
  have hT : TC B g m p ad st2 sl1 so := by rw [est2]; exact hT.up (by omega)
  have hR : PT c nm st2 sl1 := by rw [est2]; exact hR.up (by omega)
  refine lv_aload_n hx hb dX4_addPerson_20 rfl (lv_at hl 0 rfl) ?_
  refine lv_iconst (v := 0) hx hb dX4_addPerson_21 (by decide) ?_
  refine va_putN (host := "OffTheLead") (D := (dC, dI)) (ci := 7) (v := .int 0) (ty := .int) (C := RX6) (T := TX6) (N := 9) hx hb hts ii_X4_addPerson_X6 tyX6 tyX6_ok nmX6 hown hK hP (xD hN _ _ _ _ _ _) hS (36 + 20 * 1 + (6 + (c 1))) (xw_is (r := (36 + 20 * 1 + (6 + (c 1)))) (by omega) (xc_person (i := 1) (p := (c 1)) (by omega) (by omega))) rfl 6 (by decide) (va_Nw.use rfl (nf_X4_73 hEv)) (fun _ hh => hh) rfl (by decide +kernel) rfl rfl (Nat.le_of_ble_eq_true rfl) dX4_addPerson_22 (fun H locs hP _ hS => ?_)
  have hP : va_P (dC, dI) vwCl (xw A C nb (up2 st2 (36 + 20 * 1 + (6 + (c 1))) 6 0) sl1 so) H := by rw [← xset (r := (36 + 20 * 1 + (6 + (c 1)))) (k := 6) (v := 0) (xc_person (i := 1) (p := (c 1)) (by omega) (by omega))]; exact hP
  obtain ⟨st3, est3⟩ : ∃ y, y = up2 st2 (36 + 20 * 1 + (6 + (c 1))) 6 0 := ⟨_, rfl⟩
  have hG : XG [1, 2, 3, 4, 5, 6, 8, 9, 12, 13, 14, 15] st st3 := by rw [est3]; exact hG.up (xz (r := (36 + 20 * 1 + (6 + (c 1)))) (k := 6) ((xrg_pe (i := 1) (p := (c 1)) (by omega)).trans (by decide))) (xpn (c := 0) (xcl_pe (i := 1) (p := (c 1)) (k := 6) (by omega)) (by decide))
  rw [← est3] at hP
  have hF : FX 4 st sl so st3 sl1 so := by rw [est3]; exact hF.up (dc_pk (o := 6 + (c 1)) (by omega))
  have hT : TC B g m p ad st3 sl1 so := by rw [est3]; exact hT.up (by omega)
  have hR : PT c nm st3 sl1 := by rw [est3]; exact hR.up (by omega)
  refine lv_aload_n hx hb dX4_addPerson_25 rfl (lv_at hl 0 rfl) ?_
  refine lv_iconst (v := 0) hx hb dX4_addPerson_26 (by decide) ?_
  refine va_putN (host := "OffTheLead") (D := (dC, dI)) (ci := 7) (v := .int 0) (ty := .int) (C := RX6) (T := TX6) (N := 9) hx hb hts ii_X4_addPerson_X6 tyX6 tyX6_ok nmX6 hown hK hP (xD hN _ _ _ _ _ _) hS (36 + 20 * 1 + (6 + (c 1))) (xw_is (r := (36 + 20 * 1 + (6 + (c 1)))) (by omega) (xc_person (i := 1) (p := (c 1)) (by omega) (by omega))) rfl 7 (by decide) (va_Nw.use rfl (nf_X4_76 hEv)) (fun _ hh => hh) rfl (by decide +kernel) rfl rfl (Nat.le_of_ble_eq_true rfl) dX4_addPerson_27 (fun H locs hP _ hS => ?_)
  have hP : va_P (dC, dI) vwCl (xw A C nb (up2 st3 (36 + 20 * 1 + (6 + (c 1))) 7 0) sl1 so) H := by rw [← xset (r := (36 + 20 * 1 + (6 + (c 1)))) (k := 7) (v := 0) (xc_person (i := 1) (p := (c 1)) (by omega) (by omega))]; exact hP
  obtain ⟨st4, est4⟩ : ∃ y, y = up2 st3 (36 + 20 * 1 + (6 + (c 1))) 7 0 := ⟨_, rfl⟩
  have hG : XG [1, 2, 3, 4, 5, 6, 8, 9, 12, 13, 14, 15] st st4 := by rw [est4]; exact hG.up (xz (r := (36 + 20 * 1 + (6 + (c 1)))) (k := 7) ((xrg_pe (i := 1) (p := (c 1)) (by omega)).trans (by decide))) (xpn (c := 0) (xcl_pe (i := 1) (p := (c 1)) (k := 7) (by omega)) (by decide))
  rw [← est4] at hP
  have hF : FX 4 st sl so st4 sl1 so := by rw [est4]; exact hF.up (dc_pk (o := 6 + (c 1)) (by omega))
  have hT : TC B g m p ad st4 sl1 so := by rw [est4]; exact hT.up (by omega)
  have hR : PT c nm st4 sl1 := by rw [est4]; exact hR.up (by omega)
  refine lv_aload_n hx hb dX4_addPerson_30 rfl (lv_at hl 0 rfl) ?_
  refine lv_iconst (v := 0) hx hb dX4_addPerson_31 (by decide) ?_
  refine va_putN (host := "OffTheLead") (D := (dC, dI)) (ci := 7) (v := .int 0) (ty := .int) (C := RX6) (T := TX6) (N := 9) hx hb hts ii_X4_addPerson_X6 tyX6 tyX6_ok nmX6 hown hK hP (xD hN _ _ _ _ _ _) hS (36 + 20 * 1 + (6 + (c 1))) (xw_is (r := (36 + 20 * 1 + (6 + (c 1)))) (by omega) (xc_person (i := 1) (p := (c 1)) (by omega) (by omega))) rfl 8 (by decide) (va_Nw.use rfl (nf_X4_77 hEv)) (fun _ hh => hh) rfl (by decide +kernel) rfl rfl (Nat.le_of_ble_eq_true rfl) dX4_addPerson_32 (fun H locs hP _ hS => ?_)
  have hP : va_P (dC, dI) vwCl (xw A C nb (up2 st4 (36 + 20 * 1 + (6 + (c 1))) 8 0) sl1 so) H := by rw [← xset (r := (36 + 20 * 1 + (6 + (c 1)))) (k := 8) (v := 0) (xc_person (i := 1) (p := (c 1)) (by omega) (by omega))]; exact hP
  obtain ⟨st5, est5⟩ : ∃ y, y = up2 st4 (36 + 20 * 1 + (6 + (c 1))) 8 0 := ⟨_, rfl⟩
  have hG : XG [1, 2, 3, 4, 5, 6, 8, 9, 12, 13, 14, 15] st st5 := by rw [est5]; exact hG.up (xz (r := (36 + 20 * 1 + (6 + (c 1)))) (k := 8) ((xrg_pe (i := 1) (p := (c 1)) (by omega)).trans (by decide))) (xpn (c := 0) (xcl_pe (i := 1) (p := (c 1)) (k := 8) (by omega)) (by decide))
  rw [← est5] at hP
  have hF : FX 4 st sl so st5 sl1 so := by rw [est5]; exact hF.up (dc_pk (o := 6 + (c 1)) (by omega))
  have hT : TC B g m p ad st5 sl1 so := by rw [est5]; exact hT.up (by omega)
  have hR : PT c nm st5 sl1 := by rw [est5]; exact hR.up (by omega)
  refine lv_aload_n hx hb dX4_addPerson_35 rfl (lv_at hl 1 rfl) ?_
  refine lv_dup hx hb dX4_addPerson_36 rfl ?_
  refine va_get (D := (dC, dI)) (ci := 5) (v := .int (st5 (36 + 20 * 1) 6)) (C := RX4) (T := TX4) (N := 12) hx hb hts ii_X4_addPerson_X4 hown hK hP (36 + 20 * 1) (xw_is (r := (36 + 20 * 1)) (by omega) (xc_pk (i := 1) (o := 0) (by omega) (by omega))) rfl 6 (by decide) (hts _ mm_X4_addPerson_2) (fun _ hh => hh) rfl dX4_addPerson_37 ?_
  refine zz_top (v := (nI (c 1))) (by show st5 (36 + 20 * 1) 6 = _; rw [hR.2.1]) ?_
  refine lv_iconst (v := 1) hx hb dX4_addPerson_40 (by decide) ?_
  refine lv_iadd hx hb dX4_addPerson_41 ?_
  refine zz_top (v := nI ((c 1) + 1)) (nI_add (c 1) 1) ?_
  refine va_put (D := (dC, dI)) (ci := 5) (v := .int (nI ((c 1) + 1))) (ty := .int) (C := RX4) (T := TX4) (N := 12) hx hb hts ii_X4_addPerson_X4 tyX4 tyX4_ok nmX4 hown hK hP (xD hN _ _ _ _ _ _) hS (36 + 20 * 1) (xw_is (r := (36 + 20 * 1)) (by omega) (xc_pk (i := 1) (o := 0) (by omega) (by omega))) rfl 6 (by decide) (hts _ mm_X4_addPerson_2) (fun _ hh => hh) rfl (by decide +kernel) rfl rfl (Nat.le_of_ble_eq_true rfl) dX4_addPerson_42 (fun H locs hP _ hS => ?_)
  have hP : va_P (dC, dI) vwCl (xw A C nb (up2 st5 (36 + 20 * 1) 6 (nI ((c 1) + 1))) sl1 so) H := by rw [← xset (r := (36 + 20 * 1)) (k := 6) (v := (nI ((c 1) + 1))) (xc_pk (i := 1) (o := 0) (by omega) (by omega))]; exact hP
  obtain ⟨st6, est6⟩ : ∃ y, y = up2 st5 (36 + 20 * 1) 6 (nI ((c 1) + 1)) := ⟨_, rfl⟩
  have hG : XG [1, 2, 3, 4, 5, 6, 8, 9, 12, 13, 14, 15] st st6 := by rw [est6]; exact hG.up (xn (n := ((c 1) + 1)) (b := 9) ((xrg_pk (i := 1) (o := 0) (k := 6) (by omega)).trans (by first | rfl | decide)) (by omega)) (xpn (c := 7) ((xcl_pk (i := 1) (o := 0) (k := 6) (by omega)).trans (by first | rfl | decide)) (by decide))
  rw [← est6] at hP
  have hF : FX 4 st sl so st6 sl1 so := by rw [est6]; exact hF.up (dc_pk (o := 0) (by omega))
  have hT : TC B g m p ad st6 sl1 so := by rw [est6]; exact hT.up (by omega)
  have hR : PT (uN c 1 (c 1 + 1)) (uM nm 1 (c 1) gx) st6 sl1 := by rw [est6]; exact hR.inc1 (by omega) hgx2 (by rw [esl1, upL_same]; exact hgx)
  refine lv_aload_n hx hb dX4_addPerson_45 rfl (lv_at hl 0 rfl) ?_
  exact W.aret (v := .ref (A (36 + 20 * 1 + (6 + (c 1))))) hx hb hr (Or.inl ⟨_, rfl⟩) (Or.inr ⟨_, rfl⟩) (fun t ht hW => ⟨⟨(st6, sl1, so), (A (36 + 20 * 1 + (6 + (c 1)))), rfl, trivial, ⟨hG, hO, hF, ⟨rfl, hR, hT, by show st6 1 13 = st 1 13; rw [est6, up2_ne (r := (36 + 20 * 1)) (k := 6) (a := 1) (j := 13) _ _ (by omega), est5, up2_ne (r := (36 + 20 * 1 + (6 + (c 1)))) (k := 8) (a := 1) (j := 13) _ _ (by omega), est4, up2_ne (r := (36 + 20 * 1 + (6 + (c 1)))) (k := 7) (a := 1) (j := 13) _ _ (by omega), est3, up2_ne (r := (36 + 20 * 1 + (6 + (c 1)))) (k := 6) (a := 1) (j := 13) _ _ (by omega), est2, up2_ne (r := (36 + 20 * 1 + (6 + (c 1)))) (k := 5) (a := 1) (j := 13) _ _ (by omega)]⟩⟩, xB.of ht hP⟩, hS.F ht⟩) hS.2.2 dX4_addPerson_46
set_option maxHeartbeats 4000000 in
set_option maxRecDepth 100000 in
theorem y_X4_addDog (l : Launch) (dC : Nat → ClassId) (dI : Nat → Nat → Nat) (ad : Nat → Nat) (E : EP) (hEE : EC ad E) (A : Nat → Nat) (C : Nat → ClassId) (nb sz : Nat) (hN : XN A) (st : Nat → Nat → Int32) (sl : Nat → Nat → Int64) (so : Nat → XR) (vw : Int64) (va : Nat) (B : Nat → Nat) (g m : Nat) (p : Nat) (c : Nat → Nat) (nm : Nat → Nat → Nat) (gx : Nat) (hva : va < 8) (hI : XI st) (hOI : OI ad so) (hB : CBt B g m st) (hT : TC B g m p ad st sl so) (hR : PT c nm st sl) (hgx : vw = lN gx) (hgx2 : V5 gx) (hgm : c 2 < 6) : Met l yX4_addDog wsX4_addDog ({ frames := 0, cells := 0, slots := 0, locals := 0 }) (va_Pc [.ref (A (36 + 20 * 1)), .long vw, .int (nI va)] (xPre E dC dI A C nb sz st sl so)) (va_Qr (fun (_ : XT) => True) (fun (x : XT) (r : Nat) (t : State) => (XG [1, 2, 3, 4, 5, 6, 8, 9, 12, 13, 14, 15] st x.1 ∧ OG ad [2, 3, 4] so x.2.2 ∧ FX 4 st sl so x.1 x.2.1 x.2.2 ∧ (r = A (36 + 20 * 1 + (14 + c 2)) ∧ PT (uN c 2 (c 2 + 1)) (uM nm 2 (c 2) gx) x.1 x.2.1 ∧ TC B g m p ad x.1 x.2.1 x.2.2 ∧ x.1 1 13 = st 1 13)) ∧ xB dC dI A C nb x t) (XA A sz)) 0 0 (XA A sz) := by
  refine Met.ofW (cc := cX4_addDog) (maxL := 5) (ret := (some (.object "OffTheLead$Dog"))) (by decide) rfl ?_
  intro p9 e s m9 args below meth c9 s₁ B9 hml hv
  obtain ⟨rfl, hsz, hP, hK, hE⟩ := hv
  have hx := B9.exec
  have hb := B9.bytes
  have hr := B9.returns
  have hts := atoms_spec (ws := wsX4_addDog) B9.pre
  have hown : s.vm.findClass RX4 = some m9.cls := findClass_of_methodNamed B9.named
  subst hsz
  have hEv := hEE.1 _ _ _ hE
  have hS : va_S (XA A s.heap.size) s.heap s.heap [] := va_S.rf
  have hG : XG [1, 2, 3, 4, 5, 6, 8, 9, 12, 13, 14, 15] st st := XG.rf hI
  have hO : OG ad [2, 3, 4] so so := OG.rf hOI
  have hl := lv_entry ([.ref (A (36 + 20 * 1)), .long vw, .int (nI va)]) (n := 5) (Nat.le_of_ble_eq_true rfl)
  rw [lg_entry_eq]
  generalize (lg_sl ([.ref (A (36 + 20 * 1)), .long vw, .int (nI va)]) ++ List.replicate (5 - (lg_sl ([.ref (A (36 + 20 * 1)), .long vw, .int (nI va)])).length) Slot.unset).toArray = ls at hl ⊢
  have hl : lv_has ls 5 [(0, .ref (A (36 + 20 * 1))), (1, .long vw), (3, .int (nI va))] := hl
  have hB1 := hB.2.2.1
  have hB2 := hB.2.2.2.1
  have hF : FX 4 st sl so st sl so := FX.rf
  have hp9 := hT.2.2.2.2.2.2
  have hk1 := tkd_lt (B := B) (g := g) (m := m) (p := p)
  have hk2 := tkx_le (B := B) (g := g) (m := m) (p := p) hp9
  have hk3 := tka_le (B := B) (g := g) (m := m) (p := p) hp9 hB.2.2.1
  have hk4 := tkv_ltc (p := p) hB hp9
  have hk5 := tkw_lt (B := B) (g := g) (m := m) (p := p)
  have hR9 := hR.2.2.2.2.2.1
  refine lv_aload_n hx hb dX4_addDog_0 rfl (lv_at hl 0 rfl) ?_
  refine va_get (D := (dC, dI)) (ci := 5) (v := .ref (A (36 + 20 * 1 + 5))) (C := RX4) (T := TX4) (N := 12) hx hb hts ii_X4_addDog_X4 hown hK hP (36 + 20 * 1) (xw_is (r := (36 + 20 * 1)) (by omega) (xc_pk (i := 1) (o := 0) (by omega) (by omega))) rfl 4 (by decide) (hts _ mm_X4_addDog_1) (fun _ hh => hh) rfl dX4_addDog_1 ?_
  refine lv_aload_n hx hb dX4_addDog_4 rfl (lv_at hl 0 rfl) ?_
  refine va_get (D := (dC, dI)) (ci := 5) (v := .int (st (36 + 20 * 1) 7)) (C := RX4) (T := TX4) (N := 12) hx hb hts ii_X4_addDog_X4 hown hK hP (36 + 20 * 1) (xw_is (r := (36 + 20 * 1)) (by omega) (xc_pk (i := 1) (o := 0) (by omega) (by omega))) rfl 7 (by decide) (hts _ mm_X4_addDog_2) (fun _ hh => hh) rfl dX4_addDog_5 ?_
  refine zz_top (v := (nI (c 2))) (by show st (36 + 20 * 1) 7 = _; rw [hR.2.2.1]) ?_
  refine va_aldq hx hb hK hP (36 + 20 * 1 + 5) (36 + 20 * 1 + 5) (xw_is (r := (36 + 20 * 1 + 5)) (by omega) (xc_pk (i := 1) (o := 5) (by omega) (by omega))) (xt_is (r := (36 + 20 * 1 + 5)) (by omega) ((xty_pk (i := 1) (o := 5) (by omega)).trans rfl)) (i := (nI (c 2))) (vp_in_nI (by omega) (by decide)) dX4_addDog_8 ?_
  refine zz_topq (r := some (A (36 + 20 * 1 + (14 + (c 2))))) (by rw [nI_clamp (by omega)]; exact congrArg some (congrArg A (by omega))) ?_
  refine lv_astore (lv' := [(4, .ref (A (36 + 20 * 1 + (14 + (c 2))))), (0, .ref (A (36 + 20 * 1))), (1, .long vw), (3, .int (nI va))]) hx hb dX4_addDog_9 hl (by decide) rfl (fun ls hl => ?_)
  refine lv_aload hx hb dX4_addDog_11 (lv_at hl 0 rfl) ?_
  refine lv_lload_n hx hb dX4_addDog_13 rfl (lv_at hl 2 rfl) ?_
  refine va_putN (host := "OffTheLead") (D := (dC, dI)) (ci := 3) (v := .long vw) (ty := .long) (C := RX2) (T := TX2) (N := 7) hx hb hts ii_X4_addDog_X2 tyX2 tyX2_ok nmX2 hown hK hP (xD hN _ _ _ _ _ _) hS (36 + 20 * 1 + (14 + (c 2))) (xw_is (r := (36 + 20 * 1 + (14 + (c 2)))) (by omega) (xc_dog (i := 1) (p := (c 2)) (by omega) (by omega))) rfl 0 (by decide) (va_Nw.use rfl (nf_X4_79 hEv)) (fun _ hh => hh) rfl (by decide +kernel) rfl rfl (Nat.le_of_ble_eq_true rfl) dX4_addDog_14 (fun H locs hP _ hS => ?_)
  have hP : va_P (dC, dI) vwCl (xw A C nb st (upL sl (36 + 20 * 1 + (14 + (c 2))) 0 vw) so) H := by rw [← xsetL (r := (36 + 20 * 1 + (14 + (c 2)))) (k := 0) (v := vw) (xc_dog (i := 1) (p := (c 2)) (by omega) (by omega))]; exact hP
  obtain ⟨sl1, esl1⟩ : ∃ y, y = upL sl (36 + 20 * 1 + (14 + (c 2))) 0 vw := ⟨_, rfl⟩
  rw [← esl1] at hP
  have hF : FX 4 st sl so st sl1 so := by rw [esl1]; exact hF.upL (dc_pk (o := 14 + (c 2)) (by omega))
  have hT : TC B g m p ad st sl1 so := by rw [esl1]; exact hT.upL (by omega)
  have hR : PT c nm st sl1 := by rw [esl1]; exact hR.slot2 (by omega)
  refine lv_aload hx hb dX4_addDog_17 (lv_at hl 0 rfl) ?_
  refine lv_iload_n hx hb dX4_addDog_19 rfl (lv_at hl 3 rfl) ?_
  refine va_putN (host := "OffTheLead") (D := (dC, dI)) (ci := 3) (v := .int (nI va)) (ty := .int) (C := RX2) (T := TX2) (N := 7) hx hb hts ii_X4_addDog_X2 tyX2 tyX2_ok nmX2 hown hK hP (xD hN _ _ _ _ _ _) hS (36 + 20 * 1 + (14 + (c 2))) (xw_is (r := (36 + 20 * 1 + (14 + (c 2)))) (by omega) (xc_dog (i := 1) (p := (c 2)) (by omega) (by omega))) rfl 1 (by decide) (va_Nw.use rfl (nf_X4_80 hEv)) (fun _ hh => hh) rfl (by decide +kernel) rfl rfl (Nat.le_of_ble_eq_true rfl) dX4_addDog_20 (fun H locs hP _ hS => ?_)
  have hP : va_P (dC, dI) vwCl (xw A C nb (up2 st (36 + 20 * 1 + (14 + (c 2))) 1 (nI va)) sl1 so) H := by rw [← xset (r := (36 + 20 * 1 + (14 + (c 2)))) (k := 1) (v := (nI va)) (xc_dog (i := 1) (p := (c 2)) (by omega) (by omega))]; exact hP
  obtain ⟨st2, est2⟩ : ∃ y, y = up2 st (36 + 20 * 1 + (14 + (c 2))) 1 (nI va) := ⟨_, rfl⟩
  have hG : XG [1, 2, 3, 4, 5, 6, 8, 9, 12, 13, 14, 15] st st2 := by rw [est2]; exact hG.up (xn (n := va) (b := 8) ((xrg_do (i := 1) (p := (c 2)) (by omega)).trans (by decide)) (by omega)) (xpn (c := 0) (xcl_do (i := 1) (p := (c 2)) (k := 1) (by omega)) (by decide))
  rw [← est2] at hP
  have hF : FX 4 st sl so st2 sl1 so := by rw [est2]; exact hF.up (dc_pk (o := 14 + (c 2)) (by omega))
  have hT : TC B g m p ad st2 sl1 so := by rw [est2]; exact hT.up (by omega)
  have hR : PT c nm st2 sl1 := by rw [est2]; exact hR.up (by omega)
  refine lv_aload hx hb dX4_addDog_23 (lv_at hl 0 rfl) ?_
  refine lv_iconst (v := 0) hx hb dX4_addDog_25 (by decide) ?_
  refine va_putN (host := "OffTheLead") (D := (dC, dI)) (ci := 3) (v := .int 0) (ty := .boolean) (C := RX2) (T := TX2) (N := 7) hx hb hts ii_X4_addDog_X2 tyX2 tyX2_ok nmX2 hown hK hP (xD hN _ _ _ _ _ _) hS (36 + 20 * 1 + (14 + (c 2))) (xw_is (r := (36 + 20 * 1 + (14 + (c 2)))) (by omega) (xc_dog (i := 1) (p := (c 2)) (by omega) (by omega))) rfl 4 (by decide) (va_Nw.use rfl (nf_X4_83 hEv)) (fun _ hh => hh) rfl (by decide +kernel) rfl rfl (Nat.le_of_ble_eq_true rfl) dX4_addDog_26 (fun H locs hP _ hS => ?_)
  have hP : va_P (dC, dI) vwCl (xw A C nb (up2 st2 (36 + 20 * 1 + (14 + (c 2))) 4 0) sl1 so) H := by rw [← xset (r := (36 + 20 * 1 + (14 + (c 2)))) (k := 4) (v := 0) (xc_dog (i := 1) (p := (c 2)) (by omega) (by omega))]; exact hP
  obtain ⟨st3, est3⟩ : ∃ y, y = up2 st2 (36 + 20 * 1 + (14 + (c 2))) 4 0 := ⟨_, rfl⟩
  have hG : XG [1, 2, 3, 4, 5, 6, 8, 9, 12, 13, 14, 15] st st3 := by rw [est3]; exact hG.up (xn (n := 0) (b := 2) ((xrg_do (i := 1) (p := (c 2)) (by omega)).trans (by decide)) (by omega)) (xpn (c := 0) (xcl_do (i := 1) (p := (c 2)) (k := 4) (by omega)) (by decide))
  rw [← est3] at hP
  have hF : FX 4 st sl so st3 sl1 so := by rw [est3]; exact hF.up (dc_pk (o := 14 + (c 2)) (by omega))
  have hT : TC B g m p ad st3 sl1 so := by rw [est3]; exact hT.up (by omega)
  have hR : PT c nm st3 sl1 := by rw [est3]; exact hR.up (by omega)
  refine lv_aload hx hb dX4_addDog_29 (lv_at hl 0 rfl) ?_
  refine lv_iconst (v := 0) hx hb dX4_addDog_31 (by decide) ?_
  refine va_putN (host := "OffTheLead") (D := (dC, dI)) (ci := 3) (v := .int 0) (ty := .int) (C := RX2) (T := TX2) (N := 7) hx hb hts ii_X4_addDog_X2 tyX2 tyX2_ok nmX2 hown hK hP (xD hN _ _ _ _ _ _) hS (36 + 20 * 1 + (14 + (c 2))) (xw_is (r := (36 + 20 * 1 + (14 + (c 2)))) (by omega) (xc_dog (i := 1) (p := (c 2)) (by omega) (by omega))) rfl 5 (by decide) (va_Nw.use rfl (nf_X4_87 hEv)) (fun _ hh => hh) rfl (by decide +kernel) rfl rfl (Nat.le_of_ble_eq_true rfl) dX4_addDog_32 (fun H locs hP _ hS => ?_)
  have hP : va_P (dC, dI) vwCl (xw A C nb (up2 st3 (36 + 20 * 1 + (14 + (c 2))) 5 0) sl1 so) H := by rw [← xset (r := (36 + 20 * 1 + (14 + (c 2)))) (k := 5) (v := 0) (xc_dog (i := 1) (p := (c 2)) (by omega) (by omega))]; exact hP
  obtain ⟨st4, est4⟩ : ∃ y, y = up2 st3 (36 + 20 * 1 + (14 + (c 2))) 5 0 := ⟨_, rfl⟩
  have hG : XG [1, 2, 3, 4, 5, 6, 8, 9, 12, 13, 14, 15] st st4 := by rw [est4]; exact hG.up (xz (r := (36 + 20 * 1 + (14 + (c 2)))) (k := 5) ((xrg_do (i := 1) (p := (c 2)) (by omega)).trans (by decide))) (xpn (c := 0) (xcl_do (i := 1) (p := (c 2)) (k := 5) (by omega)) (by decide))
  rw [← est4] at hP
  have hF : FX 4 st sl so st4 sl1 so := by rw [est4]; exact hF.up (dc_pk (o := 14 + (c 2)) (by omega))
  have hT : TC B g m p ad st4 sl1 so := by rw [est4]; exact hT.up (by omega)
  have hR : PT c nm st4 sl1 := by rw [est4]; exact hR.up (by omega)
  refine lv_aload hx hb dX4_addDog_35 (lv_at hl 0 rfl) ?_
  refine lv_iconst (v := 0) hx hb dX4_addDog_37 (by decide) ?_
  refine va_putN (host := "OffTheLead") (D := (dC, dI)) (ci := 3) (v := .int 0) (ty := .int) (C := RX2) (T := TX2) (N := 7) hx hb hts ii_X4_addDog_X2 tyX2 tyX2_ok nmX2 hown hK hP (xD hN _ _ _ _ _ _) hS (36 + 20 * 1 + (14 + (c 2))) (xw_is (r := (36 + 20 * 1 + (14 + (c 2)))) (by omega) (xc_dog (i := 1) (p := (c 2)) (by omega) (by omega))) rfl 6 (by decide) (va_Nw.use rfl (nf_X4_90 hEv)) (fun _ hh => hh) rfl (by decide +kernel) rfl rfl (Nat.le_of_ble_eq_true rfl) dX4_addDog_38 (fun H locs hP _ hS => ?_)
  have hP : va_P (dC, dI) vwCl (xw A C nb (up2 st4 (36 + 20 * 1 + (14 + (c 2))) 6 0) sl1 so) H := by rw [← xset (r := (36 + 20 * 1 + (14 + (c 2)))) (k := 6) (v := 0) (xc_dog (i := 1) (p := (c 2)) (by omega) (by omega))]; exact hP
  obtain ⟨st5, est5⟩ : ∃ y, y = up2 st4 (36 + 20 * 1 + (14 + (c 2))) 6 0 := ⟨_, rfl⟩
  have hG : XG [1, 2, 3, 4, 5, 6, 8, 9, 12, 13, 14, 15] st st5 := by rw [est5]; exact hG.up (xz (r := (36 + 20 * 1 + (14 + (c 2)))) (k := 6) ((xrg_do (i := 1) (p := (c 2)) (by omega)).trans (by decide))) (xpn (c := 0) (xcl_do (i := 1) (p := (c 2)) (k := 6) (by omega)) (by decide))
  rw [← est5] at hP
  have hF : FX 4 st sl so st5 sl1 so := by rw [est5]; exact hF.up (dc_pk (o := 14 + (c 2)) (by omega))
  have hT : TC B g m p ad st5 sl1 so := by rw [est5]; exact hT.up (by omega)
  have hR : PT c nm st5 sl1 := by rw [est5]; exact hR.up (by omega)
  refine lv_aload_n hx hb dX4_addDog_41 rfl (lv_at hl 1 rfl) ?_
  refine va_get (D := (dC, dI)) (ci := 5) (v := .ref (A (36 + 20 * 1 + 4))) (C := RX4) (T := TX4) (N := 12) hx hb hts ii_X4_addDog_X4 hown hK hP (36 + 20 * 1) (xw_is (r := (36 + 20 * 1)) (by omega) (xc_pk (i := 1) (o := 0) (by omega) (by omega))) rfl 3 (by decide) (hts _ mm_X4_addDog_3) (fun _ hh => hh) rfl dX4_addDog_42 ?_
  refine lv_iload_n hx hb dX4_addDog_45 rfl (lv_at hl 3 rfl) ?_
  refine va_aldq hx hb hK hP (36 + 20 * 1 + 4) (36 + 20 * 1 + 4) (xw_is (r := (36 + 20 * 1 + 4)) (by omega) (xc_pk (i := 1) (o := 4) (by omega) (by omega))) (xt_is (r := (36 + 20 * 1 + 4)) (by omega) ((xty_pk (i := 1) (o := 4) (by omega)).trans rfl)) (i := (nI va)) (vp_in_nI (by omega) (by decide)) dX4_addDog_46 ?_
  refine zz_topq (r := some (A (36 + 20 * 1 + (6 + va)))) (by rw [nI_clamp (by omega)]; exact congrArg some (congrArg A (by omega))) ?_
  refine lv_dup hx hb dX4_addDog_47 rfl ?_
  refine va_getN (host := "OffTheLead") (D := (dC, dI)) (ci := 7) (v := .int (st5 (36 + 20 * 1 + (6 + va)) 8)) (C := RX6) (T := TX6) (N := 9) hx hb hts ii_X4_addDog_X6 hown hK hP (36 + 20 * 1 + (6 + va)) (xw_is (r := (36 + 20 * 1 + (6 + va))) (by omega) (xc_person (i := 1) (p := va) (by omega) (by omega))) rfl 8 (by decide) (va_Nw.use rfl (nf_X4_77 hEv)) (fun _ hh => hh) rfl dX4_addDog_48 ?_
  obtain ⟨z6, ez6⟩ : ∃ y : Int32, st5 (36 + 20 * 1 + (6 + va)) 8 = y := ⟨_, rfl⟩
  refine zz_top (v := z6) (by exact ez6) ?_
  refine lv_iconst (v := 1) hx hb dX4_addDog_51 (by decide) ?_
  refine lv_aload_n hx hb dX4_addDog_52 rfl (lv_at hl 1 rfl) ?_
  refine va_get (D := (dC, dI)) (ci := 5) (v := .int (st5 (36 + 20 * 1) 7)) (C := RX4) (T := TX4) (N := 12) hx hb hts ii_X4_addDog_X4 hown hK hP (36 + 20 * 1) (xw_is (r := (36 + 20 * 1)) (by omega) (xc_pk (i := 1) (o := 0) (by omega) (by omega))) rfl 7 (by decide) (hts _ mm_X4_addDog_2) (fun _ hh => hh) rfl dX4_addDog_53 ?_
  refine zz_top (v := (nI (c 2))) (by show st5 (36 + 20 * 1) 7 = _; rw [hR.2.2.1]) ?_
  refine lv_ishl hx hb dX4_addDog_56 ?_
  refine lv_topi (fun z7 ez7 => ?_)
  refine lv_ior hx hb dX4_addDog_57 ?_
  refine lv_topi (fun z8 ez8 => ?_)
  refine va_putN (host := "OffTheLead") (D := (dC, dI)) (ci := 7) (v := .int z8) (ty := .int) (C := RX6) (T := TX6) (N := 9) hx hb hts ii_X4_addDog_X6 tyX6 tyX6_ok nmX6 hown hK hP (xD hN _ _ _ _ _ _) hS (36 + 20 * 1 + (6 + va)) (xw_is (r := (36 + 20 * 1 + (6 + va))) (by omega) (xc_person (i := 1) (p := va) (by omega) (by omega))) rfl 8 (by decide) (va_Nw.use rfl (nf_X4_77 hEv)) (fun _ hh => hh) rfl (by decide +kernel) rfl rfl (Nat.le_of_ble_eq_true rfl) dX4_addDog_58 (fun H locs hP _ hS => ?_)
  have hP : va_P (dC, dI) vwCl (xw A C nb (up2 st5 (36 + 20 * 1 + (6 + va)) 8 z8) sl1 so) H := by rw [← xset (r := (36 + 20 * 1 + (6 + va))) (k := 8) (v := z8) (xc_person (i := 1) (p := va) (by omega) (by omega))]; exact hP
  obtain ⟨st9, est9⟩ : ∃ y, y = up2 st5 (36 + 20 * 1 + (6 + va)) 8 z8 := ⟨_, rfl⟩
  have hG : XG [1, 2, 3, 4, 5, 6, 8, 9, 12, 13, 14, 15] st st9 := by rw [est9]; exact hG.up (xz (r := (36 + 20 * 1 + (6 + va))) (k := 8) ((xrg_pe (i := 1) (p := va) (by omega)).trans (by decide))) (xpn (c := 0) (xcl_pe (i := 1) (p := va) (k := 8) (by omega)) (by decide))
  rw [← est9] at hP
  have hF : FX 4 st sl so st9 sl1 so := by rw [est9]; exact hF.up (dc_pk (o := 6 + va) (by omega))
  have hT : TC B g m p ad st9 sl1 so := by rw [est9]; exact hT.up (by omega)
  have hR : PT c nm st9 sl1 := by rw [est9]; exact hR.up (by omega)
  refine lv_aload_n hx hb dX4_addDog_61 rfl (lv_at hl 1 rfl) ?_
  refine lv_dup hx hb dX4_addDog_62 rfl ?_
  refine va_get (D := (dC, dI)) (ci := 5) (v := .int (st9 (36 + 20 * 1) 7)) (C := RX4) (T := TX4) (N := 12) hx hb hts ii_X4_addDog_X4 hown hK hP (36 + 20 * 1) (xw_is (r := (36 + 20 * 1)) (by omega) (xc_pk (i := 1) (o := 0) (by omega) (by omega))) rfl 7 (by decide) (hts _ mm_X4_addDog_2) (fun _ hh => hh) rfl dX4_addDog_63 ?_
  refine zz_top (v := (nI (c 2))) (by show st9 (36 + 20 * 1) 7 = _; rw [hR.2.2.1]) ?_
  refine lv_iconst (v := 1) hx hb dX4_addDog_66 (by decide) ?_
  refine lv_iadd hx hb dX4_addDog_67 ?_
  refine zz_top (v := nI ((c 2) + 1)) (nI_add (c 2) 1) ?_
  refine va_put (D := (dC, dI)) (ci := 5) (v := .int (nI ((c 2) + 1))) (ty := .int) (C := RX4) (T := TX4) (N := 12) hx hb hts ii_X4_addDog_X4 tyX4 tyX4_ok nmX4 hown hK hP (xD hN _ _ _ _ _ _) hS (36 + 20 * 1) (xw_is (r := (36 + 20 * 1)) (by omega) (xc_pk (i := 1) (o := 0) (by omega) (by omega))) rfl 7 (by decide) (hts _ mm_X4_addDog_2) (fun _ hh => hh) rfl (by decide +kernel) rfl rfl (Nat.le_of_ble_eq_true rfl) dX4_addDog_68 (fun H locs hP _ hS => ?_)
  have hP : va_P (dC, dI) vwCl (xw A C nb (up2 st9 (36 + 20 * 1) 7 (nI ((c 2) + 1))) sl1 so) H := by rw [← xset (r := (36 + 20 * 1)) (k := 7) (v := (nI ((c 2) + 1))) (xc_pk (i := 1) (o := 0) (by omega) (by omega))]; exact hP
  obtain ⟨st10, est10⟩ : ∃ y, y = up2 st9 (36 + 20 * 1) 7 (nI ((c 2) + 1)) := ⟨_, rfl⟩
  have hG : XG [1, 2, 3, 4, 5, 6, 8, 9, 12, 13, 14, 15] st st10 := by rw [est10]; exact hG.up (xn (n := ((c 2) + 1)) (b := 7) ((xrg_pk (i := 1) (o := 0) (k := 7) (by omega)).trans (by first | rfl | decide)) (by omega)) (xpn (c := 7) ((xcl_pk (i := 1) (o := 0) (k := 7) (by omega)).trans (by first | rfl | decide)) (by decide))
  rw [← est10] at hP
  have hF : FX 4 st sl so st10 sl1 so := by rw [est10]; exact hF.up (dc_pk (o := 0) (by omega))
  have hT : TC B g m p ad st10 sl1 so := by rw [est10]; exact hT.up (by omega)
  have hR : PT (uN c 2 (c 2 + 1)) (uM nm 2 (c 2) gx) st10 sl1 := by rw [est10]; exact hR.inc2 (by omega) hgx2 (by rw [esl1, upL_same]; exact hgx)
  refine lv_aload hx hb dX4_addDog_71 (lv_at hl 0 rfl) ?_
  exact W.aret (v := .ref (A (36 + 20 * 1 + (14 + (c 2))))) hx hb hr (Or.inl ⟨_, rfl⟩) (Or.inr ⟨_, rfl⟩) (fun t ht hW => ⟨⟨(st10, sl1, so), (A (36 + 20 * 1 + (14 + (c 2)))), rfl, trivial, ⟨hG, hO, hF, ⟨rfl, hR, hT, by show st10 1 13 = st 1 13; rw [est10, up2_ne (r := (36 + 20 * 1)) (k := 7) (a := 1) (j := 13) _ _ (by omega), est9, up2_ne (r := (36 + 20 * 1 + (6 + va))) (k := 8) (a := 1) (j := 13) _ _ (by omega), est5, up2_ne (r := (36 + 20 * 1 + (14 + (c 2)))) (k := 6) (a := 1) (j := 13) _ _ (by omega), est4, up2_ne (r := (36 + 20 * 1 + (14 + (c 2)))) (k := 5) (a := 1) (j := 13) _ _ (by omega), est3, up2_ne (r := (36 + 20 * 1 + (14 + (c 2)))) (k := 4) (a := 1) (j := 13) _ _ (by omega), est2, up2_ne (r := (36 + 20 * 1 + (14 + (c 2)))) (k := 1) (a := 1) (j := 13) _ _ (by omega)]⟩⟩, xB.of ht hP⟩, hS.F ht⟩) hS.2.2 dX4_addDog_73
