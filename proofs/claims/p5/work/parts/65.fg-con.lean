set_option maxHeartbeats 4000000 in
set_option maxRecDepth 100000 in
theorem y_X5_readAll (l : Launch) (dC : Nat → ClassId) (dI : Nat → Nat → Nat) (ad : Nat → Nat) (E : EP) (hEE : EC ad E) (A : Nat → Nat) (C : Nat → ClassId) (nb sz : Nat) (hN : XN A) (st : Nat → Nat → Int32) (sl : Nat → Nat → Int64) (so : Nat → XR) (B : Nat → Nat) (g m : Nat) (p : Nat) (hI : XI st) (hOI : OI ad so) (hB : CBt B g m st) (hT : TC B g m p ad st sl so) (hf0 : st 1 13 = 0) : Met l yX5_readAll wsX5_readAll ({ frames := 9, cells := 0, slots := 0, locals := 196 }) (va_Pc [.ref (A 3), .ref (A 1), .ref (A (36 + 20 * 1))] (xPre E dC dI A C nb sz st sl so)) (va_Qi (fun (r : Int32) (x : XT) => XG [1, 2, 3, 4, 5, 6, 8, 9, 12, 13, 14, 15] st x.1 ∧ OG ad [2, 3, 4] so x.2.2 ∧ ((∃ n : Nat, ∃ q : Nat, ∃ c1 : Nat → Nat, ∃ n1 : Nat → Nat → Nat, r = nI n ∧ x.1 1 13 = 0 ∧ pAll B g m 900 p (fun _ => 0) (fun _ _ => 0) 0 = ((0, q, c1, n1), n) ∧ PT c1 n1 x.1 x.2.1 ∧ n < 900 ∧ FX 4 st sl so x.1 x.2.1 x.2.2) ∨ (∃ f : Nat, ∃ a : Nat, x.1 1 13 = nI f ∧ (1 ≤ f ∧ f < 9) ∧ x.1 1 14 = nI a ∧ pAll B g m 900 p (fun _ => 0) (fun _ _ => 0) 0 = (fl f a, 0) ∧ FX 4 st sl so x.1 x.2.1 x.2.2))) (xB dC dI A C nb) (XA A sz)) 0 0 (XA A sz) := by
  refine Met.ofW (cc := cX5_readAll) (maxL := 5) (ret := (some .int)) (by decide) rfl ?_
  intro p9 e s m9 args below meth c9 s₁ B9 hml hv
  obtain ⟨rfl, hsz, hP, hK, hE⟩ := hv
  have hx := B9.exec
  have hb := B9.bytes
  have hr := B9.returns
  have hts := atoms_spec (ws := wsX5_readAll) B9.pre
  have hown : s.vm.findClass RX5 = some m9.cls := findClass_of_methodNamed B9.named
  subst hsz
  have hEv := hEE.1 _ _ _ hE
  have hS : va_S (XA A s.heap.size) s.heap s.heap [] := va_S.rf
  have hG : XG [1, 2, 3, 4, 5, 6, 8, 9, 12, 13, 14, 15] st st := XG.rf hI
  have hO : OG ad [2, 3, 4] so so := OG.rf hOI
  have hl := lv_entry ([.ref (A 3), .ref (A 1), .ref (A (36 + 20 * 1))]) (n := 5) (Nat.le_of_ble_eq_true rfl)
  rw [lg_entry_eq]
  generalize (lg_sl ([.ref (A 3), .ref (A 1), .ref (A (36 + 20 * 1))]) ++ List.replicate (5 - (lg_sl ([.ref (A 3), .ref (A 1), .ref (A (36 + 20 * 1))])).length) Slot.unset).toArray = ls at hl ⊢
  have hl : lv_has ls 5 [(0, .ref (A 3)), (1, .ref (A 1)), (2, .ref (A (36 + 20 * 1)))] := hl
  have hB1 := hB.2.2.1
  have hB2 := hB.2.2.2.1
  have hF : FX 4 st sl so st sl so := FX.rf
  have hp9 := hT.2.2.2.2.2.2
  have hk1 := tkd_lt (B := B) (g := g) (m := m) (p := p)
  have hk2 := tkx_le (B := B) (g := g) (m := m) (p := p) hp9
  have hk3 := tka_le (B := B) (g := g) (m := m) (p := p) hp9 hB.2.2.1
  have hk4 := tkv_ltc (p := p) hB hp9
  have hk5 := tkw_lt (B := B) (g := g) (m := m) (p := p)
  refine lv_aload_n hx hb dX5_readAll_0 rfl (lv_at hl 2 rfl) ?_
  refine va_callv (va_runV (As := []) (rest := []) ⟨hx, hb, hml, hown, hts⟩ (y_X4_clear l dC dI ad E hEE A C nb _ hN st sl so B g m p hG.1 hO.1 (CBt.fr hB hF) hT) (cwV 0 hts gX5_readAll_X4_clear rfl rfl rfl (by decide +kernel) ⟨Nat.le_of_ble_eq_true rfl, Nat.le_of_ble_eq_true rfl⟩) ⟨fun a U g mk q => ⟨q.1, xPre.blind hEE q.2⟩, va_recv hK hP (ci := 5) (q0 := (36 + 20 * 1)) rfl (xw_is (r := (36 + 20 * 1)) (by omega) (xc_pk (i := 1) (o := 0) (by omega) (by omega))), fun U hU hW => ⟨rfl, xPre.of hEE hP hK hE hS hU hW⟩⟩ rfl rfl hl.1 rfl (lv_room (Nat.le_of_ble_eq_true rfl)) dX5_readAll_1 ⟨Nat.le_of_ble_eq_true rfl, Nat.le_of_ble_eq_true rfl⟩) hS (fun q _ h => XA.le hS.1 q h) (XA.le hS.1) (fun x t H locs ht hvm hw hB9 _ _ hS => ?_)
  have hP := xB.at ht hB9
  clear hB9 ht hvm
  obtain ⟨st2, sl3, so4⟩ := x
  obtain ⟨hGst2, hOst2, hFst2, hw⟩ := hw
  dsimp only at hGst2 hOst2 hFst2 hw
  have hO : OG ad [2, 3, 4] so so4 := hO.tr hOst2 (by decide)
  have hP : va_P (dC, dI) vwCl (xw A C nb st2 sl3 so4) _ := hP
  have hG : XG [1, 2, 3, 4, 5, 6, 8, 9, 12, 13, 14, 15] st st2 := hG.tr hGst2 (by decide)
  have hF : FX 4 st sl so st2 sl3 so4 := hF.tr hFst2 (by omega) (by omega)
  obtain ⟨hf5, hf6, hf7, hT, hf8⟩ := hw
  have hp9 := hT.2.2.2.2.2.2
  have hk1 := tkd_lt (B := B) (g := g) (m := m) (p := p)
  have hk2 := tkx_le (B := B) (g := g) (m := m) (p := p) hp9
  have hk3 := tka_le (B := B) (g := g) (m := m) (p := p) hp9 hB.2.2.1
  have hk4 := tkv_ltc (p := p) hB hp9
  have hk5 := tkw_lt (B := B) (g := g) (m := m) (p := p)
  refine lv_aload_n hx hb dX5_readAll_4 rfl (lv_at hl 0 rfl) ?_
  refine lv_iconst (v := 0) hx hb dX5_readAll_5 (by decide) ?_
  refine va_put (D := (dC, dI)) (ci := 6) (v := .int 0) (ty := .int) (C := RX5) (T := TX5) (N := 2) hx hb hts ii_X5_readAll_X5 tyX5 tyX5_ok nmX5 hown hK hP (xD hN _ _ _ _ _ _) hS 3 (xw_is (r := 3) (by omega) (xc_fix (r := 3) (by omega))) rfl 0 (by decide) (hts _ mm_X5_readAll_1) (fun _ hh => hh) rfl (by decide +kernel) rfl rfl (Nat.le_of_ble_eq_true rfl) dX5_readAll_6 (fun H locs hP _ hS => ?_)
  have hP : va_P (dC, dI) vwCl (xw A C nb (up2 st2 3 0 0) sl3 so4) H := by rw [← xset (r := 3) (k := 0) (v := 0) (xc_fix (r := 3) (by omega))]; exact hP
  obtain ⟨st9, est9⟩ : ∃ y, y = up2 st2 3 0 0 := ⟨_, rfl⟩
  have hG : XG [1, 2, 3, 4, 5, 6, 8, 9, 12, 13, 14, 15] st st9 := by rw [est9]; exact hG.up (xz (r := 3) (k := 0) (by decide : xrg 3 0 = 0)) (xpn (c := 0) (by decide : xcl 3 0 = 0) (by decide))
  rw [← est9] at hP
  have hF : FX 4 st sl so st9 sl3 so4 := by rw [est9]; exact hF.up (by decide)
  have hT : TC B g m p ad st9 sl3 so4 := by rw [est9]; exact hT.up (by omega)
  refine lv_aload_n hx hb dX5_readAll_9 rfl (lv_at hl 0 rfl) ?_
  refine lv_iconst (v := 0) hx hb dX5_readAll_10 (by decide) ?_
  refine va_put (D := (dC, dI)) (ci := 6) (v := .int 0) (ty := .boolean) (C := RX5) (T := TX5) (N := 2) hx hb hts ii_X5_readAll_X5 tyX5 tyX5_ok nmX5 hown hK hP (xD hN _ _ _ _ _ _) hS 3 (xw_is (r := 3) (by omega) (xc_fix (r := 3) (by omega))) rfl 1 (by decide) (hts _ mm_X5_readAll_2) (fun _ hh => hh) rfl (by decide +kernel) rfl rfl (Nat.le_of_ble_eq_true rfl) dX5_readAll_11 (fun H locs hP _ hS => ?_)
  have hP : va_P (dC, dI) vwCl (xw A C nb (up2 st9 3 1 0) sl3 so4) H := by rw [← xset (r := 3) (k := 1) (v := 0) (xc_fix (r := 3) (by omega))]; exact hP
  obtain ⟨st10, est10⟩ : ∃ y, y = up2 st9 3 1 0 := ⟨_, rfl⟩
  have hG : XG [1, 2, 3, 4, 5, 6, 8, 9, 12, 13, 14, 15] st st10 := by rw [est10]; exact hG.up (xz (r := 3) (k := 1) (by decide : xrg 3 1 = 0)) (xpn (c := 0) (by decide : xcl 3 1 = 0) (by decide))
  rw [← est10] at hP
  have hF : FX 4 st sl so st10 sl3 so4 := by rw [est10]; exact hF.up (by decide)
  have hT : TC B g m p ad st10 sl3 so4 := by rw [est10]; exact hT.up (by omega)
  have hR : PT (fun _ => 0) (fun _ _ => 0) st10 sl3 := ⟨(by show st10 (36 + 20 * 1) 5 = _; rw [est10, up2_ne (r := 3) (k := 1) (a := (36 + 20 * 1)) (j := 5) _ _ (by omega), est9, up2_ne (r := 3) (k := 0) (a := (36 + 20 * 1)) (j := 5) _ _ (by omega), hf5]; rfl), (by show st10 (36 + 20 * 1) 6 = _; rw [est10, up2_ne (r := 3) (k := 1) (a := (36 + 20 * 1)) (j := 6) _ _ (by omega), est9, up2_ne (r := 3) (k := 0) (a := (36 + 20 * 1)) (j := 6) _ _ (by omega), hf6]; rfl), (by show st10 (36 + 20 * 1) 7 = _; rw [est10, up2_ne (r := 3) (k := 1) (a := (36 + 20 * 1)) (j := 7) _ _ (by omega), est9, up2_ne (r := 3) (k := 0) (a := (36 + 20 * 1)) (j := 7) _ _ (by omega), hf7]; rfl), (by show st10 3 0 = _; rw [est10, up2_ne (r := 3) (k := 1) (a := 3) (j := 0) _ _ (by omega), est9, up2_same]; rfl), (by show st10 3 1 = _; rw [est10, up2_same]; rfl), by decide, (fun i hi => absurd hi (Nat.not_lt_zero i)), (fun i hi => absurd hi (Nat.not_lt_zero i)), (fun i hi => absurd hi (Nat.not_lt_zero i))⟩
  have h13 : st10 1 13 = 0 := by rw [est10, up2_ne (r := 3) (k := 1) (a := 1) (j := 13) _ _ (by omega), est9, up2_ne (r := 3) (k := 0) (a := 1) (j := 13) _ _ (by omega), hf8]; exact hf0
  refine lv_iconst (v := 0) hx hb dX5_readAll_14 (by decide) ?_
  refine lv_istore_n (lv' := [(3, .int 0), (0, .ref (A 3)), (1, .ref (A 1)), (2, .ref (A (36 + 20 * 1)))]) hx hb dX5_readAll_15 rfl hl (by decide) rfl (fun ls hl => ?_)
  refine lv_iconst (v := 1) hx hb dX5_readAll_16 (by decide) ?_
  refine lv_istore (lv' := [(4, .int 1), (3, .int 0), (0, .ref (A 3)), (1, .ref (A 1)), (2, .ref (A (36 + 20 * 1)))]) hx hb dX5_readAll_17 hl (by decide) rfl (fun ls hl => ?_)
  refine zz_wf (fun n stk H locs ls => ∃ k11 : Nat, ∃ k12 : Nat, ∃ st13 : Nat → Nat → Int32, ∃ sl14 : Nat → Nat → Int64, ∃ so15 : Nat → XR, n = 34 - k12 ∧ 0 ≤ k11 ∧ k11 < 2 ∧ 0 ≤ k12 ∧ k12 < 34 ∧ ((k11 = 0 ∧ ∃ f7 a7 : Nat, st13 1 13 = nI f7 ∧ (1 ≤ f7 ∧ f7 < 9) ∧ st13 1 14 = nI a7 ∧ pAll B g m 900 p (fun _ => 0) (fun _ _ => 0) 0 = (fl f7 a7, 0)) ∨ (k11 = 1 ∧ ∃ (p7 : Nat) (c7_ : Nat → Nat) (n7 : Nat → Nat → Nat), TC B g m p7 ad st13 sl14 so15 ∧ PT c7_ n7 st13 sl14 ∧ st13 1 13 = 0 ∧ pAll B g m (900 - k12) p7 c7_ n7 k12 = pAll B g m 900 p (fun _ => 0) (fun _ _ => 0) 0 ∧ k12 = c7_ 0 + c7_ 1 + c7_ 2 + c7_ 3 + c7_ 4)) ∧ FX 4 st sl so st13 sl14 so15 ∧ va_P (dC, dI) vwCl (xw A C nb st13 sl14 so15) H ∧ XG [1, 2, 3, 4, 5, 6, 8, 9, 12, 13, 14, 15] st st13 ∧ OG ad [2, 3, 4] so so15 ∧ va_S (XA A s.heap.size) s.heap H locs ∧ lv_has ls 5 [(4, .int (nI k11)), (3, .int (nI k12)), (0, .ref (A 3)), (1, .ref (A 1)), (2, .ref (A (36 + 20 * 1)))] ∧ stk = []) ?_ (34 - 0) _ _ _ _ ⟨1, 0, st10, sl3, so4, rfl, by omega, by omega, by omega, by omega, Or.inr ⟨rfl, p, (fun _ => 0), (fun _ _ => 0), hT, hR, h13, rfl, rfl⟩, hF, hP, hG, hO, hS, lv_sub hl [0, 1, 2, 3, 4] rfl, rfl⟩
  rintro nn stk H locs ls ⟨k11, k12, st13, sl14, so15, hm21, hv16_0, hv17_1, hv18_2, hv19_3, hv20_0, hv21_1, hP, hG, hO, hS, hl, rfl⟩ ih22
  have hF := hv21_1
  rcases hv20_0 with ⟨hk4, f7, a7, b1, b2, b3, b4⟩ | ⟨hk4, p7, c7_, n7, hT, hR, h13, hpa, hln⟩
  · subst hk4
    refine lv_iload hx hb dX5_readAll_19 (lv_at hl 0 rfl) ?_
    refine lv_if_eq (tgt := 157) hx hb dX5_readAll_21 (by decide) (fun _ => ?_) (fun cc => absurd (by decide) cc)
    refine lv_iload_n hx hb dX5_readAll_157 rfl (lv_at hl 1 rfl) ?_
    exact W.iret (v := (nI k12)) hx hb hr (fun t ht hW => ⟨⟨(nI k12), (st13, sl14, so15), rfl, ⟨hG, hO, Or.inr ⟨f7, a7, b1, b2, b3, b4, hF⟩⟩, xB.of ht hP⟩, hS.F ht⟩) hS.2.2 dX5_readAll_158
  subst hk4
  have hp9 := hT.2.2.2.2.2.2
  have hk1 := tkd_lt (B := B) (g := g) (m := m) (p := p7)
  have hk2 := tkx_le (B := B) (g := g) (m := m) (p := p7) hp9
  have hk3 := tka_le (B := B) (g := g) (m := m) (p := p7) hp9 hB.2.2.1
  have hk4 := tkv_ltc (p := p7) hB hp9
  have hk5 := tkw_lt (B := B) (g := g) (m := m) (p := p7)
  have hR9 := hR.2.2.2.2.2.1
  refine lv_iload hx hb dX5_readAll_19 (lv_at hl 0 rfl) ?_
  refine lv_if_eq (tgt := 157) hx hb dX5_readAll_21 (by decide) (fun cc => absurd cc (by decide)) (fun _ => ?_)
  refine lv_iload_n hx hb dX5_readAll_24 rfl (lv_at hl 1 rfl) ?_
  refine lv_sipush (v := 900) hx hb dX5_readAll_25 (by decide) ?_
  refine lv_icmp_ge (tgt := 157) hx hb dX5_readAll_28 (by decide) (fun cc => absurd ((nI_leI (a := 900) (b := k12) (by omega) (by omega)).mp cc) (by omega)) (fun _ => ?_)
  refine lv_aload_n hx hb dX5_readAll_31 rfl (lv_at hl 3 rfl) ?_
  refine va_getN (host := "OffTheLead") (D := (dC, dI)) (ci := 9) (v := .int (st13 1 4)) (C := RX8) (T := TX8) (N := 15) hx hb hts ii_X5_readAll_X8 hown hK hP 1 (xw_is (r := 1) (by omega) (xc_fix (r := 1) (by omega))) rfl 4 (by decide) (va_Nw.use rfl (nf_X5_24 hEv)) (fun _ hh => hh) rfl dX5_readAll_32 ?_
  refine zz_top (v := (nI ((tkd B g m p7 + 3) % 5))) (by show st13 1 4 = _; rw [hT.2.2.1]) ?_
  refine lv_iconst (v := 3) hx hb dX5_readAll_35 (by decide) ?_
  refine lv_icmp_eq (tgt := 157) hx hb dX5_readAll_36 (by decide) (fun c4 => ?_) (fun c4 => ?_)
  · have c4 : ((tkd B g m p7 + 3) % 5) = 3 := (nI_eq (a := ((tkd B g m p7 + 3) % 5)) (b := 3) (by omega) (by omega)).mp c4
    refine lv_iload_n hx hb dX5_readAll_157 rfl (lv_at hl 1 rfl) ?_
    exact W.iret (v := (nI k12)) hx hb hr (fun t ht hW => ⟨⟨(nI k12), (st13, sl14, so15), rfl, ⟨hG, hO, Or.inl ⟨k12, p7, c7_, n7, rfl, h13, hpa.symm.trans (pAll_0 (by omega) (by omega)), hR, by omega, hF⟩⟩, xB.of ht hP⟩, hS.F ht⟩) hS.2.2 dX5_readAll_158
  · have c4 : ¬ ((tkd B g m p7 + 3) % 5) = 3 := fun hh => c4 ((nI_eq (a := ((tkd B g m p7 + 3) % 5)) (b := 3) (by omega) (by omega)).mpr hh)
    refine lv_aload_n hx hb dX5_readAll_39 rfl (lv_at hl 3 rfl) ?_
    refine va_getN (host := "OffTheLead") (D := (dC, dI)) (ci := 9) (v := va_rf (so15 1 7)) (C := RX8) (T := TX8) (N := 15) hx hb hts ii_X5_readAll_X8 hown hK hP 1 (xw_is (r := 1) (by omega) (xc_fix (r := 1) (by omega))) rfl 7 (by decide) (va_Nw.use rfl (nf_X5_29 hEv)) (fun _ hh => hh) rfl dX5_readAll_40 ?_
    refine zz_topq (r := some (ad (tkw B g m p7))) (by rw [hT.2.2.2.2.2.1]) ?_
    refine va_gets (v := .ref (ad 0)) hx hb (EV.word hEv (i := 0) (by decide)) hS hown (hts _ mm_X5_readAll_3) (fun _ hh => hh) dX5_readAll_43 ?_
    refine lv_acmp_ne (rx := (some (ad (tkw B g m p7)))) (ry := (some (ad 0))) (tgt := 60) hx hb dX5_readAll_46 (by decide) (fun c5 => ?_) (fun c5 => ?_)
    · have c5 : ¬ (tkw B g m p7) = 0 := fun hh => c5 ((EV.eqw hEv (i := (tkw B g m p7)) (j := 0) (by omega) (by omega)).mpr hh)
      refine lv_aload_n hx hb dX5_readAll_60 rfl (lv_at hl 3 rfl) ?_
      refine va_getN (host := "OffTheLead") (D := (dC, dI)) (ci := 9) (v := va_rf (so15 1 7)) (C := RX8) (T := TX8) (N := 15) hx hb hts ii_X5_readAll_X8 hown hK hP 1 (xw_is (r := 1) (by omega) (xc_fix (r := 1) (by omega))) rfl 7 (by decide) (va_Nw.use rfl (nf_X5_29 hEv)) (fun _ hh => hh) rfl dX5_readAll_61 ?_
      refine zz_topq (r := some (ad (tkw B g m p7))) (by rw [hT.2.2.2.2.2.1]) ?_
      refine va_gets (v := .ref (ad 2)) hx hb (EV.word hEv (i := 2) (by decide)) hS hown (hts _ mm_X5_readAll_4) (fun _ hh => hh) dX5_readAll_64 ?_
      refine lv_acmp_ne (rx := (some (ad (tkw B g m p7)))) (ry := (some (ad 2))) (tgt := 81) hx hb dX5_readAll_67 (by decide) (fun c6 => ?_) (fun c6 => ?_)
      · have c6 : ¬ (tkw B g m p7) = 2 := fun hh => c6 ((EV.eqw hEv (i := (tkw B g m p7)) (j := 2) (by omega) (by omega)).mpr hh)
        refine lv_aload_n hx hb dX5_readAll_81 rfl (lv_at hl 3 rfl) ?_
        refine va_getN (host := "OffTheLead") (D := (dC, dI)) (ci := 9) (v := va_rf (so15 1 7)) (C := RX8) (T := TX8) (N := 15) hx hb hts ii_X5_readAll_X8 hown hK hP 1 (xw_is (r := 1) (by omega) (xc_fix (r := 1) (by omega))) rfl 7 (by decide) (va_Nw.use rfl (nf_X5_29 hEv)) (fun _ hh => hh) rfl dX5_readAll_82 ?_
        refine zz_topq (r := some (ad (tkw B g m p7))) (by rw [hT.2.2.2.2.2.1]) ?_
        refine va_gets (v := .ref (ad 3)) hx hb (EV.word hEv (i := 3) (by decide)) hS hown (hts _ mm_X5_readAll_5) (fun _ hh => hh) dX5_readAll_85 ?_
        refine lv_acmp_ne (rx := (some (ad (tkw B g m p7)))) (ry := (some (ad 3))) (tgt := 102) hx hb dX5_readAll_88 (by decide) (fun c7 => ?_) (fun c7 => ?_)
        · have c7 : ¬ (tkw B g m p7) = 3 := fun hh => c7 ((EV.eqw hEv (i := (tkw B g m p7)) (j := 3) (by omega) (by omega)).mpr hh)
          refine lv_aload_n hx hb dX5_readAll_102 rfl (lv_at hl 3 rfl) ?_
          refine va_getN (host := "OffTheLead") (D := (dC, dI)) (ci := 9) (v := va_rf (so15 1 7)) (C := RX8) (T := TX8) (N := 15) hx hb hts ii_X5_readAll_X8 hown hK hP 1 (xw_is (r := 1) (by omega) (xc_fix (r := 1) (by omega))) rfl 7 (by decide) (va_Nw.use rfl (nf_X5_29 hEv)) (fun _ hh => hh) rfl dX5_readAll_103 ?_
          refine zz_topq (r := some (ad (tkw B g m p7))) (by rw [hT.2.2.2.2.2.1]) ?_
          refine va_gets (v := .ref (ad 4)) hx hb (EV.word hEv (i := 4) (by decide)) hS hown (hts _ mm_X5_readAll_6) (fun _ hh => hh) dX5_readAll_106 ?_
          refine lv_acmp_ne (rx := (some (ad (tkw B g m p7)))) (ry := (some (ad 4))) (tgt := 123) hx hb dX5_readAll_109 (by decide) (fun c8 => ?_) (fun c8 => ?_)
          · have c8 : ¬ (tkw B g m p7) = 4 := fun hh => c8 ((EV.eqw hEv (i := (tkw B g m p7)) (j := 4) (by omega) (by omega)).mpr hh)
            refine lv_aload_n hx hb dX5_readAll_123 rfl (lv_at hl 3 rfl) ?_
            refine va_getN (host := "OffTheLead") (D := (dC, dI)) (ci := 9) (v := va_rf (so15 1 7)) (C := RX8) (T := TX8) (N := 15) hx hb hts ii_X5_readAll_X8 hown hK hP 1 (xw_is (r := 1) (by omega) (xc_fix (r := 1) (by omega))) rfl 7 (by decide) (va_Nw.use rfl (nf_X5_29 hEv)) (fun _ hh => hh) rfl dX5_readAll_124 ?_
            refine zz_topq (r := some (ad (tkw B g m p7))) (by rw [hT.2.2.2.2.2.1]) ?_
            refine va_gets (v := .ref (ad 5)) hx hb (EV.word hEv (i := 5) (by decide)) hS hown (hts _ mm_X5_readAll_7) (fun _ hh => hh) dX5_readAll_127 ?_
            refine lv_acmp_ne (rx := (some (ad (tkw B g m p7)))) (ry := (some (ad 5))) (tgt := 144) hx hb dX5_readAll_130 (by decide) (fun c9 => ?_) (fun c9 => ?_)
            · have c9 : ¬ (tkw B g m p7) = 5 := fun hh => c9 ((EV.eqw hEv (i := (tkw B g m p7)) (j := 5) (by omega) (by omega)).mpr hh)
              refine lv_aload_n hx hb dX5_readAll_144 rfl (lv_at hl 3 rfl) ?_
              refine lv_iconst (v := 1) hx hb dX5_readAll_145 (by decide) ?_
              refine va_calli (va_runV (As := [.int 1]) (rest := []) ⟨hx, hb, hml, hown, hts⟩ (y_X8_refuse l dC dI ad E hEE A C nb _ hN st13 sl14 so15 1 B g m p7 (by omega) hG.1 hO.1 (CBt.fr hB hF) hT) (cwV 1 hts gX5_readAll_X8_refuse rfl rfl rfl (by decide +kernel) ⟨Nat.le_of_ble_eq_true rfl, Nat.le_of_ble_eq_true rfl⟩) ⟨fun a U g mk q => ⟨q.1, xPre.blind hEE q.2⟩, va_recv hK hP (ci := 9) (q0 := 1) rfl (xw_is (r := 1) (by omega) (xc_fix (r := 1) (by omega))), fun U hU hW => ⟨rfl, xPre.of hEE hP hK hE hS hU hW⟩⟩ rfl rfl hl.1 rfl (lv_room (Nat.le_of_ble_eq_true rfl)) dX5_readAll_146 ⟨Nat.le_of_ble_eq_true rfl, Nat.le_of_ble_eq_true rfl⟩) hS (fun q _ h => XA.le hS.1 q h) (XA.le hS.1) (fun r23 x t H locs ht hvm hw hB9 _ _ hS => ?_)
              have hP := xB.at ht hB9
              clear hB9 ht hvm
              obtain ⟨st24, sl25, so26⟩ := x
              obtain ⟨hGst24, hOst24, hFst24, hw⟩ := hw
              dsimp only at hGst24 hOst24 hFst24 hw
              have hO : OG ad [2, 3, 4] so so26 := hO.tr hOst24 (by decide)
              have hP : va_P (dC, dI) vwCl (xw A C nb st24 sl25 so26) _ := hP
              have hG : XG [1, 2, 3, 4, 5, 6, 8, 9, 12, 13, 14, 15] st st24 := hG.tr hGst24 (by decide)
              have hF : FX 4 st sl so st24 sl25 so26 := hF.tr hFst24 (by omega) (by omega)
              have hR : PT c7_ n7 st24 sl25 := hR.fr hFst24 (by omega)
              obtain ⟨rfl, hf27, hf28, hT⟩ := hw
              have hp9 := hT.2.2.2.2.2.2
              have hk1 := tkd_lt (B := B) (g := g) (m := m) (p := p7)
              have hk2 := tkx_le (B := B) (g := g) (m := m) (p := p7) hp9
              have hk3 := tka_le (B := B) (g := g) (m := m) (p := p7) hp9 hB.2.2.1
              have hk4 := tkv_ltc (p := p7) hB hp9
              have hk5 := tkw_lt (B := B) (g := g) (m := m) (p := p7)
              refine lv_istore (lv' := [(4, .int 0), (3, .int (nI k12)), (0, .ref (A 3)), (1, .ref (A 1)), (2, .ref (A (36 + 20 * 1)))]) hx hb dX5_readAll_149 hl (by decide) rfl (fun ls hl => ?_)
              refine lv_iinc (v := (nI (k12 + 1))) (lv' := [(3, .int (nI (k12 + 1))), (4, .int 0), (0, .ref (A 3)), (1, .ref (A 1)), (2, .ref (A (36 + 20 * 1)))]) hx hb dX5_readAll_151 hl (k := 1) rfl (nI_add k12 1) (by decide) rfl (fun ls hl => ?_)
              refine lv_goto (tgt := 19) hx hb dX5_readAll_154 (by decide) ?_
              exact ih22 (34 - (k12 + 1)) _ _ _ _ (by omega) ⟨0, (k12 + 1), st24, sl25, so26, rfl, by omega, by omega, by omega, by omega, Or.inl ⟨rfl, 1, (tka B g m p7), by show st24 1 13 = _; rw [hf27], by omega, by show st24 1 14 = _; rw [hf28], hpa.symm.trans (pAll_f (show ¬ tkd B g m p7 = 0 by omega) (by unfold lAny; rw [if_neg c5, if_neg c6, if_neg c7, if_neg c8, if_neg c9]) (by omega) (by omega))⟩, hF, hP, hG, hO, hS, lv_sub hl [1, 0, 2, 3, 4] rfl, rfl⟩
            · have c9 : (tkw B g m p7) = 5 := (EV.eqw hEv (i := (tkw B g m p7)) (j := 5) (by omega) (by omega)).mp c9
              refine lv_aload_n hx hb dX5_readAll_133 rfl (lv_at hl 2 rfl) ?_
              refine lv_aload_n hx hb dX5_readAll_134 rfl (lv_at hl 3 rfl) ?_
              refine lv_aload_n hx hb dX5_readAll_135 rfl (lv_at hl 4 rfl) ?_
              refine va_calli (va_runV (As := [.ref (A 1), .ref (A (36 + 20 * 1))]) (rest := []) ⟨hx, hb, hml, hown, hts⟩ (y_X5_readSign l dC dI ad E hEE A C nb _ hN st13 sl14 so15 B g m p7 c7_ n7 hG.1 hO.1 (CBt.fr hB hF) hT hR (c9)) (cwV 2 hts gX5_readAll_X5_readSign rfl rfl rfl (by decide +kernel) ⟨Nat.le_of_ble_eq_true rfl, Nat.le_of_ble_eq_true rfl⟩) ⟨fun a U g mk q => ⟨q.1, xPre.blind hEE q.2⟩, va_recv hK hP (ci := 6) (q0 := 3) rfl (xw_is (r := 3) (by omega) (xc_fix (r := 3) (by omega))), fun U hU hW => ⟨rfl, xPre.of hEE hP hK hE hS hU hW⟩⟩ rfl rfl hl.1 rfl (lv_room (Nat.le_of_ble_eq_true rfl)) dX5_readAll_136 ⟨Nat.le_of_ble_eq_true rfl, Nat.le_of_ble_eq_true rfl⟩) hS (fun q _ h => XA.le hS.1 q h) (XA.le hS.1) (fun r29 x t H locs ht hvm hw hB9 _ _ hS => ?_)
              have hP := xB.at ht hB9
              clear hB9 ht hvm
              obtain ⟨st30, sl31, so32⟩ := x
              obtain ⟨hGst30, hOst30, hFst30, hw⟩ := hw
              dsimp only at hGst30 hOst30 hFst30 hw
              have hO : OG ad [2, 3, 4] so so32 := hO.tr hOst30 (by decide)
              have hP : va_P (dC, dI) vwCl (xw A C nb st30 sl31 so32) _ := hP
              have hG : XG [1, 2, 3, 4, 5, 6, 8, 9, 12, 13, 14, 15] st st30 := hG.tr hGst30 (by decide)
              have hF : FX 4 st sl so st30 sl31 so32 := hF.tr hFst30 (by omega) (by omega)
              rcases hw with ⟨n33, n34, n35, rfl, hR, hT, hf36, hf37, hf38⟩ | ⟨n39, n40, rfl, hf41, hf42, hf43, hf44⟩
              · have hp9 := hT.2.2.2.2.2.2
                have hk1 := tkd_lt (B := B) (g := g) (m := m) (p := n35)
                have hk2 := tkx_le (B := B) (g := g) (m := m) (p := n35) hp9
                have hk3 := tka_le (B := B) (g := g) (m := m) (p := n35) hp9 hB.2.2.1
                have hk4 := tkv_ltc (p := n35) hB hp9
                have hk5 := tkw_lt (B := B) (g := g) (m := m) (p := n35)
                refine lv_istore (lv' := [(4, .int 1), (3, .int (nI k12)), (0, .ref (A 3)), (1, .ref (A 1)), (2, .ref (A (36 + 20 * 1)))]) hx hb dX5_readAll_139 hl (by decide) rfl (fun ls hl => ?_)
                refine lv_goto (tgt := 151) hx hb dX5_readAll_141 (by decide) ?_
                refine lv_iinc (v := (nI (k12 + 1))) (lv' := [(3, .int (nI (k12 + 1))), (4, .int 1), (0, .ref (A 3)), (1, .ref (A 1)), (2, .ref (A (36 + 20 * 1)))]) hx hb dX5_readAll_151 hl (k := 1) rfl (nI_add k12 1) (by decide) rfl (fun ls hl => ?_)
                refine lv_goto (tgt := 19) hx hb dX5_readAll_154 (by decide) ?_
                have hR9 := hR.2.2.2.2.2.1
                have hsm := hf37
                exact ih22 (34 - (k12 + 1)) _ _ _ _ (by omega) ⟨1, (k12 + 1), st30, sl31, so32, rfl, by omega, by omega, by omega, by omega, Or.inr ⟨rfl, n35, n33, n34, hT, hR, by show st30 1 13 = 0; rw [hf36, h13], (pAll_y (show ¬ tkd B g m p7 = 0 by omega) (by unfold lAny; rw [if_neg c5, if_neg c6, if_neg c7, if_neg c8, if_pos c9]; exact hf38) (by omega)).symm.trans hpa, by omega⟩, hF, hP, hG, hO, hS, lv_sub hl [1, 0, 2, 3, 4] rfl, rfl⟩
              · refine lv_istore (lv' := [(4, .int 0), (3, .int (nI k12)), (0, .ref (A 3)), (1, .ref (A 1)), (2, .ref (A (36 + 20 * 1)))]) hx hb dX5_readAll_139 hl (by decide) rfl (fun ls hl => ?_)
                refine lv_goto (tgt := 151) hx hb dX5_readAll_141 (by decide) ?_
                refine lv_iinc (v := (nI (k12 + 1))) (lv' := [(3, .int (nI (k12 + 1))), (4, .int 0), (0, .ref (A 3)), (1, .ref (A 1)), (2, .ref (A (36 + 20 * 1)))]) hx hb dX5_readAll_151 hl (k := 1) rfl (nI_add k12 1) (by decide) rfl (fun ls hl => ?_)
                refine lv_goto (tgt := 19) hx hb dX5_readAll_154 (by decide) ?_
                exact ih22 (34 - (k12 + 1)) _ _ _ _ (by omega) ⟨0, (k12 + 1), st30, sl31, so32, rfl, by omega, by omega, by omega, by omega, Or.inl ⟨rfl, n39, n40, by show st30 1 13 = _; rw [hf41], hf43, by show st30 1 14 = _; rw [hf42], hpa.symm.trans (pAll_f (show ¬ tkd B g m p7 = 0 by omega) (by unfold lAny; rw [if_neg c5, if_neg c6, if_neg c7, if_neg c8, if_pos c9]; exact hf44) hf43.1 (by omega))⟩, hF, hP, hG, hO, hS, lv_sub hl [1, 0, 2, 3, 4] rfl, rfl⟩
          · have c8 : (tkw B g m p7) = 4 := (EV.eqw hEv (i := (tkw B g m p7)) (j := 4) (by omega) (by omega)).mp c8
            refine lv_aload_n hx hb dX5_readAll_112 rfl (lv_at hl 2 rfl) ?_
            refine lv_aload_n hx hb dX5_readAll_113 rfl (lv_at hl 3 rfl) ?_
            refine lv_aload_n hx hb dX5_readAll_114 rfl (lv_at hl 4 rfl) ?_
            refine va_calli (va_runV (As := [.ref (A 1), .ref (A (36 + 20 * 1))]) (rest := []) ⟨hx, hb, hml, hown, hts⟩ (y_X5_readFree l dC dI ad E hEE A C nb _ hN st13 sl14 so15 B g m p7 c7_ n7 hG.1 hO.1 (CBt.fr hB hF) hT hR (c8)) (cwV 2 hts gX5_readAll_X5_readFree rfl rfl rfl (by decide +kernel) ⟨Nat.le_of_ble_eq_true rfl, Nat.le_of_ble_eq_true rfl⟩) ⟨fun a U g mk q => ⟨q.1, xPre.blind hEE q.2⟩, va_recv hK hP (ci := 6) (q0 := 3) rfl (xw_is (r := 3) (by omega) (xc_fix (r := 3) (by omega))), fun U hU hW => ⟨rfl, xPre.of hEE hP hK hE hS hU hW⟩⟩ rfl rfl hl.1 rfl (lv_room (Nat.le_of_ble_eq_true rfl)) dX5_readAll_115 ⟨Nat.le_of_ble_eq_true rfl, Nat.le_of_ble_eq_true rfl⟩) hS (fun q _ h => XA.le hS.1 q h) (XA.le hS.1) (fun r45 x t H locs ht hvm hw hB9 _ _ hS => ?_)
            have hP := xB.at ht hB9
            clear hB9 ht hvm
            obtain ⟨st46, sl47, so48⟩ := x
            obtain ⟨hGst46, hOst46, hFst46, hw⟩ := hw
            dsimp only at hGst46 hOst46 hFst46 hw
            have hO : OG ad [2, 3, 4] so so48 := hO.tr hOst46 (by decide)
            have hP : va_P (dC, dI) vwCl (xw A C nb st46 sl47 so48) _ := hP
            have hG : XG [1, 2, 3, 4, 5, 6, 8, 9, 12, 13, 14, 15] st st46 := hG.tr hGst46 (by decide)
            have hF : FX 4 st sl so st46 sl47 so48 := hF.tr hFst46 (by omega) (by omega)
            rcases hw with ⟨n49, n50, n51, rfl, hR, hT, hf52, hf53, hf54⟩ | ⟨n55, n56, rfl, hf57, hf58, hf59, hf60⟩
            · have hp9 := hT.2.2.2.2.2.2
              have hk1 := tkd_lt (B := B) (g := g) (m := m) (p := n51)
              have hk2 := tkx_le (B := B) (g := g) (m := m) (p := n51) hp9
              have hk3 := tka_le (B := B) (g := g) (m := m) (p := n51) hp9 hB.2.2.1
              have hk4 := tkv_ltc (p := n51) hB hp9
              have hk5 := tkw_lt (B := B) (g := g) (m := m) (p := n51)
              refine lv_istore (lv' := [(4, .int 1), (3, .int (nI k12)), (0, .ref (A 3)), (1, .ref (A 1)), (2, .ref (A (36 + 20 * 1)))]) hx hb dX5_readAll_118 hl (by decide) rfl (fun ls hl => ?_)
              refine lv_goto (tgt := 151) hx hb dX5_readAll_120 (by decide) ?_
              refine lv_iinc (v := (nI (k12 + 1))) (lv' := [(3, .int (nI (k12 + 1))), (4, .int 1), (0, .ref (A 3)), (1, .ref (A 1)), (2, .ref (A (36 + 20 * 1)))]) hx hb dX5_readAll_151 hl (k := 1) rfl (nI_add k12 1) (by decide) rfl (fun ls hl => ?_)
              refine lv_goto (tgt := 19) hx hb dX5_readAll_154 (by decide) ?_
              have hR9 := hR.2.2.2.2.2.1
              have hsm := hf53
              exact ih22 (34 - (k12 + 1)) _ _ _ _ (by omega) ⟨1, (k12 + 1), st46, sl47, so48, rfl, by omega, by omega, by omega, by omega, Or.inr ⟨rfl, n51, n49, n50, hT, hR, by show st46 1 13 = 0; rw [hf52, h13], (pAll_y (show ¬ tkd B g m p7 = 0 by omega) (by unfold lAny; rw [if_neg c5, if_neg c6, if_neg c7, if_pos c8]; exact hf54) (by omega)).symm.trans hpa, by omega⟩, hF, hP, hG, hO, hS, lv_sub hl [1, 0, 2, 3, 4] rfl, rfl⟩
            · refine lv_istore (lv' := [(4, .int 0), (3, .int (nI k12)), (0, .ref (A 3)), (1, .ref (A 1)), (2, .ref (A (36 + 20 * 1)))]) hx hb dX5_readAll_118 hl (by decide) rfl (fun ls hl => ?_)
              refine lv_goto (tgt := 151) hx hb dX5_readAll_120 (by decide) ?_
              refine lv_iinc (v := (nI (k12 + 1))) (lv' := [(3, .int (nI (k12 + 1))), (4, .int 0), (0, .ref (A 3)), (1, .ref (A 1)), (2, .ref (A (36 + 20 * 1)))]) hx hb dX5_readAll_151 hl (k := 1) rfl (nI_add k12 1) (by decide) rfl (fun ls hl => ?_)
              refine lv_goto (tgt := 19) hx hb dX5_readAll_154 (by decide) ?_
              exact ih22 (34 - (k12 + 1)) _ _ _ _ (by omega) ⟨0, (k12 + 1), st46, sl47, so48, rfl, by omega, by omega, by omega, by omega, Or.inl ⟨rfl, n55, n56, by show st46 1 13 = _; rw [hf57], hf59, by show st46 1 14 = _; rw [hf58], hpa.symm.trans (pAll_f (show ¬ tkd B g m p7 = 0 by omega) (by unfold lAny; rw [if_neg c5, if_neg c6, if_neg c7, if_pos c8]; exact hf60) hf59.1 (by omega))⟩, hF, hP, hG, hO, hS, lv_sub hl [1, 0, 2, 3, 4] rfl, rfl⟩
        · have c7 : (tkw B g m p7) = 3 := (EV.eqw hEv (i := (tkw B g m p7)) (j := 3) (by omega) (by omega)).mp c7
          refine lv_aload_n hx hb dX5_readAll_91 rfl (lv_at hl 2 rfl) ?_
          refine lv_aload_n hx hb dX5_readAll_92 rfl (lv_at hl 3 rfl) ?_
          refine lv_aload_n hx hb dX5_readAll_93 rfl (lv_at hl 4 rfl) ?_
          refine va_calli (va_runV (As := [.ref (A 1), .ref (A (36 + 20 * 1))]) (rest := []) ⟨hx, hb, hml, hown, hts⟩ (y_X5_readDog l dC dI ad E hEE A C nb _ hN st13 sl14 so15 B g m p7 c7_ n7 hG.1 hO.1 (CBt.fr hB hF) hT hR (c7)) (cwV 2 hts gX5_readAll_X5_readDog rfl rfl rfl (by decide +kernel) ⟨Nat.le_of_ble_eq_true rfl, Nat.le_of_ble_eq_true rfl⟩) ⟨fun a U g mk q => ⟨q.1, xPre.blind hEE q.2⟩, va_recv hK hP (ci := 6) (q0 := 3) rfl (xw_is (r := 3) (by omega) (xc_fix (r := 3) (by omega))), fun U hU hW => ⟨rfl, xPre.of hEE hP hK hE hS hU hW⟩⟩ rfl rfl hl.1 rfl (lv_room (Nat.le_of_ble_eq_true rfl)) dX5_readAll_94 ⟨Nat.le_of_ble_eq_true rfl, Nat.le_of_ble_eq_true rfl⟩) hS (fun q _ h => XA.le hS.1 q h) (XA.le hS.1) (fun r61 x t H locs ht hvm hw hB9 _ _ hS => ?_)
          have hP := xB.at ht hB9
          clear hB9 ht hvm
          obtain ⟨st62, sl63, so64⟩ := x
          obtain ⟨hGst62, hOst62, hFst62, hw⟩ := hw
          dsimp only at hGst62 hOst62 hFst62 hw
          have hO : OG ad [2, 3, 4] so so64 := hO.tr hOst62 (by decide)
          have hP : va_P (dC, dI) vwCl (xw A C nb st62 sl63 so64) _ := hP
          have hG : XG [1, 2, 3, 4, 5, 6, 8, 9, 12, 13, 14, 15] st st62 := hG.tr hGst62 (by decide)
          have hF : FX 4 st sl so st62 sl63 so64 := hF.tr hFst62 (by omega) (by omega)
          rcases hw with ⟨n65, n66, n67, rfl, hR, hT, hf68, hf69, hf70⟩ | ⟨n71, n72, rfl, hf73, hf74, hf75, hf76⟩
          · have hp9 := hT.2.2.2.2.2.2
            have hk1 := tkd_lt (B := B) (g := g) (m := m) (p := n67)
            have hk2 := tkx_le (B := B) (g := g) (m := m) (p := n67) hp9
            have hk3 := tka_le (B := B) (g := g) (m := m) (p := n67) hp9 hB.2.2.1
            have hk4 := tkv_ltc (p := n67) hB hp9
            have hk5 := tkw_lt (B := B) (g := g) (m := m) (p := n67)
            refine lv_istore (lv' := [(4, .int 1), (3, .int (nI k12)), (0, .ref (A 3)), (1, .ref (A 1)), (2, .ref (A (36 + 20 * 1)))]) hx hb dX5_readAll_97 hl (by decide) rfl (fun ls hl => ?_)
            refine lv_goto (tgt := 151) hx hb dX5_readAll_99 (by decide) ?_
            refine lv_iinc (v := (nI (k12 + 1))) (lv' := [(3, .int (nI (k12 + 1))), (4, .int 1), (0, .ref (A 3)), (1, .ref (A 1)), (2, .ref (A (36 + 20 * 1)))]) hx hb dX5_readAll_151 hl (k := 1) rfl (nI_add k12 1) (by decide) rfl (fun ls hl => ?_)
            refine lv_goto (tgt := 19) hx hb dX5_readAll_154 (by decide) ?_
            have hR9 := hR.2.2.2.2.2.1
            have hsm := hf69
            exact ih22 (34 - (k12 + 1)) _ _ _ _ (by omega) ⟨1, (k12 + 1), st62, sl63, so64, rfl, by omega, by omega, by omega, by omega, Or.inr ⟨rfl, n67, n65, n66, hT, hR, by show st62 1 13 = 0; rw [hf68, h13], (pAll_y (show ¬ tkd B g m p7 = 0 by omega) (by unfold lAny; rw [if_neg c5, if_neg c6, if_pos c7]; exact hf70) (by omega)).symm.trans hpa, by omega⟩, hF, hP, hG, hO, hS, lv_sub hl [1, 0, 2, 3, 4] rfl, rfl⟩
          · refine lv_istore (lv' := [(4, .int 0), (3, .int (nI k12)), (0, .ref (A 3)), (1, .ref (A 1)), (2, .ref (A (36 + 20 * 1)))]) hx hb dX5_readAll_97 hl (by decide) rfl (fun ls hl => ?_)
            refine lv_goto (tgt := 151) hx hb dX5_readAll_99 (by decide) ?_
            refine lv_iinc (v := (nI (k12 + 1))) (lv' := [(3, .int (nI (k12 + 1))), (4, .int 0), (0, .ref (A 3)), (1, .ref (A 1)), (2, .ref (A (36 + 20 * 1)))]) hx hb dX5_readAll_151 hl (k := 1) rfl (nI_add k12 1) (by decide) rfl (fun ls hl => ?_)
            refine lv_goto (tgt := 19) hx hb dX5_readAll_154 (by decide) ?_
            exact ih22 (34 - (k12 + 1)) _ _ _ _ (by omega) ⟨0, (k12 + 1), st62, sl63, so64, rfl, by omega, by omega, by omega, by omega, Or.inl ⟨rfl, n71, n72, by show st62 1 13 = _; rw [hf73], hf75, by show st62 1 14 = _; rw [hf74], hpa.symm.trans (pAll_f (show ¬ tkd B g m p7 = 0 by omega) (by unfold lAny; rw [if_neg c5, if_neg c6, if_pos c7]; exact hf76) hf75.1 (by omega))⟩, hF, hP, hG, hO, hS, lv_sub hl [1, 0, 2, 3, 4] rfl, rfl⟩
      · have c6 : (tkw B g m p7) = 2 := (EV.eqw hEv (i := (tkw B g m p7)) (j := 2) (by omega) (by omega)).mp c6
        refine lv_aload_n hx hb dX5_readAll_70 rfl (lv_at hl 2 rfl) ?_
        refine lv_aload_n hx hb dX5_readAll_71 rfl (lv_at hl 3 rfl) ?_
        refine lv_aload_n hx hb dX5_readAll_72 rfl (lv_at hl 4 rfl) ?_
        refine va_calli (va_runV (As := [.ref (A 1), .ref (A (36 + 20 * 1))]) (rest := []) ⟨hx, hb, hml, hown, hts⟩ (y_X5_readPerson l dC dI ad E hEE A C nb _ hN st13 sl14 so15 B g m p7 c7_ n7 hG.1 hO.1 (CBt.fr hB hF) hT hR (c6)) (cwV 2 hts gX5_readAll_X5_readPerson rfl rfl rfl (by decide +kernel) ⟨Nat.le_of_ble_eq_true rfl, Nat.le_of_ble_eq_true rfl⟩) ⟨fun a U g mk q => ⟨q.1, xPre.blind hEE q.2⟩, va_recv hK hP (ci := 6) (q0 := 3) rfl (xw_is (r := 3) (by omega) (xc_fix (r := 3) (by omega))), fun U hU hW => ⟨rfl, xPre.of hEE hP hK hE hS hU hW⟩⟩ rfl rfl hl.1 rfl (lv_room (Nat.le_of_ble_eq_true rfl)) dX5_readAll_73 ⟨Nat.le_of_ble_eq_true rfl, Nat.le_of_ble_eq_true rfl⟩) hS (fun q _ h => XA.le hS.1 q h) (XA.le hS.1) (fun r77 x t H locs ht hvm hw hB9 _ _ hS => ?_)
        have hP := xB.at ht hB9
        clear hB9 ht hvm
        obtain ⟨st78, sl79, so80⟩ := x
        obtain ⟨hGst78, hOst78, hFst78, hw⟩ := hw
        dsimp only at hGst78 hOst78 hFst78 hw
        have hO : OG ad [2, 3, 4] so so80 := hO.tr hOst78 (by decide)
        have hP : va_P (dC, dI) vwCl (xw A C nb st78 sl79 so80) _ := hP
        have hG : XG [1, 2, 3, 4, 5, 6, 8, 9, 12, 13, 14, 15] st st78 := hG.tr hGst78 (by decide)
        have hF : FX 4 st sl so st78 sl79 so80 := hF.tr hFst78 (by omega) (by omega)
        rcases hw with ⟨n81, n82, n83, rfl, hR, hT, hf84, hf85, hf86⟩ | ⟨n87, n88, rfl, hf89, hf90, hf91, hf92⟩
        · have hp9 := hT.2.2.2.2.2.2
          have hk1 := tkd_lt (B := B) (g := g) (m := m) (p := n83)
          have hk2 := tkx_le (B := B) (g := g) (m := m) (p := n83) hp9
          have hk3 := tka_le (B := B) (g := g) (m := m) (p := n83) hp9 hB.2.2.1
          have hk4 := tkv_ltc (p := n83) hB hp9
          have hk5 := tkw_lt (B := B) (g := g) (m := m) (p := n83)
          refine lv_istore (lv' := [(4, .int 1), (3, .int (nI k12)), (0, .ref (A 3)), (1, .ref (A 1)), (2, .ref (A (36 + 20 * 1)))]) hx hb dX5_readAll_76 hl (by decide) rfl (fun ls hl => ?_)
          refine lv_goto (tgt := 151) hx hb dX5_readAll_78 (by decide) ?_
          refine lv_iinc (v := (nI (k12 + 1))) (lv' := [(3, .int (nI (k12 + 1))), (4, .int 1), (0, .ref (A 3)), (1, .ref (A 1)), (2, .ref (A (36 + 20 * 1)))]) hx hb dX5_readAll_151 hl (k := 1) rfl (nI_add k12 1) (by decide) rfl (fun ls hl => ?_)
          refine lv_goto (tgt := 19) hx hb dX5_readAll_154 (by decide) ?_
          have hR9 := hR.2.2.2.2.2.1
          have hsm := hf85
          exact ih22 (34 - (k12 + 1)) _ _ _ _ (by omega) ⟨1, (k12 + 1), st78, sl79, so80, rfl, by omega, by omega, by omega, by omega, Or.inr ⟨rfl, n83, n81, n82, hT, hR, by show st78 1 13 = 0; rw [hf84, h13], (pAll_y (show ¬ tkd B g m p7 = 0 by omega) (by unfold lAny; rw [if_neg c5, if_pos c6]; exact hf86) (by omega)).symm.trans hpa, by omega⟩, hF, hP, hG, hO, hS, lv_sub hl [1, 0, 2, 3, 4] rfl, rfl⟩
        · refine lv_istore (lv' := [(4, .int 0), (3, .int (nI k12)), (0, .ref (A 3)), (1, .ref (A 1)), (2, .ref (A (36 + 20 * 1)))]) hx hb dX5_readAll_76 hl (by decide) rfl (fun ls hl => ?_)
          refine lv_goto (tgt := 151) hx hb dX5_readAll_78 (by decide) ?_
          refine lv_iinc (v := (nI (k12 + 1))) (lv' := [(3, .int (nI (k12 + 1))), (4, .int 0), (0, .ref (A 3)), (1, .ref (A 1)), (2, .ref (A (36 + 20 * 1)))]) hx hb dX5_readAll_151 hl (k := 1) rfl (nI_add k12 1) (by decide) rfl (fun ls hl => ?_)
          refine lv_goto (tgt := 19) hx hb dX5_readAll_154 (by decide) ?_
          exact ih22 (34 - (k12 + 1)) _ _ _ _ (by omega) ⟨0, (k12 + 1), st78, sl79, so80, rfl, by omega, by omega, by omega, by omega, Or.inl ⟨rfl, n87, n88, by show st78 1 13 = _; rw [hf89], hf91, by show st78 1 14 = _; rw [hf90], hpa.symm.trans (pAll_f (show ¬ tkd B g m p7 = 0 by omega) (by unfold lAny; rw [if_neg c5, if_pos c6]; exact hf92) hf91.1 (by omega))⟩, hF, hP, hG, hO, hS, lv_sub hl [1, 0, 2, 3, 4] rfl, rfl⟩
    · have c5 : (tkw B g m p7) = 0 := (EV.eqw hEv (i := (tkw B g m p7)) (j := 0) (by omega) (by omega)).mp c5
      refine lv_aload_n hx hb dX5_readAll_49 rfl (lv_at hl 2 rfl) ?_
      refine lv_aload_n hx hb dX5_readAll_50 rfl (lv_at hl 3 rfl) ?_
      refine lv_aload_n hx hb dX5_readAll_51 rfl (lv_at hl 4 rfl) ?_
      refine va_calli (va_runV (As := [.ref (A 1), .ref (A (36 + 20 * 1))]) (rest := []) ⟨hx, hb, hml, hown, hts⟩ (y_X5_readPlace l dC dI ad E hEE A C nb _ hN st13 sl14 so15 B g m p7 c7_ n7 hG.1 hO.1 (CBt.fr hB hF) hT hR (c5)) (cwV 2 hts gX5_readAll_X5_readPlace rfl rfl rfl (by decide +kernel) ⟨Nat.le_of_ble_eq_true rfl, Nat.le_of_ble_eq_true rfl⟩) ⟨fun a U g mk q => ⟨q.1, xPre.blind hEE q.2⟩, va_recv hK hP (ci := 6) (q0 := 3) rfl (xw_is (r := 3) (by omega) (xc_fix (r := 3) (by omega))), fun U hU hW => ⟨rfl, xPre.of hEE hP hK hE hS hU hW⟩⟩ rfl rfl hl.1 rfl (lv_room (Nat.le_of_ble_eq_true rfl)) dX5_readAll_52 ⟨Nat.le_of_ble_eq_true rfl, Nat.le_of_ble_eq_true rfl⟩) hS (fun q _ h => XA.le hS.1 q h) (XA.le hS.1) (fun r93 x t H locs ht hvm hw hB9 _ _ hS => ?_)
      have hP := xB.at ht hB9
      clear hB9 ht hvm
      obtain ⟨st94, sl95, so96⟩ := x
      obtain ⟨hGst94, hOst94, hFst94, hw⟩ := hw
      dsimp only at hGst94 hOst94 hFst94 hw
      have hO : OG ad [2, 3, 4] so so96 := hO.tr hOst94 (by decide)
      have hP : va_P (dC, dI) vwCl (xw A C nb st94 sl95 so96) _ := hP
      have hG : XG [1, 2, 3, 4, 5, 6, 8, 9, 12, 13, 14, 15] st st94 := hG.tr hGst94 (by decide)
      have hF : FX 4 st sl so st94 sl95 so96 := hF.tr hFst94 (by omega) (by omega)
      rcases hw with ⟨n97, n98, n99, rfl, hR, hT, hf100, hf101, hf102⟩ | ⟨n103, n104, rfl, hf105, hf106, hf107, hf108⟩
      · have hp9 := hT.2.2.2.2.2.2
        have hk1 := tkd_lt (B := B) (g := g) (m := m) (p := n99)
        have hk2 := tkx_le (B := B) (g := g) (m := m) (p := n99) hp9
        have hk3 := tka_le (B := B) (g := g) (m := m) (p := n99) hp9 hB.2.2.1
        have hk4 := tkv_ltc (p := n99) hB hp9
        have hk5 := tkw_lt (B := B) (g := g) (m := m) (p := n99)
        refine lv_istore (lv' := [(4, .int 1), (3, .int (nI k12)), (0, .ref (A 3)), (1, .ref (A 1)), (2, .ref (A (36 + 20 * 1)))]) hx hb dX5_readAll_55 hl (by decide) rfl (fun ls hl => ?_)
        refine lv_goto (tgt := 151) hx hb dX5_readAll_57 (by decide) ?_
        refine lv_iinc (v := (nI (k12 + 1))) (lv' := [(3, .int (nI (k12 + 1))), (4, .int 1), (0, .ref (A 3)), (1, .ref (A 1)), (2, .ref (A (36 + 20 * 1)))]) hx hb dX5_readAll_151 hl (k := 1) rfl (nI_add k12 1) (by decide) rfl (fun ls hl => ?_)
        refine lv_goto (tgt := 19) hx hb dX5_readAll_154 (by decide) ?_
        have hR9 := hR.2.2.2.2.2.1
        have hsm := hf101
        exact ih22 (34 - (k12 + 1)) _ _ _ _ (by omega) ⟨1, (k12 + 1), st94, sl95, so96, rfl, by omega, by omega, by omega, by omega, Or.inr ⟨rfl, n99, n97, n98, hT, hR, by show st94 1 13 = 0; rw [hf100, h13], (pAll_y (show ¬ tkd B g m p7 = 0 by omega) (by unfold lAny; rw [if_pos c5]; exact hf102) (by omega)).symm.trans hpa, by omega⟩, hF, hP, hG, hO, hS, lv_sub hl [1, 0, 2, 3, 4] rfl, rfl⟩
      · refine lv_istore (lv' := [(4, .int 0), (3, .int (nI k12)), (0, .ref (A 3)), (1, .ref (A 1)), (2, .ref (A (36 + 20 * 1)))]) hx hb dX5_readAll_55 hl (by decide) rfl (fun ls hl => ?_)
        refine lv_goto (tgt := 151) hx hb dX5_readAll_57 (by decide) ?_
        refine lv_iinc (v := (nI (k12 + 1))) (lv' := [(3, .int (nI (k12 + 1))), (4, .int 0), (0, .ref (A 3)), (1, .ref (A 1)), (2, .ref (A (36 + 20 * 1)))]) hx hb dX5_readAll_151 hl (k := 1) rfl (nI_add k12 1) (by decide) rfl (fun ls hl => ?_)
        refine lv_goto (tgt := 19) hx hb dX5_readAll_154 (by decide) ?_
        exact ih22 (34 - (k12 + 1)) _ _ _ _ (by omega) ⟨0, (k12 + 1), st94, sl95, so96, rfl, by omega, by omega, by omega, by omega, Or.inl ⟨rfl, n103, n104, by show st94 1 13 = _; rw [hf105], hf107, by show st94 1 14 = _; rw [hf106], hpa.symm.trans (pAll_f (show ¬ tkd B g m p7 = 0 by omega) (by unfold lAny; rw [if_pos c5]; exact hf108) hf107.1 (by omega))⟩, hF, hP, hG, hO, hS, lv_sub hl [1, 0, 2, 3, 4] rfl, rfl⟩
set_option maxHeartbeats 4000000 in
set_option maxRecDepth 100000 in
theorem y_X8_open (l : Launch) (dC : Nat → ClassId) (dI : Nat → Nat → Nat) (ad : Nat → Nat) (E : EP) (hEE : EC ad E) (A : Nat → Nat) (C : Nat → ClassId) (nb sz : Nat) (hN : XN A) (st : Nat → Nat → Int32) (sl : Nat → Nat → Int64) (so : Nat → XR) (B : Nat → Nat) (g : Nat) (hI : XI st) (hOI : OI ad so) (ht : st 1 1 = nI g) (hg : g < 941) (hbt : ∀ j, j < g → st 2 j = sbt (B j) ∧ B j < 256) : Met l yX8_open wsX8_open ({ frames := 6, cells := 0, slots := 0, locals := 130 }) (va_Pc [.ref (A 1), .int 900] (xPre E dC dI A C nb sz st sl so)) (va_Qv (fun (x : XT) => XG [1, 2, 3, 4, 5, 6, 7, 8, 9, 12, 13, 14, 15] st x.1 ∧ OG ad [2, 3, 4] so x.2.2 ∧ (CBt B g 900 x.1 ∧ TC B g 900 0 ad x.1 x.2.1 x.2.2 ∧ x.1 1 13 = 0 ∧ LGq sl x.2.1)) (xB dC dI A C nb) (XA A sz)) 0 0 (XA A sz) := by
  refine Met.ofW (cc := cX8_open) (maxL := 2) (ret := none) (by decide) rfl ?_
  intro p9 e s m9 args below meth c9 s₁ B9 hml hv
  obtain ⟨rfl, hsz, hP, hK, hE⟩ := hv
  have hx := B9.exec
  have hb := B9.bytes
  have hr := B9.returns
  have hts := atoms_spec (ws := wsX8_open) B9.pre
  have hown : s.vm.findClass RX8 = some m9.cls := findClass_of_methodNamed B9.named
  subst hsz
  have hEv := hEE.1 _ _ _ hE
  have hS : va_S (XA A s.heap.size) s.heap s.heap [] := va_S.rf
  have hG : XG [1, 2, 3, 4, 5, 6, 7, 8, 9, 12, 13, 14, 15] st st := XG.rf hI
  have hO : OG ad [2, 3, 4] so so := OG.rf hOI
  have hl := lv_entry ([.ref (A 1), .int 900]) (n := 2) (Nat.le_of_ble_eq_true rfl)
  rw [lg_entry_eq]
  generalize (lg_sl ([.ref (A 1), .int 900]) ++ List.replicate (2 - (lg_sl ([.ref (A 1), .int 900])).length) Slot.unset).toArray = ls at hl ⊢
  have hl : lv_has ls 2 [(0, .ref (A 1)), (1, .int 900)] := hl
  obtain ⟨m, hm⟩ : ∃ m : Nat, m = 900 := ⟨_, rfl⟩
  refine lv_aload_n hx hb dX8_open_0 rfl (lv_at hl 0 rfl) ?_
  refine lv_iload_n hx hb dX8_open_1 rfl (lv_at hl 1 rfl) ?_
  refine va_put (D := (dC, dI)) (ci := 9) (v := .int 900) (ty := .int) (C := RX8) (T := TX8) (N := 15) hx hb hts ii_X8_open_X8 tyX8 tyX8_ok nmX8 hown hK hP (xD hN _ _ _ _ _ _) hS 1 (xw_is (r := 1) (by omega) (xc_fix (r := 1) (by omega))) rfl 2 (by decide) (hts _ mm_X8_open_1) (fun _ hh => hh) rfl (by decide +kernel) rfl rfl (Nat.le_of_ble_eq_true rfl) dX8_open_2 (fun H locs hP _ hS => ?_)
  have hP : va_P (dC, dI) vwCl (xw A C nb (up2 st 1 2 900) sl so) H := by rw [← xset (r := 1) (k := 2) (v := 900) (xc_fix (r := 1) (by omega))]; exact hP
  obtain ⟨st1, est1⟩ : ∃ y, y = up2 st 1 2 900 := ⟨_, rfl⟩
  have hG : XG [1, 2, 3, 4, 5, 6, 7, 8, 9, 12, 13, 14, 15] st st1 := by rw [est1]; exact hG.up (xn (n := 900) (b := 941) (by decide : xrg 1 2 = 941) (by omega)) (xpn (c := 0) (by decide : xcl 1 2 = 0) (by decide))
  rw [← est1] at hP
  refine lv_aload_n hx hb dX8_open_5 rfl (lv_at hl 0 rfl) ?_
  refine lv_iconst (v := 0) hx hb dX8_open_6 (by decide) ?_
  refine va_put (D := (dC, dI)) (ci := 9) (v := .int 0) (ty := .int) (C := RX8) (T := TX8) (N := 15) hx hb hts ii_X8_open_X8 tyX8 tyX8_ok nmX8 hown hK hP (xD hN _ _ _ _ _ _) hS 1 (xw_is (r := 1) (by omega) (xc_fix (r := 1) (by omega))) rfl 3 (by decide) (hts _ mm_X8_open_2) (fun _ hh => hh) rfl (by decide +kernel) rfl rfl (Nat.le_of_ble_eq_true rfl) dX8_open_7 (fun H locs hP _ hS => ?_)
  have hP : va_P (dC, dI) vwCl (xw A C nb (up2 st1 1 3 0) sl so) H := by rw [← xset (r := 1) (k := 3) (v := 0) (xc_fix (r := 1) (by omega))]; exact hP
  obtain ⟨st2, est2⟩ : ∃ y, y = up2 st1 1 3 0 := ⟨_, rfl⟩
  have hG : XG [1, 2, 3, 4, 5, 6, 7, 8, 9, 12, 13, 14, 15] st st2 := by rw [est2]; exact hG.up (xn (n := 0) (b := 941) (by decide : xrg 1 3 = 941) (by omega)) (xpn (c := 0) (by decide : xcl 1 3 = 0) (by decide))
  rw [← est2] at hP
  refine lv_aload_n hx hb dX8_open_10 rfl (lv_at hl 0 rfl) ?_
  refine lv_iconst (v := 0) hx hb dX8_open_11 (by decide) ?_
  refine va_put (D := (dC, dI)) (ci := 9) (v := .int 0) (ty := .int) (C := RX8) (T := TX8) (N := 15) hx hb hts ii_X8_open_X8 tyX8 tyX8_ok nmX8 hown hK hP (xD hN _ _ _ _ _ _) hS 1 (xw_is (r := 1) (by omega) (xc_fix (r := 1) (by omega))) rfl 13 (by decide) (hts _ mm_X8_open_3) (fun _ hh => hh) rfl (by decide +kernel) rfl rfl (Nat.le_of_ble_eq_true rfl) dX8_open_12 (fun H locs hP _ hS => ?_)
  have hP : va_P (dC, dI) vwCl (xw A C nb (up2 st2 1 13 0) sl so) H := by rw [← xset (r := 1) (k := 13) (v := 0) (xc_fix (r := 1) (by omega))]; exact hP
  obtain ⟨st3, est3⟩ : ∃ y, y = up2 st2 1 13 0 := ⟨_, rfl⟩
  have hG : XG [1, 2, 3, 4, 5, 6, 7, 8, 9, 12, 13, 14, 15] st st3 := by rw [est3]; exact hG.up (xz (r := 1) (k := 13) (by decide : xrg 1 13 = 0)) (xpn (c := 10) (by decide : xcl 1 13 = 10) (by decide))
  rw [← est3] at hP
  refine lv_aload_n hx hb dX8_open_15 rfl (lv_at hl 0 rfl) ?_
  refine lv_iconst (v := 0) hx hb dX8_open_16 (by decide) ?_
  refine va_put (D := (dC, dI)) (ci := 9) (v := .int 0) (ty := .int) (C := RX8) (T := TX8) (N := 15) hx hb hts ii_X8_open_X8 tyX8 tyX8_ok nmX8 hown hK hP (xD hN _ _ _ _ _ _) hS 1 (xw_is (r := 1) (by omega) (xc_fix (r := 1) (by omega))) rfl 14 (by decide) (hts _ mm_X8_open_4) (fun _ hh => hh) rfl (by decide +kernel) rfl rfl (Nat.le_of_ble_eq_true rfl) dX8_open_17 (fun H locs hP _ hS => ?_)
  have hP : va_P (dC, dI) vwCl (xw A C nb (up2 st3 1 14 0) sl so) H := by rw [← xset (r := 1) (k := 14) (v := 0) (xc_fix (r := 1) (by omega))]; exact hP
  obtain ⟨st4, est4⟩ : ∃ y, y = up2 st3 1 14 0 := ⟨_, rfl⟩
  have hG : XG [1, 2, 3, 4, 5, 6, 7, 8, 9, 12, 13, 14, 15] st st4 := by rw [est4]; exact hG.up (xz (r := 1) (k := 14) (by decide : xrg 1 14 = 0)) (xpn (c := 0) (by decide : xcl 1 14 = 0) (by decide))
  rw [← est4] at hP
  have hB : CBt B g m st4 := ⟨by show st4 1 1 = _; rw [est4, up2_ne (r := 1) (k := 14) (a := 1) (j := 1) _ _ (by omega), est3, up2_ne (r := 1) (k := 13) (a := 1) (j := 1) _ _ (by omega), est2, up2_ne (r := 1) (k := 3) (a := 1) (j := 1) _ _ (by omega), est1, up2_ne (r := 1) (k := 2) (a := 1) (j := 1) _ _ (by omega), ht], by show st4 1 2 = _; rw [est4, up2_ne (r := 1) (k := 14) (a := 1) (j := 2) _ _ (by omega), est3, up2_ne (r := 1) (k := 13) (a := 1) (j := 2) _ _ (by omega), est2, up2_ne (r := 1) (k := 3) (a := 1) (j := 2) _ _ (by omega), est1, up2_same, hm]; rfl, hg, by omega, fun j hj => ⟨by show st4 2 j = _; rw [est4, up2_ne (r := 1) (k := 14) (a := 2) (j := j) _ _ (by omega), est3, up2_ne (r := 1) (k := 13) (a := 2) (j := j) _ _ (by omega), est2, up2_ne (r := 1) (k := 3) (a := 2) (j := j) _ _ (by omega), est1, up2_ne (r := 1) (k := 2) (a := 2) (j := j) _ _ (by omega)]; exact (hbt j hj).1, (hbt j hj).2⟩⟩
  refine lv_aload_n hx hb dX8_open_20 rfl (lv_at hl 0 rfl) ?_
  refine va_callv (va_runV (As := []) (rest := []) ⟨hx, hb, hml, hown, hts⟩ (y_X8_step l dC dI ad E hEE A C nb _ hN st4 sl so B g m 0 hG.1 hO.1 hB (by show st4 1 3 = _; rw [est4, up2_ne (r := 1) (k := 14) (a := 1) (j := 3) _ _ (by omega), est3, up2_ne (r := 1) (k := 13) (a := 1) (j := 3) _ _ (by omega), est2, up2_same]; rfl) (Nat.zero_le _)) (cwV 0 hts gX8_open_X8_step rfl rfl rfl (by decide +kernel) ⟨Nat.le_of_ble_eq_true rfl, Nat.le_of_ble_eq_true rfl⟩) ⟨fun a U g mk q => ⟨q.1, xPre.blind hEE q.2⟩, va_recv hK hP (ci := 9) (q0 := 1) rfl (xw_is (r := 1) (by omega) (xc_fix (r := 1) (by omega))), fun U hU hW => ⟨rfl, xPre.of hEE hP hK hE hS hU hW⟩⟩ rfl rfl hl.1 rfl (lv_room (Nat.le_of_ble_eq_true rfl)) dX8_open_21 ⟨Nat.le_of_ble_eq_true rfl, Nat.le_of_ble_eq_true rfl⟩) hS (fun q _ h => XA.le hS.1 q h) (XA.le hS.1) (fun x t H locs ht hvm hw hB9 _ _ hS => ?_)
  have hP := xB.at ht hB9
  clear hB9 ht hvm
  obtain ⟨st6, sl7, so8⟩ := x
  obtain ⟨hGst6, hOst6, hFst6, hw⟩ := hw
  dsimp only at hGst6 hOst6 hFst6 hw
  have hO : OG ad [2, 3, 4] so so8 := hO.tr hOst6 (by decide)
  have hP : va_P (dC, dI) vwCl (xw A C nb st6 sl7 so8) _ := hP
  have hG : XG [1, 2, 3, 4, 5, 6, 7, 8, 9, 12, 13, 14, 15] st st6 := hG.tr hGst6 (by decide)
  have hT := hw
  have hp9 := hT.2.2.2.2.2.2
  have hk1 := tkd_lt (B := B) (g := g) (m := m) (p := 0)
  have hk2 := tkx_le (B := B) (g := g) (m := m) (p := 0) hp9
  have hk3 := tka_le (B := B) (g := g) (m := m) (p := 0) hp9 hB.2.2.1
  have hk4 := tkv_ltc (p := 0) hB hp9
  have hk5 := tkw_lt (B := B) (g := g) (m := m) (p := 0)
  have hB7 := CBt.fr hB hFst6
  have h13 : st6 1 13 = 0 := by rw [(hFst6 1 13 (by decide)).1, est4, up2_ne (r := 1) (k := 14) (a := 1) (j := 13) _ _ (by omega), est3, up2_same]
  subst hm
  exact W.vret hx hb hr (fun t ht hW => ⟨⟨(st6, sl7, so8), rfl, ⟨hG, hO, ⟨hB7, hT, h13, FX.lg hFst6 (by omega)⟩⟩, xB.of ht hP⟩, hS.F ht⟩) hS.2.2 dX8_open_24
set_option maxHeartbeats 4000000 in
set_option maxRecDepth 100000 in
theorem x_closeTapeF (l : Launch) (dC : Nat → ClassId) (dI : Nat → Nat → Nat) (ad : Nat → Nat) (E : EP) (hEE : EC ad E) (A : Nat → Nat) (C : Nat → ClassId) (nb sz : Nat) (hN : XN A) (st : Nat → Nat → Int32) (sl : Nat → Nat → Int64) (so : Nat → XR) (hI : XI st) : Met l yX11_closeTape wsX11_closeTape ({ frames := 0, cells := 0, slots := 0, locals := 0 }) (va_Pc [.ref (A 0)] (xPre E dC dI A C nb sz st sl so)) (va_Qv (fun (x : XT) => XG [2, 3, 4, 5, 6, 7, 8, 9, 10, 11, 13, 14, 15] st x.1 ∧ LGq sl x.2.1 ∧ x.2.2 = so ∧ (x.1 1 1 = 0 ∧ x.1 0 16 = st 1 13 ∧ x.1 1 14 = st 1 14)) (xB dC dI A C nb) (XA A sz)) 0 0 (XA A sz) := by
  refine Met.ofW (cc := cX11_closeTape) (maxL := 1) (ret := none) (by decide) rfl ?_
  intro p e s m args below meth c s₁ B hml hv
  obtain ⟨rfl, hsz, hP, hK, hE⟩ := hv
  have hx := B.exec
  have hb := B.bytes
  have hr := B.returns
  have hts := atoms_spec (ws := wsX11_closeTape) B.pre
  have hown : s.vm.findClass RX11 = some m.cls := findClass_of_methodNamed B.named
  subst hsz
  have hEv := hEE.1 _ _ _ hE
  have hS : va_S (XA A s.heap.size) s.heap s.heap [] := va_S.rf
  have hG : XG [2, 3, 4, 5, 6, 7, 8, 9, 10, 11, 13, 14, 15] st st := XG.rf hI
  have hl := lv_entry ([.ref (A 0)]) (n := 1) (Nat.le_of_ble_eq_true rfl)
  rw [lg_entry_eq]
  generalize (lg_sl ([.ref (A 0)]) ++ List.replicate (1 - (lg_sl ([.ref (A 0)])).length) Slot.unset).toArray = ls at hl ⊢
  have hl : lv_has ls 1 [(0, .ref (A 0))] := hl
  have hL : LGq sl sl := LGq.rf
  refine lv_aload_n hx hb dX11_closeTape_0 rfl (lv_at hl 0 rfl) ?_
  refine lv_aload_n hx hb dX11_closeTape_1 rfl (lv_at hl 0 rfl) ?_
  refine va_get (D := (dC, dI)) (ci := 10) (v := .ref (A 1)) (C := RX11) (T := TX11) (N := 19) hx hb hts ii_X11_closeTape_X11 hown hK hP 0 (xw_is (r := 0) (by omega) (xc_fix (r := 0) (by omega))) rfl 0 (by decide) (hts _ mm_X11_closeTape_1) (fun _ hh => hh) rfl dX11_closeTape_2 ?_
  refine va_getN (host := "OffTheLead") (D := (dC, dI)) (ci := 9) (v := .int (st 1 13)) (C := RX8) (T := TX8) (N := 15) hx hb hts ii_X11_closeTape_X8 hown hK hP 1 (xw_is (r := 1) (by omega) (xc_fix (r := 1) (by omega))) rfl 13 (by decide) (va_Nw.use rfl (nf_X11_380 hEv)) (fun _ hh => hh) rfl dX11_closeTape_5 ?_
  obtain ⟨z1, ez1⟩ : ∃ y : Int32, st 1 13 = y := ⟨_, rfl⟩
  refine zz_top (v := z1) (by exact ez1) ?_
  refine va_put (D := (dC, dI)) (ci := 10) (v := .int z1) (ty := .int) (C := RX11) (T := TX11) (N := 19) hx hb hts ii_X11_closeTape_X11 tyX11 tyX11_ok nmX11 hown hK hP (xD hN _ _ _ _ _ _) hS 0 (xw_is (r := 0) (by omega) (xc_fix (r := 0) (by omega))) rfl 16 (by decide) (hts _ mm_X11_closeTape_2) (fun _ hh => hh) rfl (by decide +kernel) rfl rfl (Nat.le_of_ble_eq_true rfl) dX11_closeTape_8 (fun H locs hP _ hS => ?_)
  have hP : va_P (dC, dI) vwCl (xw A C nb (up2 st 0 16 z1) sl so) H := by rw [← xset (r := 0) (k := 16) (v := z1) (xc_fix (r := 0) (by omega))]; exact hP
  obtain ⟨st2, est2⟩ : ∃ y, y = up2 st 0 16 z1 := ⟨_, rfl⟩
  have hG : XG [2, 3, 4, 5, 6, 7, 8, 9, 10, 11, 13, 14, 15] st st2 := by rw [est2]; exact hG.up (xz (r := 0) (k := 16) (by decide : xrg 0 16 = 0)) (xpn (c := 12) (by decide : xcl 0 16 = 12) (by decide))
  rw [← est2] at hP
  refine lv_aload_n hx hb dX11_closeTape_11 rfl (lv_at hl 0 rfl) ?_
  refine va_get (D := (dC, dI)) (ci := 10) (v := .ref (A 1)) (C := RX11) (T := TX11) (N := 19) hx hb hts ii_X11_closeTape_X11 hown hK hP 0 (xw_is (r := 0) (by omega) (xc_fix (r := 0) (by omega))) rfl 0 (by decide) (hts _ mm_X11_closeTape_1) (fun _ hh => hh) rfl dX11_closeTape_12 ?_
  refine lv_iconst (v := 0) hx hb dX11_closeTape_15 (by decide) ?_
  refine va_putN (host := "OffTheLead") (D := (dC, dI)) (ci := 9) (v := .int 0) (ty := .int) (C := RX8) (T := TX8) (N := 15) hx hb hts ii_X11_closeTape_X8 tyX8 tyX8_ok nmX8 hown hK hP (xD hN _ _ _ _ _ _) hS 1 (xw_is (r := 1) (by omega) (xc_fix (r := 1) (by omega))) rfl 1 (by decide) (va_Nw.use rfl (nf_X11_100 hEv)) (fun _ hh => hh) rfl (by decide +kernel) rfl rfl (Nat.le_of_ble_eq_true rfl) dX11_closeTape_16 (fun H locs hP _ hS => ?_)
  have hP : va_P (dC, dI) vwCl (xw A C nb (up2 st2 1 1 0) sl so) H := by rw [← xset (r := 1) (k := 1) (v := 0) (xc_fix (r := 1) (by omega))]; exact hP
  obtain ⟨st3, est3⟩ : ∃ y, y = up2 st2 1 1 0 := ⟨_, rfl⟩
  have hG : XG [2, 3, 4, 5, 6, 7, 8, 9, 10, 11, 13, 14, 15] st st3 := by rw [est3]; exact hG.up (xn (n := 0) (b := 941) (by decide : xrg 1 1 = 941) (by omega)) (xpn (c := 1) (by decide : xcl 1 1 = 1) (by decide))
  rw [← est3] at hP
  exact W.vret hx hb hr (fun t ht hW => ⟨⟨(st3, sl, so), rfl, ⟨hG, hL, rfl, ⟨by show st3 1 1 = 0; rw [est3, up2_same], by show st3 0 16 = st 1 13; rw [est3, up2_ne (r := 1) (k := 1) (a := 0) (j := 16) _ _ (by omega), est2, up2_same]; exact ez1.symm, by show st3 1 14 = st 1 14; rw [est3, up2_ne (r := 1) (k := 1) (a := 1) (j := 14) _ _ (by omega), est2, up2_ne (r := 0) (k := 16) (a := 1) (j := 14) _ _ (by omega)]⟩⟩, xB.of ht hP⟩, hS.F ht⟩) hS.2.2 dX11_closeTape_19
set_option maxHeartbeats 4000000 in
set_option maxRecDepth 100000 in
theorem x_X11_parkF (l : Launch) (dC : Nat → ClassId) (dI : Nat → Nat → Nat) (ad : Nat → Nat) (E : EP) (hEE : EC ad E) (A : Nat → Nat) (C : Nat → ClassId) (nb sz : Nat) (hN : XN A) (st : Nat → Nat → Int32) (sl : Nat → Nat → Int64) (so : Nat → XR) (B : Nat → Nat) (g : Nat) (hI : XI st) (hOI : OI ad so) (hSA : SKall ad st so) (ht : st 1 1 = nI g) (hg : g < 941) (hbt : ∀ j, j < g → st 2 j = sbt (B j) ∧ B j < 256) : Met l yX11_park wsX11_park ({ frames := 10, cells := 0, slots := 0, locals := 220 }) (va_Pc [.ref (A 0)] (xPre E dC dI A C nb sz st sl so)) (va_Qi (fun (r : Int32) (x : XT) => XG [2, 13, 14] st x.1 ∧ OG ad [4] so x.2.2 ∧ (x.1 1 1 = 0 ∧ SKall ad x.1 x.2.2 ∧ r = pAns (pAll B g 900 900 0 (fun _ => 0) (fun _ _ => 0) 0) ∧ PKN (pAll B g 900 900 0 (fun _ => 0) (fun _ _ => 0) 0).1 st sl x.1 x.2.1 ∧ x.1 0 16 = nI (pAll B g 900 900 0 (fun _ => 0) (fun _ _ => 0) 0).1.1)) (xB dC dI A C nb) (XA A sz)) 0 0 (XA A sz) := by
  refine Met.ofW (cc := cX11_park) (maxL := 2) (ret := (some .int)) (by decide) rfl ?_
  intro p e s m args below meth c s₁ B9 hml hv
  obtain ⟨rfl, hsz, hP, hK, hE⟩ := hv
  have hx := B9.exec
  have hb := B9.bytes
  have hr := B9.returns
  have hts := atoms_spec (ws := wsX11_park) B9.pre
  have hown : s.vm.findClass RX11 = some m.cls := findClass_of_methodNamed B9.named
  subst hsz
  have hEv := hEE.1 _ _ _ hE
  have hS : va_S (XA A s.heap.size) s.heap s.heap [] := va_S.rf
  have hG : XG [2, 13, 14] st st := XG.rf hI
  have hO : OG ad [4] so so := OG.rf hOI
  have hl := lv_entry ([.ref (A 0)]) (n := 2) (Nat.le_of_ble_eq_true rfl)
  rw [lg_entry_eq]
  generalize (lg_sl ([.ref (A 0)]) ++ List.replicate (2 - (lg_sl ([.ref (A 0)])).length) Slot.unset).toArray = ls at hl ⊢
  have hl : lv_has ls 2 [(0, .ref (A 0))] := hl
  have hni : NI st sl st sl := NI.rf
  have hsa : SKall ad st so := hSA
  refine lv_aload_n hx hb dX11_park_0 rfl (lv_at hl 0 rfl) ?_
  refine va_get (D := (dC, dI)) (ci := 10) (v := .ref (A 1)) (C := RX11) (T := TX11) (N := 19) hx hb hts ii_X11_park_X11 hown hK hP 0 (xw_is (r := 0) (by omega) (xc_fix (r := 0) (by omega))) rfl 0 (by decide) (hts _ mm_X11_park_1) (fun _ hh => hh) rfl dX11_park_1 ?_
  refine lv_sipush (v := 900) hx hb dX11_park_4 (by decide) ?_
  refine va_callv (va_runV (As := [.int 900]) (rest := []) ⟨hx, hb, hml, hown, hts⟩ (y_X8_open l dC dI ad E hEE A C nb _ hN st sl so B g  hG.1 hO.1 (ht) (hg) (hbt)) (cwV 1 hts gX11_park_X8_open rfl rfl rfl (by decide +kernel) ⟨Nat.le_of_ble_eq_true rfl, Nat.le_of_ble_eq_true rfl⟩) ⟨fun a U g mk q => ⟨q.1, xPre.blind hEE q.2⟩, va_recv hK hP (ci := 9) (q0 := 1) rfl (xw_is (r := 1) (by omega) (xc_fix (r := 1) (by omega))), fun U hU hW => ⟨rfl, xPre.of hEE hP hK hE hS hU hW⟩⟩ rfl rfl hl.1 rfl (lv_room (Nat.le_of_ble_eq_true rfl)) dX11_park_7 ⟨Nat.le_of_ble_eq_true rfl, Nat.le_of_ble_eq_true rfl⟩) hS (fun q _ h => XA.le hS.1 q h) (XA.le hS.1) (fun x t H locs ht hvm hw hB _ _ hS => ?_)
  have hP := xB.at ht hB
  clear hB ht hvm
  obtain ⟨st2, sl3, so4⟩ := x
  obtain ⟨hGst2, hOst2, hw⟩ := hw
  dsimp only at hGst2 hOst2 hw
  have hO : OG ad [4] so so4 := hO.tr hOst2 (by decide)
  have hP : va_P (dC, dI) vwCl (xw A C nb st2 sl3 so4) _ := hP
  have hG : XG [2, 13, 14] st st2 := hG.tr hGst2 (by decide)
  obtain ⟨hf5, hf6, hf7, hf8⟩ := hw
  have hsa : SKall ad st2 so4 := SKall.mg hsa hGst2 hOst2 (by decide) (by decide) (by decide)
  have hni : NI st sl st2 sl3 := hni.mg hGst2 (by decide) (by decide) hf8
  refine lv_aload_n hx hb dX11_park_10 rfl (lv_at hl 0 rfl) ?_
  refine va_get (D := (dC, dI)) (ci := 10) (v := .ref (A 3)) (C := RX11) (T := TX11) (N := 19) hx hb hts ii_X11_park_X11 hown hK hP 0 (xw_is (r := 0) (by omega) (xc_fix (r := 0) (by omega))) rfl 3 (by decide) (hts _ mm_X11_park_2) (fun _ hh => hh) rfl dX11_park_11 ?_
  refine lv_aload_n hx hb dX11_park_14 rfl (lv_at hl 0 rfl) ?_
  refine va_get (D := (dC, dI)) (ci := 10) (v := .ref (A 1)) (C := RX11) (T := TX11) (N := 19) hx hb hts ii_X11_park_X11 hown hK hP 0 (xw_is (r := 0) (by omega) (xc_fix (r := 0) (by omega))) rfl 0 (by decide) (hts _ mm_X11_park_1) (fun _ hh => hh) rfl dX11_park_15 ?_
  refine lv_aload_n hx hb dX11_park_18 rfl (lv_at hl 0 rfl) ?_
  refine va_get (D := (dC, dI)) (ci := 10) (v := .ref (A (36 + 20 * 1))) (C := RX11) (T := TX11) (N := 19) hx hb hts ii_X11_park_X11 hown hK hP 0 (xw_is (r := 0) (by omega) (xc_fix (r := 0) (by omega))) rfl 2 (by decide) (hts _ mm_X11_park_3) (fun _ hh => hh) rfl dX11_park_19 ?_
  refine va_calli (va_runV (As := [.ref (A 1), .ref (A (36 + 20 * 1))]) (rest := []) ⟨hx, hb, hml, hown, hts⟩ (y_X5_readAll l dC dI ad E hEE A C nb _ hN st2 sl3 so4 B g 900 0  hG.1 hO.1 (hf5) (hf6) (hf7)) (cwV 2 hts gX11_park_X5_readAll rfl rfl rfl (by decide +kernel) ⟨Nat.le_of_ble_eq_true rfl, Nat.le_of_ble_eq_true rfl⟩) ⟨fun a U g mk q => ⟨q.1, xPre.blind hEE q.2⟩, va_recv hK hP (ci := 6) (q0 := 3) rfl (xw_is (r := 3) (by omega) (xc_fix (r := 3) (by omega))), fun U hU hW => ⟨rfl, xPre.of hEE hP hK hE hS hU hW⟩⟩ rfl rfl hl.1 rfl (lv_room (Nat.le_of_ble_eq_true rfl)) dX11_park_22 ⟨Nat.le_of_ble_eq_true rfl, Nat.le_of_ble_eq_true rfl⟩) hS (fun q _ h => XA.le hS.1 q h) (XA.le hS.1) (fun r9 x t H locs ht hvm hw hB _ _ hS => ?_)
  have hP := xB.at ht hB
  clear hB ht hvm
  obtain ⟨st10, sl11, so12⟩ := x
  obtain ⟨hGst10, hOst10, hw⟩ := hw
  dsimp only at hGst10 hOst10 hw
  have hO : OG ad [4] so so12 := hO.tr hOst10 (by decide)
  have hP : va_P (dC, dI) vwCl (xw A C nb st10 sl11 so12) _ := hP
  have hG : XG [2, 13, 14] st st10 := hG.tr hGst10 (by decide)
  rcases hw with ⟨n13, n14, n15, n16, rfl, hf17, hf18, hf19, hf20, hf21⟩ | ⟨n22, n23, hf24, hf25, hf26, hf27, hf28⟩
  · have hsa : SKall ad st10 so12 := SKall.mg hsa hGst10 hOst10 (by decide) (by decide) (by decide)
    have hni : NI st sl st10 sl11 := hni.tr (FX.ni hG.1 hf21)
    refine lv_istore_n (lv' := [(1, .int (nI n13)), (0, .ref (A 0))]) hx hb dX11_park_25 rfl hl (by decide) rfl (fun ls hl => ?_)
    refine lv_aload_n hx hb dX11_park_26 rfl (lv_at hl 1 rfl) ?_
    refine va_callv (va_runV (As := []) (rest := []) ⟨hx, hb, hml, hown, hts⟩ (x_closeTapeF l dC dI ad E hEE A C nb _ hN st10 sl11 so12  hG.1) (cwV 0 hts gX11_park_X11_closeTape rfl rfl rfl (by decide +kernel) ⟨Nat.le_of_ble_eq_true rfl, Nat.le_of_ble_eq_true rfl⟩) ⟨fun a U g mk q => ⟨q.1, xPre.blind hEE q.2⟩, va_recv hK hP (ci := 10) (q0 := 0) rfl (xw_is (r := 0) (by omega) (xc_fix (r := 0) (by omega))), fun U hU hW => ⟨rfl, xPre.of hEE hP hK hE hS hU hW⟩⟩ rfl rfl hl.1 rfl (lv_room (Nat.le_of_ble_eq_true rfl)) dX11_park_27 ⟨Nat.le_of_ble_eq_true rfl, Nat.le_of_ble_eq_true rfl⟩) hS (fun q _ h => XA.le hS.1 q h) (XA.le hS.1) (fun x t H locs ht hvm hw hB _ _ hS => ?_)
    have hP := xB.at ht hB
    clear hB ht hvm
    obtain ⟨st30, sl31, so32⟩ := x
    obtain ⟨hGst30, hLGst30, hOst30, hw⟩ := hw
    dsimp only at hGst30 hLGst30 hOst30 hw
    replace hOst30 := hOst30.symm
    subst hOst30
    have hP : va_P (dC, dI) vwCl (xw A C nb st30 sl31 so12) _ := hP
    have hG : XG [2, 13, 14] st st30 := hG.tr hGst30 (by decide)
    obtain ⟨hf33, hf34, hf35⟩ := hw
    have hsa : SKall ad st30 so12 := SKall.mgs hsa hGst30 (by decide) (by decide)
    have hni : NI st sl st30 sl31 := hni.mg hGst30 (by decide) (by decide) hLGst30
    have h16 : st30 0 16 = 0 := hf34.trans (by rw [hf17])
    refine lv_aload_n hx hb dX11_park_30 rfl (lv_at hl 1 rfl) ?_
    refine va_get (D := (dC, dI)) (ci := 10) (v := .int (st30 0 16)) (C := RX11) (T := TX11) (N := 19) hx hb hts ii_X11_park_X11 hown hK hP 0 (xw_is (r := 0) (by omega) (xc_fix (r := 0) (by omega))) rfl 16 (by decide) (hts _ mm_X11_park_4) (fun _ hh => hh) rfl dX11_park_31 ?_
    refine zz_top (v := 0) (by show st30 0 16 = _; rw [h16]) ?_
    refine lv_if_eq (tgt := 47) hx hb dX11_park_34 (by decide) (fun _ => ?_) (fun cc => absurd (by decide) cc)
    refine lv_aload_n hx hb dX11_park_47 rfl (lv_at hl 1 rfl) ?_
    refine va_get (D := (dC, dI)) (ci := 10) (v := .ref (A (36 + 20 * 0))) (C := RX11) (T := TX11) (N := 19) hx hb hts ii_X11_park_X11 hown hK hP 0 (xw_is (r := 0) (by omega) (xc_fix (r := 0) (by omega))) rfl 1 (by decide) (hts _ mm_X11_park_5) (fun _ hh => hh) rfl dX11_park_48 ?_
    refine lv_aload_n hx hb dX11_park_51 rfl (lv_at hl 1 rfl) ?_
    refine va_get (D := (dC, dI)) (ci := 10) (v := .ref (A (36 + 20 * 1))) (C := RX11) (T := TX11) (N := 19) hx hb hts ii_X11_park_X11 hown hK hP 0 (xw_is (r := 0) (by omega) (xc_fix (r := 0) (by omega))) rfl 2 (by decide) (hts _ mm_X11_park_3) (fun _ hh => hh) rfl dX11_park_52 ?_
    refine va_callv (va_runV (As := [.ref (A (36 + 20 * 1))]) (rest := []) ⟨hx, hb, hml, hown, hts⟩ (x_X4_copyFrom l dC dI ad E hEE A C nb _ hN st30 sl31 so12 0 1 (by omega) (by omega) hG.1 (by omega)) (cwV 1 hts gX11_park_X4_copyFrom rfl rfl rfl (by decide +kernel) ⟨Nat.le_of_ble_eq_true rfl, Nat.le_of_ble_eq_true rfl⟩) ⟨fun a U g mk q => ⟨q.1, xPre.blind hEE q.2⟩, va_recv hK hP (ci := 5) (q0 := (36 + 20 * 0)) rfl (xw_is (r := (36 + 20 * 0)) (by omega) (xc_pk (i := 0) (o := 0) (by omega) (by omega))), fun U hU hW => ⟨rfl, xPre.of hEE hP hK hE hS hU hW⟩⟩ rfl rfl hl.1 rfl (lv_room (Nat.le_of_ble_eq_true rfl)) dX11_park_55 ⟨Nat.le_of_ble_eq_true rfl, Nat.le_of_ble_eq_true rfl⟩) hS (fun q _ h => XA.le hS.1 q h) (XA.le hS.1) (fun x t H locs ht hvm hw hB _ _ hS => ?_)
    have hP := xB.at ht hB
    clear hB ht hvm
    obtain ⟨st37, sl38, so39⟩ := x
    obtain ⟨hGst37, hOst37, hw⟩ := hw
    dsimp only at hGst37 hOst37 hw
    replace hOst37 := hOst37.symm
    subst hOst37
    have hP : va_P (dC, dI) vwCl (xw A C nb st37 sl38 so12) _ := hP
    have hG : XG [2, 13, 14] st st37 := hG.tr hGst37 (by decide)
    have hf40 := hw
    have hsa : SKall ad st37 so12 := SKall.mgs hsa hGst37 (by decide) (by decide)
    have hcq9 : CQ 0 1 st30 sl31 st37 sl38 := hf40
    refine lv_aload_n hx hb dX11_park_58 rfl (lv_at hl 1 rfl) ?_
    refine va_get (D := (dC, dI)) (ci := 10) (v := .ref (A (20 + 4 * 0))) (C := RX11) (T := TX11) (N := 19) hx hb hts ii_X11_park_X11 hown hK hP 0 (xw_is (r := 0) (by omega) (xc_fix (r := 0) (by omega))) rfl 5 (by decide) (hts _ mm_X11_park_6) (fun _ hh => hh) rfl dX11_park_59 ?_
    refine va_callv (va_runV (As := []) (rest := []) ⟨hx, hb, hml, hown, hts⟩ (x_clear0b l dC dI ad E hEE A C nb _ hN st37 sl38 so12  hG.1) (cwV 0 hts gX11_park_X7_clear rfl rfl rfl (by decide +kernel) ⟨Nat.le_of_ble_eq_true rfl, Nat.le_of_ble_eq_true rfl⟩) ⟨fun a U g mk q => ⟨q.1, xPre.blind hEE q.2⟩, va_recv hK hP (ci := 8) (q0 := (20 + 4 * 0)) rfl (xw_is (r := (20 + 4 * 0)) (by omega) (xc_sn (q := 0) (o := 0) (by omega) (by omega))), fun U hU hW => ⟨rfl, xPre.of hEE hP hK hE hS hU hW⟩⟩ rfl rfl hl.1 rfl (lv_room (Nat.le_of_ble_eq_true rfl)) dX11_park_62 ⟨Nat.le_of_ble_eq_true rfl, Nat.le_of_ble_eq_true rfl⟩) hS (fun q _ h => XA.le hS.1 q h) (XA.le hS.1) (fun x t H locs ht hvm hw hB _ _ hS => ?_)
    have hP := xB.at ht hB
    clear hB ht hvm
    obtain ⟨st42, sl43, so44⟩ := x
    obtain ⟨hGst42, hLGst42, hOst42, hw⟩ := hw
    dsimp only at hGst42 hLGst42 hOst42 hw
    replace hOst42 := hOst42.symm
    subst hOst42
    have hP : va_P (dC, dI) vwCl (xw A C nb st42 sl43 so12) _ := hP
    have hG : XG [2, 13, 14] st st42 := hG.tr hGst42 (by decide)
    obtain ⟨hf45, hf46⟩ := hw
    have hsa : SKall ad st42 so12 := fun q9 h8 h9 => if e9 : q9 = 0 then by subst e9; exact SKs.zero hf45 else hf46 q9 h8 e9 (hsa q9 h8 h9)
    have hcq9 := CQ.mg hcq9 hGst42 (by decide) hLGst42
    refine lv_aload_n hx hb dX11_park_65 rfl (lv_at hl 1 rfl) ?_
    refine va_get (D := (dC, dI)) (ci := 10) (v := .ref (A 11)) (C := RX11) (T := TX11) (N := 19) hx hb hts ii_X11_park_X11 hown hK hP 0 (xw_is (r := 0) (by omega) (xc_fix (r := 0) (by omega))) rfl 8 (by decide) (hts _ mm_X11_park_7) (fun _ hh => hh) rfl dX11_park_66 ?_
    refine va_callv (va_runV (As := []) (rest := []) ⟨hx, hb, hml, hown, hts⟩ (x_X3_forget l dC dI ad E hEE A C nb _ hN st42 sl43 so12  hG.1) (cwV 0 hts gX11_park_X3_forget rfl rfl rfl (by decide +kernel) ⟨Nat.le_of_ble_eq_true rfl, Nat.le_of_ble_eq_true rfl⟩) ⟨fun a U g mk q => ⟨q.1, xPre.blind hEE q.2⟩, va_recv hK hP (ci := 4) (q0 := 11) rfl (xw_is (r := 11) (by omega) (xc_fix (r := 11) (by omega))), fun U hU hW => ⟨rfl, xPre.of hEE hP hK hE hS hU hW⟩⟩ rfl rfl hl.1 rfl (lv_room (Nat.le_of_ble_eq_true rfl)) dX11_park_69 ⟨Nat.le_of_ble_eq_true rfl, Nat.le_of_ble_eq_true rfl⟩) hS (fun q _ h => XA.le hS.1 q h) (XA.le hS.1) (fun x t H locs ht hvm hw hB _ _ hS => ?_)
    have hP := xB.at ht hB
    clear hB ht hvm
    obtain ⟨st48, sl49, so50⟩ := x
    obtain ⟨hGst48, hLGst48, hOst48, hw⟩ := hw
    dsimp only at hGst48 hLGst48 hOst48 hw
    replace hOst48 := hOst48.symm
    subst hOst48
    have hP : va_P (dC, dI) vwCl (xw A C nb st48 sl49 so12) _ := hP
    have hG : XG [2, 13, 14] st st48 := hG.tr hGst48 (by decide)
    have hf51 := hw
    have hsa : SKall ad st48 so12 := SKall.mgs hsa hGst48 (by decide) (by decide)
    have hcq9 := CQ.mg hcq9 hGst48 (by decide) hLGst48
    refine lv_iload_n hx hb dX11_park_72 rfl (lv_at hl 0 rfl) ?_
    exact W.iret (v := (nI n13)) hx hb hr (fun t ht hW => ⟨⟨(nI n13), (st48, sl49, so12), rfl, ⟨hG, hO, ⟨by show st48 1 1 = 0; rw [hGst48.2 1 1 (by rw [(by decide : xcl 1 1 = 1)]; decide), hGst42.2 1 1 (by rw [(by decide : xcl 1 1 = 1)]; decide), hGst37.2 1 1 (by rw [(by decide : xcl 1 1 = 1)]; decide), hf33], hsa, by rw [hf18, pAns_0], by rw [hf18]; exact PKN.good hni hcq9 hf51 ((PT.cn hf19).pe (XG.pe hGst30 (by decide) hLGst30 1)) rfl, by rw [hf18]; exact (show st48 0 16 = 0 by rw [hGst48.2 0 16 (by rw [(by decide : xcl 0 16 = 12)]; decide), hGst42.2 0 16 (by rw [(by decide : xcl 0 16 = 12)]; decide), hGst37.2 0 16 (by rw [(by decide : xcl 0 16 = 12)]; decide), h16])⟩⟩, xB.of ht hP⟩, hS.F ht⟩) hS.2.2 dX11_park_73
  · have hsa : SKall ad st10 so12 := SKall.mg hsa hGst10 hOst10 (by decide) (by decide) (by decide)
    have hni : NI st sl st10 sl11 := hni.tr (FX.ni hG.1 hf28)
    refine lv_istore_n (lv' := [(1, .int r9), (0, .ref (A 0))]) hx hb dX11_park_25 rfl hl (by decide) rfl (fun ls hl => ?_)
    refine lv_aload_n hx hb dX11_park_26 rfl (lv_at hl 1 rfl) ?_
    refine va_callv (va_runV (As := []) (rest := []) ⟨hx, hb, hml, hown, hts⟩ (x_closeTapeF l dC dI ad E hEE A C nb _ hN st10 sl11 so12  hG.1) (cwV 0 hts gX11_park_X11_closeTape rfl rfl rfl (by decide +kernel) ⟨Nat.le_of_ble_eq_true rfl, Nat.le_of_ble_eq_true rfl⟩) ⟨fun a U g mk q => ⟨q.1, xPre.blind hEE q.2⟩, va_recv hK hP (ci := 10) (q0 := 0) rfl (xw_is (r := 0) (by omega) (xc_fix (r := 0) (by omega))), fun U hU hW => ⟨rfl, xPre.of hEE hP hK hE hS hU hW⟩⟩ rfl rfl hl.1 rfl (lv_room (Nat.le_of_ble_eq_true rfl)) dX11_park_27 ⟨Nat.le_of_ble_eq_true rfl, Nat.le_of_ble_eq_true rfl⟩) hS (fun q _ h => XA.le hS.1 q h) (XA.le hS.1) (fun x t H locs ht hvm hw hB _ _ hS => ?_)
    have hP := xB.at ht hB
    clear hB ht hvm
    obtain ⟨st53, sl54, so55⟩ := x
    obtain ⟨hGst53, hLGst53, hOst53, hw⟩ := hw
    dsimp only at hGst53 hLGst53 hOst53 hw
    replace hOst53 := hOst53.symm
    subst hOst53
    have hP : va_P (dC, dI) vwCl (xw A C nb st53 sl54 so12) _ := hP
    have hG : XG [2, 13, 14] st st53 := hG.tr hGst53 (by decide)
    obtain ⟨hf56, hf57, hf58⟩ := hw
    have hsa : SKall ad st53 so12 := SKall.mgs hsa hGst53 (by decide) (by decide)
    have hni : NI st sl st53 sl54 := hni.mg hGst53 (by decide) (by decide) hLGst53
    have h16 : st53 0 16 = (nI n22) := hf57.trans (by rw [hf24])
    have h14 : st53 1 14 = (nI n23) := hf58.trans (by rw [hf26])
    refine lv_aload_n hx hb dX11_park_30 rfl (lv_at hl 1 rfl) ?_
    refine va_get (D := (dC, dI)) (ci := 10) (v := .int (st53 0 16)) (C := RX11) (T := TX11) (N := 19) hx hb hts ii_X11_park_X11 hown hK hP 0 (xw_is (r := 0) (by omega) (xc_fix (r := 0) (by omega))) rfl 16 (by decide) (hts _ mm_X11_park_4) (fun _ hh => hh) rfl dX11_park_31 ?_
    refine zz_top (v := (nI n22)) (by show st53 0 16 = _; rw [h16]) ?_
    refine lv_if_eq (tgt := 47) hx hb dX11_park_34 (by decide) (fun cc => absurd ((nI_eq (a := n22) (b := 0) (by omega) (by omega)).mp cc) (by omega)) (fun _ => ?_)
    refine lv_iconst (v := (-1)) hx hb dX11_park_37 (by decide) ?_
    refine lv_aload_n hx hb dX11_park_38 rfl (lv_at hl 1 rfl) ?_
    refine va_get (D := (dC, dI)) (ci := 10) (v := .ref (A 1)) (C := RX11) (T := TX11) (N := 19) hx hb hts ii_X11_park_X11 hown hK hP 0 (xw_is (r := 0) (by omega) (xc_fix (r := 0) (by omega))) rfl 0 (by decide) (hts _ mm_X11_park_1) (fun _ hh => hh) rfl dX11_park_39 ?_
    refine va_getN (host := "OffTheLead") (D := (dC, dI)) (ci := 9) (v := .int (st53 1 14)) (C := RX8) (T := TX8) (N := 15) hx hb hts ii_X11_park_X8 hown hK hP 1 (xw_is (r := 1) (by omega) (xc_fix (r := 1) (by omega))) rfl 14 (by decide) (va_Nw.use rfl (nf_X11_120 hEv)) (fun _ hh => hh) rfl dX11_park_42 ?_
    refine zz_top (v := (nI n23)) (by show st53 1 14 = _; rw [h14]) ?_
    refine lv_isub hx hb dX11_park_45 ?_
    refine lv_topi (fun z59 ez59 => ?_)
    exact W.iret (v := z59) hx hb hr (fun t ht hW => ⟨⟨z59, (st53, sl54, so12), rfl, ⟨hG, hO, ⟨by show st53 1 1 = 0; rw [hf56], hsa, by rw [ez59, hf27, pAns_f hf25.1], by rw [hf27]; exact PKN.bad hni (show ¬ n22 = 0 by omega), by rw [hf27]; exact (show st53 0 16 = (nI n22) by rw [h16])⟩⟩, xB.of ht hP⟩, hS.F ht⟩) hS.2.2 dX11_park_46
