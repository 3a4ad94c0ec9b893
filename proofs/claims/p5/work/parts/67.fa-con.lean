set_option maxHeartbeats 4000000 in
set_option maxRecDepth 100000 in
theorem y_numberOm2 (l : Launch) (dC : Nat → ClassId) (dI : Nat → Nat → Nat) (ad : Nat → Nat) (E : EP) (hEE : EC ad E) (A : Nat → Nat) (C : Nat → ClassId) (nb sz : Nat) (hN : XN A) (st : Nat → Nat → Int32) (sl : Nat → Nat → Int64) (so : Nat → XR) (vw : Int64) (c : Nat → Nat) (nm : Nat → Nat → Nat) (hI : XI st) (hR : CN c nm st sl 0) : Met l yX4_numberOf wsX4_numberOf ({ frames := 0, cells := 0, slots := 0, locals := 0 }) (va_Pc [.ref (A (36 + 20 * 0)), .int 2, .long vw] (xPre E dC dI A C nb sz st sl so)) (va_Qi (fun (r : Int32) (x : XT) => x = (st, sl, so) ∧ ((r = (-1) ∧ (∀ i, i < c 2 → ¬ sl (36 + 20 * 0 + (14 + i)) 0 = vw)) ∨ (∃ n : Nat, r = nI n ∧ n < c 2 ∧ sl (36 + 20 * 0 + (14 + n)) 0 = vw))) (xB dC dI A C nb) (XA A sz)) 0 0 (XA A sz) := by
  refine Met.ofW (cc := cX4_numberOf) (maxL := 8) (ret := (some .int)) (by decide) rfl ?_
  intro p9 e s m9 args below meth c9 s₁ B9 hml hv
  obtain ⟨rfl, hsz, hP, hK, hE⟩ := hv
  have hx := B9.exec
  have hb := B9.bytes
  have hr := B9.returns
  have hts := atoms_spec (ws := wsX4_numberOf) B9.pre
  have hown : s.vm.findClass RX4 = some m9.cls := findClass_of_methodNamed B9.named
  subst hsz
  have hEv := hEE.1 _ _ _ hE
  have hS : va_S (XA A s.heap.size) s.heap s.heap [] := va_S.rf
  have hG : XG [1, 2, 3, 4, 5, 6, 7, 8, 9, 10, 11, 12, 13, 14, 15] st st := XG.rf hI
  have hl := lv_entry ([.ref (A (36 + 20 * 0)), .int 2, .long vw]) (n := 8) (Nat.le_of_ble_eq_true rfl)
  rw [lg_entry_eq]
  generalize (lg_sl ([.ref (A (36 + 20 * 0)), .int 2, .long vw]) ++ List.replicate (8 - (lg_sl ([.ref (A (36 + 20 * 0)), .int 2, .long vw])).length) Slot.unset).toArray = ls at hl ⊢
  have hl : lv_has ls 8 [(0, .ref (A (36 + 20 * 0))), (1, .int 2), (2, .long vw)] := hl
  have hR9 := hR.2.1
  refine lv_iload_n hx hb dX4_numberOf_0 rfl (lv_at hl 1 rfl) ?_
  refine lv_if_ne (tgt := 11) hx hb dX4_numberOf_1 (by decide) (fun _ => ?_) (fun cc => absurd cc (by decide))
  refine lv_iload_n hx hb dX4_numberOf_11 rfl (lv_at hl 1 rfl) ?_
  refine lv_iconst (v := 1) hx hb dX4_numberOf_12 (by decide) ?_
  refine lv_icmp_ne (tgt := 23) hx hb dX4_numberOf_13 (by decide) (fun _ => ?_) (fun cc => absurd cc (by decide))
  refine lv_aload_n hx hb dX4_numberOf_23 rfl (lv_at hl 0 rfl) ?_
  refine va_get (D := (dC, dI)) (ci := 5) (v := .int (st (36 + 20 * 0) 7)) (C := RX4) (T := TX4) (N := 12) hx hb hts ii_X4_numberOf_X4 hown hK hP (36 + 20 * 0) (xw_is (r := (36 + 20 * 0)) (by omega) (xc_pk (i := 0) (o := 0) (by omega) (by omega))) rfl 7 (by decide) (hts _ mm_X4_numberOf_3) (fun _ hh => hh) rfl dX4_numberOf_24 ?_
  refine zz_top (v := (nI (c 2))) (by show st (36 + 20 * 0) 7 = _; rw [hR.c2]) ?_
  refine lv_istore (lv' := [(4, .int (nI (c 2))), (0, .ref (A (36 + 20 * 0))), (1, .int 2), (2, .long vw)]) hx hb dX4_numberOf_27 hl (by decide) rfl (fun ls hl => ?_)
  refine lv_iconst (v := 0) hx hb dX4_numberOf_29 (by decide) ?_
  refine lv_istore (lv' := [(5, .int 0), (4, .int (nI (c 2))), (0, .ref (A (36 + 20 * 0))), (1, .int 2), (2, .long vw)]) hx hb dX4_numberOf_30 hl (by decide) rfl (fun ls hl => ?_)
  refine zz_wf (fun n stk H locs ls => ∃ k1 : Nat, n = 10 - k1 ∧ 0 ≤ k1 ∧ k1 < 10 ∧ k1 ≤ c 2 ∧ (∀ i, i < k1 → ¬ sl (36 + 20 * 0 + (14 + i)) 0 = vw) ∧ va_P (dC, dI) vwCl (xw A C nb st sl so) H ∧ va_S (XA A s.heap.size) s.heap H locs ∧ lv_has ls 8 [(5, .int (nI k1)), (4, .int (nI (c 2))), (0, .ref (A (36 + 20 * 0))), (1, .int 2), (2, .long vw)] ∧ stk = []) ?_ (10 - 0) _ _ _ _ ⟨0, rfl, by omega, by omega, by omega, fun i hi => absurd hi (by omega), hP, hS, lv_sub hl [0, 1, 2, 3, 4] rfl, rfl⟩
  rintro nn stk H locs ls ⟨k1, hm5, hv2_0, hv3_1, hv4_0, hv5_1, hP, hS, hl, rfl⟩ ih6
  refine lv_iload hx hb dX4_numberOf_32 (lv_at hl 0 rfl) ?_
  refine lv_iload hx hb dX4_numberOf_34 (lv_at hl 1 rfl) ?_
  refine lv_icmp_ge (tgt := 99) hx hb dX4_numberOf_36 (by decide) (fun c3 => ?_) (fun c3 => ?_)
  · have c3 : (c 2) ≤ k1 := (nI_leI (a := (c 2)) (b := k1) (by omega) (by omega)).mp c3
    refine lv_iconst (v := (-1)) hx hb dX4_numberOf_99 (by decide) ?_
    exact W.iret (v := (-1)) hx hb hr (fun t ht hW => ⟨⟨(-1), (st, sl, so), rfl, ⟨rfl, Or.inl (⟨rfl, fun i hi => hv5_1 i (by omega)⟩)⟩, xB.of ht hP⟩, hS.F ht⟩) hS.2.2 dX4_numberOf_100
  · have c3 : ¬ (c 2) ≤ k1 := fun hh => c3 ((nI_leI (a := (c 2)) (b := k1) (by omega) (by omega)).mpr hh)
    refine lv_iload_n hx hb dX4_numberOf_39 rfl (lv_at hl 3 rfl) ?_
    refine lv_if_ne (tgt := 53) hx hb dX4_numberOf_40 (by decide) (fun _ => ?_) (fun cc => absurd cc (by decide))
    refine lv_iload_n hx hb dX4_numberOf_53 rfl (lv_at hl 3 rfl) ?_
    refine lv_iconst (v := 1) hx hb dX4_numberOf_54 (by decide) ?_
    refine lv_icmp_ne (tgt := 71) hx hb dX4_numberOf_55 (by decide) (fun _ => ?_) (fun cc => absurd cc (by decide))
    refine lv_aload_n hx hb dX4_numberOf_71 rfl (lv_at hl 2 rfl) ?_
    refine va_get (D := (dC, dI)) (ci := 5) (v := .ref (A (36 + 20 * 0 + 5))) (C := RX4) (T := TX4) (N := 12) hx hb hts ii_X4_numberOf_X4 hown hK hP (36 + 20 * 0) (xw_is (r := (36 + 20 * 0)) (by omega) (xc_pk (i := 0) (o := 0) (by omega) (by omega))) rfl 4 (by decide) (hts _ mm_X4_numberOf_6) (fun _ hh => hh) rfl dX4_numberOf_72 ?_
    refine lv_iload hx hb dX4_numberOf_75 (lv_at hl 0 rfl) ?_
    refine va_aldq hx hb hK hP (36 + 20 * 0 + 5) (36 + 20 * 0 + 5) (xw_is (r := (36 + 20 * 0 + 5)) (by omega) (xc_pk (i := 0) (o := 5) (by omega) (by omega))) (xt_is (r := (36 + 20 * 0 + 5)) (by omega) ((xty_pk (i := 0) (o := 5) (by omega)).trans rfl)) (i := (nI k1)) (vp_in_nI (by omega) (by decide)) dX4_numberOf_77 ?_
    refine zz_topq (r := some (A (36 + 20 * 0 + (14 + k1)))) (by rw [nI_clamp (by omega)]; exact congrArg some (congrArg A (by omega))) ?_
    refine va_getN (host := "OffTheLead") (D := (dC, dI)) (ci := 3) (v := .long (sl (36 + 20 * 0 + (14 + k1)) 0)) (C := RX2) (T := TX2) (N := 7) hx hb hts ii_X4_numberOf_X2 hown hK hP (36 + 20 * 0 + (14 + k1)) (xw_is (r := (36 + 20 * 0 + (14 + k1))) (by omega) (xc_dog (i := 0) (p := k1) (by omega) (by omega))) rfl 0 (by decide) (va_Nw.use rfl (nf_X4_79 hEv)) (fun _ hh => hh) rfl dX4_numberOf_78 ?_
    refine lv_topl (fun z7 ez7 => ?_)
    refine lv_lstore (lv' := [(6, .long z7), (5, .int (nI k1)), (4, .int (nI (c 2))), (0, .ref (A (36 + 20 * 0))), (1, .int 2), (2, .long vw)]) hx hb dX4_numberOf_81 hl (by decide) rfl (fun ls hl => ?_)
    refine lv_lload hx hb dX4_numberOf_83 (lv_at hl 0 rfl) ?_
    refine lv_lload_n hx hb dX4_numberOf_85 rfl (lv_at hl 5 rfl) ?_
    refine W.lcmp hx hb dX4_numberOf_86 ?_
    refine lv_topi (fun z8 ez8 => ?_)
    refine lv_if_ne (tgt := 93) hx hb dX4_numberOf_87 (by decide) (fun c6 => ?_) (fun c6 => ?_)
    · have c6 : ¬ z7 = vw := fun hh => c6 (by rw [ez8]; exact (lg_cmp_eq _ _).mpr hh)
      have c6 : ¬ sl (36 + 20 * 0 + (14 + k1)) 0 = vw := fun hh => c6 (by rw [ez7]; exact hh)
      refine lv_iinc (v := (nI (k1 + 1))) (lv' := [(5, .int (nI (k1 + 1))), (6, .long z7), (4, .int (nI (c 2))), (0, .ref (A (36 + 20 * 0))), (1, .int 2), (2, .long vw)]) hx hb dX4_numberOf_93 hl (k := 1) rfl (nI_add k1 1) (by decide) rfl (fun ls hl => ?_)
      refine lv_goto (tgt := 32) hx hb dX4_numberOf_96 (by decide) ?_
      exact ih6 (10 - (k1 + 1)) _ _ _ _ (by omega) ⟨(k1 + 1), rfl, by omega, by omega, by omega, fun i hi hz => if h9 : i = k1 then c6 (by rw [← h9]; exact hz) else hv5_1 i (by omega) hz, hP, hS, lv_sub hl [0, 2, 3, 4, 5] rfl, rfl⟩
    · have c6 : z7 = vw := (lg_cmp_eq _ _).mp (by rw [← ez8]; exact c6)
      have c6 : sl (36 + 20 * 0 + (14 + k1)) 0 = vw := by rw [← ez7]; exact c6
      refine lv_iload hx hb dX4_numberOf_90 (lv_at hl 1 rfl) ?_
      exact W.iret (v := (nI k1)) hx hb hr (fun t ht hW => ⟨⟨(nI k1), (st, sl, so), rfl, ⟨rfl, Or.inr (⟨k1, rfl, by omega, c6⟩)⟩, xB.of ht hP⟩, hS.F ht⟩) hS.2.2 dX4_numberOf_92
set_option maxHeartbeats 4000000 in
set_option maxRecDepth 100000 in
theorem y_takeNamem2 (l : Launch) (dC : Nat → ClassId) (dI : Nat → Nat → Nat) (ad : Nat → Nat) (E : EP) (hEE : EC ad E) (A : Nat → Nat) (C : Nat → ClassId) (nb sz : Nat) (hN : XN A) (st : Nat → Nat → Int32) (sl : Nat → Nat → Int64) (so : Nat → XR) (B : Nat → Nat) (g m : Nat) (p : Nat) (c : Nat → Nat) (nm : Nat → Nat → Nat) (hI : XI st) (hOI : OI ad so) (hB : CBt B g m st) (hT : TC B g m p ad st sl so) (hR : CN c nm st sl 0) : Met l yX8_takeNamed wsX8_takeNamed ({ frames := 6, cells := 0, slots := 0, locals := 130 }) (va_Pc [.ref (A 1), .ref (A (36 + 20 * 0)), .int 2] (xPre E dC dI A C nb sz st sl so)) (va_Qi (fun (r : Int32) (x : XT) => XG [1, 2, 3, 4, 5, 6, 7, 8, 9, 12, 13, 14, 15] st x.1 ∧ OG ad [2, 3, 4] so x.2.2 ∧ FX 2 st sl so x.1 x.2.1 x.2.2 ∧ ((∃ n : Nat, r = 1 ∧ n < c 2 ∧ x.1 1 9 = nI n ∧ TC B g m (tkx B g m p) ad x.1 x.2.1 x.2.2 ∧ x.1 1 13 = st 1 13 ∧ (∀ k, eOne B g m p (c 2) (nm 2) k = k (tkx B g m p))) ∨ (∃ f : Nat, ∃ a : Nat, r = 0 ∧ x.1 1 13 = nI f ∧ x.1 1 14 = nI a ∧ (1 ≤ f ∧ f < 9) ∧ (∀ k, eOne B g m p (c 2) (nm 2) k = fl f a)))) (xB dC dI A C nb) (XA A sz)) 0 0 (XA A sz) := by
  refine Met.ofW (cc := cX8_takeNamed) (maxL := 3) (ret := (some .boolean)) (by decide) rfl ?_
  intro p9 e s m9 args below meth c9 s₁ B9 hml hv
  obtain ⟨rfl, hsz, hP, hK, hE⟩ := hv
  have hx := B9.exec
  have hb := B9.bytes
  have hr := B9.returns
  have hts := atoms_spec (ws := wsX8_takeNamed) B9.pre
  have hown : s.vm.findClass RX8 = some m9.cls := findClass_of_methodNamed B9.named
  subst hsz
  have hEv := hEE.1 _ _ _ hE
  have hS : va_S (XA A s.heap.size) s.heap s.heap [] := va_S.rf
  have hG : XG [1, 2, 3, 4, 5, 6, 7, 8, 9, 12, 13, 14, 15] st st := XG.rf hI
  have hO : OG ad [2, 3, 4] so so := OG.rf hOI
  have hl := lv_entry ([.ref (A 1), .ref (A (36 + 20 * 0)), .int 2]) (n := 3) (Nat.le_of_ble_eq_true rfl)
  rw [lg_entry_eq]
  generalize (lg_sl ([.ref (A 1), .ref (A (36 + 20 * 0)), .int 2]) ++ List.replicate (3 - (lg_sl ([.ref (A 1), .ref (A (36 + 20 * 0)), .int 2])).length) Slot.unset).toArray = ls at hl ⊢
  have hl : lv_has ls 3 [(0, .ref (A 1)), (1, .ref (A (36 + 20 * 0))), (2, .int 2)] := hl
  have hB1 := hB.2.2.1
  have hB2 := hB.2.2.2.1
  have hF : FX 2 st sl so st sl so := FX.rf
  have hp9 := hT.2.2.2.2.2.2
  have hk1 := tkd_lt (B := B) (g := g) (m := m) (p := p)
  have hk2 := tkx_le (B := B) (g := g) (m := m) (p := p) hp9
  have hk3 := tka_le (B := B) (g := g) (m := m) (p := p) hp9 hB.2.2.1
  have hk4 := tkv_ltc (p := p) hB hp9
  have hk5 := tkw_lt (B := B) (g := g) (m := m) (p := p)
  have hR9 := hR.2.1
  have hT0 := hT
  have hR0 := hR
  have hw25 := @tkw_d B g m p
  refine lv_aload_n hx hb dX8_takeNamed_0 rfl (lv_at hl 0 rfl) ?_
  refine va_get (D := (dC, dI)) (ci := 9) (v := va_rf (so 1 7)) (C := RX8) (T := TX8) (N := 15) hx hb hts ii_X8_takeNamed_X8 hown hK hP 1 (xw_is (r := 1) (by omega) (xc_fix (r := 1) (by omega))) rfl 7 (by decide) (hts _ mm_X8_takeNamed_1) (fun _ hh => hh) rfl dX8_takeNamed_1 ?_
  refine zz_topq (r := some (ad (tkw B g m p))) (by rw [hT.2.2.2.2.2.1]) ?_
  refine va_gets (v := .ref (ad 24)) hx hb (EV.word hEv (i := 24) (by decide)) hS hown (hts _ mm_X8_takeNamed_2) (fun _ hh => hh) dX8_takeNamed_4 ?_
  refine lv_acmp_eq (rx := (some (ad (tkw B g m p)))) (ry := (some (ad 24))) (tgt := 16) hx hb dX8_takeNamed_7 (by decide) (fun c1 => ?_) (fun c1 => ?_)
  · have c1 : (tkw B g m p) = 24 := (EV.eqw hEv (i := (tkw B g m p)) (j := 24) (by omega) (by omega)).mp c1
    refine lv_aload_n hx hb dX8_takeNamed_16 rfl (lv_at hl 0 rfl) ?_
    refine lv_aload_n hx hb dX8_takeNamed_17 rfl (lv_at hl 1 rfl) ?_
    refine lv_iload_n hx hb dX8_takeNamed_18 rfl (lv_at hl 2 rfl) ?_
    refine lv_aload_n hx hb dX8_takeNamed_19 rfl (lv_at hl 0 rfl) ?_
    refine va_get (D := (dC, dI)) (ci := 9) (v := .long (sl 1 8)) (C := RX8) (T := TX8) (N := 15) hx hb hts ii_X8_takeNamed_X8 hown hK hP 1 (xw_is (r := 1) (by omega) (xc_fix (r := 1) (by omega))) rfl 8 (by decide) (hts _ mm_X8_takeNamed_3) (fun _ hh => hh) rfl dX8_takeNamed_20 ?_
    refine lv_topl (fun z1 ez1 => ?_)
    refine va_calli (va_runV (As := [.int 2, .long z1]) (rest := [.ref (A 1)]) ⟨hx, hb, hml, hown, hts⟩ (y_numberOm2 l dC dI ad E hEE A C nb _ hN st sl so z1 c nm hG.1 hR) (cwV 2 hts gX8_takeNamed_X4_numberOf rfl rfl rfl (by decide +kernel) ⟨Nat.le_of_ble_eq_true rfl, Nat.le_of_ble_eq_true rfl⟩) ⟨fun a U g mk q => ⟨q.1, xPre.blind hEE q.2⟩, va_recv hK hP (ci := 5) (q0 := (36 + 20 * 0)) rfl (xw_is (r := (36 + 20 * 0)) (by omega) (xc_pk (i := 0) (o := 0) (by omega) (by omega))), fun U hU hW => ⟨rfl, xPre.of hEE hP hK hE hS hU hW⟩⟩ rfl rfl hl.1 rfl (lv_room (Nat.le_of_ble_eq_true rfl)) dX8_takeNamed_23 ⟨Nat.le_of_ble_eq_true rfl, Nat.le_of_ble_eq_true rfl⟩) hS (fun q _ h => XA.le hS.1 q h) (XA.le hS.1) (fun r2 x t H locs ht hvm hw hB9 _ _ hS => ?_)
    have hP := xB.at ht hB9
    clear hB9 ht hvm
    obtain ⟨rfl, hw⟩ := hw
    have hP : va_P (dC, dI) vwCl (xw A C nb st sl so) _ := hP
    rcases hw with ⟨rfl, hf3⟩ | ⟨n4, rfl, hf5, hf6⟩
    · refine va_put (D := (dC, dI)) (ci := 9) (v := .int (-1)) (ty := .int) (C := RX8) (T := TX8) (N := 15) hx hb hts ii_X8_takeNamed_X8 tyX8 tyX8_ok nmX8 hown hK hP (xD hN _ _ _ _ _ _) hS 1 (xw_is (r := 1) (by omega) (xc_fix (r := 1) (by omega))) rfl 9 (by decide) (hts _ mm_X8_takeNamed_4) (fun _ hh => hh) rfl (by decide +kernel) rfl rfl (Nat.le_of_ble_eq_true rfl) dX8_takeNamed_26 (fun H locs hP _ hS => ?_)
      have hP : va_P (dC, dI) vwCl (xw A C nb (up2 st 1 9 (-1)) sl so) H := by rw [← xset (r := 1) (k := 9) (v := (-1)) (xc_fix (r := 1) (by omega))]; exact hP
      obtain ⟨st7, est7⟩ : ∃ y, y = up2 st 1 9 (-1) := ⟨_, rfl⟩
      have hG : XG [1, 2, 3, 4, 5, 6, 7, 8, 9, 12, 13, 14, 15] st st7 := by rw [est7]; exact hG.up (xz (r := 1) (k := 9) (by decide : xrg 1 9 = 0)) (xpn (c := 11) (by decide : xcl 1 9 = 11) (by decide))
      rw [← est7] at hP
      have hF : FX 2 st sl so st7 sl so := by rw [est7]; exact hF.up (by decide)
      have hT : TC B g m p ad st7 sl so := by rw [est7]; exact hT.up (by omega)
      have hR : CN c nm st7 sl 0 := by rw [est7]; exact hR.up (by omega)
      refine lv_aload_n hx hb dX8_takeNamed_29 rfl (lv_at hl 0 rfl) ?_
      refine va_get (D := (dC, dI)) (ci := 9) (v := .int (st7 1 9)) (C := RX8) (T := TX8) (N := 15) hx hb hts ii_X8_takeNamed_X8 hown hK hP 1 (xw_is (r := 1) (by omega) (xc_fix (r := 1) (by omega))) rfl 9 (by decide) (hts _ mm_X8_takeNamed_4) (fun _ hh => hh) rfl dX8_takeNamed_30 ?_
      refine zz_top (v := (-1)) (by show st7 1 9 = _; rw [est7, up2_same]) ?_
      refine lv_iconst (v := (-1)) hx hb dX8_takeNamed_33 (by decide) ?_
      refine lv_icmp_ne (tgt := 43) hx hb dX8_takeNamed_34 (by decide) (fun cc => absurd (by decide) cc) (fun _ => ?_)
      refine lv_aload_n hx hb dX8_takeNamed_37 rfl (lv_at hl 0 rfl) ?_
      refine lv_iconst (v := 3) hx hb dX8_takeNamed_38 (by decide) ?_
      refine va_calli (va_runV (As := [.int 3]) (rest := []) ⟨hx, hb, hml, hown, hts⟩ (y_X8_refuse l dC dI ad E hEE A C nb _ hN st7 sl so 3 B g m p (by omega) hG.1 hO.1 (CBt.fr hB hF) hT) (cwV 1 hts gX8_takeNamed_X8_refuse rfl rfl rfl (by decide +kernel) ⟨Nat.le_of_ble_eq_true rfl, Nat.le_of_ble_eq_true rfl⟩) ⟨fun a U g mk q => ⟨q.1, xPre.blind hEE q.2⟩, va_recv hK hP (ci := 9) (q0 := 1) rfl (xw_is (r := 1) (by omega) (xc_fix (r := 1) (by omega))), fun U hU hW => ⟨rfl, xPre.of hEE hP hK hE hS hU hW⟩⟩ rfl rfl hl.1 rfl (lv_room (Nat.le_of_ble_eq_true rfl)) dX8_takeNamed_39 ⟨Nat.le_of_ble_eq_true rfl, Nat.le_of_ble_eq_true rfl⟩) hS (fun q _ h => XA.le hS.1 q h) (XA.le hS.1) (fun r8 x t H locs ht hvm hw hB9 _ _ hS => ?_)
      have hP := xB.at ht hB9
      clear hB9 ht hvm
      obtain ⟨st9, sl10, so11⟩ := x
      obtain ⟨hGst9, hOst9, hFst9, hw⟩ := hw
      dsimp only at hGst9 hOst9 hFst9 hw
      have hO : OG ad [2, 3, 4] so so11 := hO.tr hOst9 (by decide)
      have hP : va_P (dC, dI) vwCl (xw A C nb st9 sl10 so11) _ := hP
      have hG : XG [1, 2, 3, 4, 5, 6, 7, 8, 9, 12, 13, 14, 15] st st9 := hG.tr hGst9 (by decide)
      have hF : FX 2 st sl so st9 sl10 so11 := hF.tr hFst9 (by omega) (by omega)
      have hR : CN c nm st9 sl10 0 := hR.fr0 hFst9
      obtain ⟨rfl, hf12, hf13, hT⟩ := hw
      have hp9 := hT.2.2.2.2.2.2
      have hk1 := tkd_lt (B := B) (g := g) (m := m) (p := p)
      have hk2 := tkx_le (B := B) (g := g) (m := m) (p := p) hp9
      have hk3 := tka_le (B := B) (g := g) (m := m) (p := p) hp9 hB.2.2.1
      have hk4 := tkv_ltc (p := p) hB hp9
      have hk5 := tkw_lt (B := B) (g := g) (m := m) (p := p)
      exact W.zret (v := 0) hx hb hr rfl (fun t ht hW => ⟨⟨0, (st9, sl10, so11), rfl, ⟨hG, hO, hF, Or.inr (⟨3, (tka B g m p), rfl, by show st9 1 13 = _; rw [hf12], by show st9 1 14 = _; rw [hf13], by omega, fun k => by unfold eOne; rw [if_neg (by omega), if_pos (knw_f _ (hR0.nk2 (fun i hi => by rw [← (hT0.2.2.2.2.1 (by omega)), ← ez1]; exact hf3 i hi)))]⟩)⟩, xB.of ht hP⟩, hS.F ht⟩) hS.2.2 dX8_takeNamed_42
    · refine va_put (D := (dC, dI)) (ci := 9) (v := .int (nI n4)) (ty := .int) (C := RX8) (T := TX8) (N := 15) hx hb hts ii_X8_takeNamed_X8 tyX8 tyX8_ok nmX8 hown hK hP (xD hN _ _ _ _ _ _) hS 1 (xw_is (r := 1) (by omega) (xc_fix (r := 1) (by omega))) rfl 9 (by decide) (hts _ mm_X8_takeNamed_4) (fun _ hh => hh) rfl (by decide +kernel) rfl rfl (Nat.le_of_ble_eq_true rfl) dX8_takeNamed_26 (fun H locs hP _ hS => ?_)
      have hP : va_P (dC, dI) vwCl (xw A C nb (up2 st 1 9 (nI n4)) sl so) H := by rw [← xset (r := 1) (k := 9) (v := (nI n4)) (xc_fix (r := 1) (by omega))]; exact hP
      obtain ⟨st14, est14⟩ : ∃ y, y = up2 st 1 9 (nI n4) := ⟨_, rfl⟩
      have hG : XG [1, 2, 3, 4, 5, 6, 7, 8, 9, 12, 13, 14, 15] st st14 := by rw [est14]; exact hG.up (xz (r := 1) (k := 9) (by decide : xrg 1 9 = 0)) (xpn (c := 11) (by decide : xcl 1 9 = 11) (by decide))
      rw [← est14] at hP
      have hF : FX 2 st sl so st14 sl so := by rw [est14]; exact hF.up (by decide)
      have hT : TC B g m p ad st14 sl so := by rw [est14]; exact hT.up (by omega)
      have hR : CN c nm st14 sl 0 := by rw [est14]; exact hR.up (by omega)
      refine lv_aload_n hx hb dX8_takeNamed_29 rfl (lv_at hl 0 rfl) ?_
      refine va_get (D := (dC, dI)) (ci := 9) (v := .int (st14 1 9)) (C := RX8) (T := TX8) (N := 15) hx hb hts ii_X8_takeNamed_X8 hown hK hP 1 (xw_is (r := 1) (by omega) (xc_fix (r := 1) (by omega))) rfl 9 (by decide) (hts _ mm_X8_takeNamed_4) (fun _ hh => hh) rfl dX8_takeNamed_30 ?_
      refine zz_top (v := (nI n4)) (by show st14 1 9 = _; rw [est14, up2_same]) ?_
      refine lv_iconst (v := (-1)) hx hb dX8_takeNamed_33 (by decide) ?_
      refine lv_icmp_ne (tgt := 43) hx hb dX8_takeNamed_34 (by decide) (fun _ => ?_) (fun cc => absurd cc (nI_nem (by omega)))
      refine lv_aload_n hx hb dX8_takeNamed_43 rfl (lv_at hl 0 rfl) ?_
      refine va_callv (va_runV (As := []) (rest := []) ⟨hx, hb, hml, hown, hts⟩ (y_X8_step l dC dI ad E hEE A C nb _ hN st14 sl so B g m (tkx B g m p) hG.1 hO.1 (CBt.fr hB hF) hT.1 hk2.2) (cwV 0 hts gX8_takeNamed_X8_step rfl rfl rfl (by decide +kernel) ⟨Nat.le_of_ble_eq_true rfl, Nat.le_of_ble_eq_true rfl⟩) ⟨fun a U g mk q => ⟨q.1, xPre.blind hEE q.2⟩, va_recv hK hP (ci := 9) (q0 := 1) rfl (xw_is (r := 1) (by omega) (xc_fix (r := 1) (by omega))), fun U hU hW => ⟨rfl, xPre.of hEE hP hK hE hS hU hW⟩⟩ rfl rfl hl.1 rfl (lv_room (Nat.le_of_ble_eq_true rfl)) dX8_takeNamed_44 ⟨Nat.le_of_ble_eq_true rfl, Nat.le_of_ble_eq_true rfl⟩) hS (fun q _ h => XA.le hS.1 q h) (XA.le hS.1) (fun x t H locs ht hvm hw hB9 _ _ hS => ?_)
      have hP := xB.at ht hB9
      clear hB9 ht hvm
      obtain ⟨st16, sl17, so18⟩ := x
      obtain ⟨hGst16, hOst16, hFst16, hw⟩ := hw
      dsimp only at hGst16 hOst16 hFst16 hw
      have hO : OG ad [2, 3, 4] so so18 := hO.tr hOst16 (by decide)
      have hP : va_P (dC, dI) vwCl (xw A C nb st16 sl17 so18) _ := hP
      have hG : XG [1, 2, 3, 4, 5, 6, 7, 8, 9, 12, 13, 14, 15] st st16 := hG.tr hGst16 (by decide)
      have hF : FX 2 st sl so st16 sl17 so18 := hF.tr hFst16 (by omega) (by omega)
      have hR : CN c nm st16 sl17 0 := hR.fr0 hFst16
      have hT := hw
      have hp9 := hT.2.2.2.2.2.2
      have hk1 := tkd_lt (B := B) (g := g) (m := m) (p := (tkx B g m p))
      have hk2 := tkx_le (B := B) (g := g) (m := m) (p := (tkx B g m p)) hp9
      have hk3 := tka_le (B := B) (g := g) (m := m) (p := (tkx B g m p)) hp9 hB.2.2.1
      have hk4 := tkv_ltc (p := (tkx B g m p)) hB hp9
      have hk5 := tkw_lt (B := B) (g := g) (m := m) (p := (tkx B g m p))
      refine lv_iconst (v := 1) hx hb dX8_takeNamed_47 (by decide) ?_
      exact W.zret (v := 1) hx hb hr rfl (fun t ht hW => ⟨⟨1, (st16, sl17, so18), rfl, ⟨hG, hO, hF, Or.inl (⟨n4, rfl, by omega, by show st16 1 9 = _; rw [(hFst16 1 9 (by decide)).1, est14, up2_same], hT, by show st16 1 13 = st 1 13; rw [(hFst16 1 13 (by decide)).1, est14, up2_ne (r := 1) (k := 9) (a := 1) (j := 13) _ _ (by omega)], fun k => by unfold eOne; rw [if_neg (by omega), if_neg (by rw [knw_t (n := c 2) (i := n4) hf5 (hR0.kn2 hf5 (tkc_V (m := m) (by omega) hB1 (by omega)) (hf6.trans (by rw [ez1]; exact (hT0.2.2.2.2.1 (by omega)))))]; decide)]⟩)⟩, xB.of ht hP⟩, hS.F ht⟩) hS.2.2 dX8_takeNamed_48
  · have c1 : ¬ (tkw B g m p) = 24 := fun hh => c1 ((EV.eqw hEv (i := (tkw B g m p)) (j := 24) (by omega) (by omega)).mpr hh)
    refine lv_aload_n hx hb dX8_takeNamed_10 rfl (lv_at hl 0 rfl) ?_
    refine lv_iconst (v := 1) hx hb dX8_takeNamed_11 (by decide) ?_
    refine va_calli (va_runV (As := [.int 1]) (rest := []) ⟨hx, hb, hml, hown, hts⟩ (y_X8_refuse l dC dI ad E hEE A C nb _ hN st sl so 1 B g m p (by omega) hG.1 hO.1 (CBt.fr hB hF) hT) (cwV 1 hts gX8_takeNamed_X8_refuse rfl rfl rfl (by decide +kernel) ⟨Nat.le_of_ble_eq_true rfl, Nat.le_of_ble_eq_true rfl⟩) ⟨fun a U g mk q => ⟨q.1, xPre.blind hEE q.2⟩, va_recv hK hP (ci := 9) (q0 := 1) rfl (xw_is (r := 1) (by omega) (xc_fix (r := 1) (by omega))), fun U hU hW => ⟨rfl, xPre.of hEE hP hK hE hS hU hW⟩⟩ rfl rfl hl.1 rfl (lv_room (Nat.le_of_ble_eq_true rfl)) dX8_takeNamed_12 ⟨Nat.le_of_ble_eq_true rfl, Nat.le_of_ble_eq_true rfl⟩) hS (fun q _ h => XA.le hS.1 q h) (XA.le hS.1) (fun r19 x t H locs ht hvm hw hB9 _ _ hS => ?_)
    have hP := xB.at ht hB9
    clear hB9 ht hvm
    obtain ⟨st20, sl21, so22⟩ := x
    obtain ⟨hGst20, hOst20, hFst20, hw⟩ := hw
    dsimp only at hGst20 hOst20 hFst20 hw
    have hO : OG ad [2, 3, 4] so so22 := hO.tr hOst20 (by decide)
    have hP : va_P (dC, dI) vwCl (xw A C nb st20 sl21 so22) _ := hP
    have hG : XG [1, 2, 3, 4, 5, 6, 7, 8, 9, 12, 13, 14, 15] st st20 := hG.tr hGst20 (by decide)
    have hF : FX 2 st sl so st20 sl21 so22 := hF.tr hFst20 (by omega) (by omega)
    have hR : CN c nm st20 sl21 0 := hR.fr0 hFst20
    obtain ⟨rfl, hf23, hf24, hT⟩ := hw
    have hp9 := hT.2.2.2.2.2.2
    have hk1 := tkd_lt (B := B) (g := g) (m := m) (p := p)
    have hk2 := tkx_le (B := B) (g := g) (m := m) (p := p) hp9
    have hk3 := tka_le (B := B) (g := g) (m := m) (p := p) hp9 hB.2.2.1
    have hk4 := tkv_ltc (p := p) hB hp9
    have hk5 := tkw_lt (B := B) (g := g) (m := m) (p := p)
    exact W.zret (v := 0) hx hb hr rfl (fun t ht hW => ⟨⟨0, (st20, sl21, so22), rfl, ⟨hG, hO, hF, Or.inr (⟨1, (tka B g m p), rfl, by show st20 1 13 = _; rw [hf23], by show st20 1 14 = _; rw [hf24], by omega, fun k => by unfold eOne; rw [if_pos (by omega)]⟩)⟩, xB.of ht hP⟩, hS.F ht⟩) hS.2.2 dX8_takeNamed_15
set_option maxHeartbeats 4000000 in
set_option maxRecDepth 100000 in
theorem y_X0_mayBegin (l : Launch) (dC : Nat → ClassId) (dI : Nat → Nat → Nat) (ad : Nat → Nat) (E : EP) (hEE : EC ad E) (A : Nat → Nat) (C : Nat → ClassId) (nb sz : Nat) (hN : XN A) (st : Nat → Nat → Int32) (sl : Nat → Nat → Int64) (so : Nat → XR) (B : Nat → Nat) (g m : Nat) (p : Nat) (c : Nat → Nat) (nm : Nat → Nat → Nat) (gl : Nat) (hI : XI st) (hOI : OI ad so) (hB : CBt B g m st) (hT : TC B g m p ad st sl so) (hR : CN c nm st sl 0) (h5 : st 4 5 = nI gl) (hgl : gl < 41) : Met l yX0_mayBegin wsX0_mayBegin ({ frames := 1, cells := 0, slots := 0, locals := 27 }) (va_Pc [.ref (A 4), .ref (A 1), .ref (A (36 + 20 * 0))] (xPre E dC dI A C nb sz st sl so)) (va_Qi (fun (r : Int32) (x : XT) => XG [1, 2, 4, 5, 7, 8, 9, 12, 13, 14, 15] st x.1 ∧ OG ad [3, 4] so x.2.2 ∧ FX 6 st sl so x.1 x.2.1 x.2.2 ∧ ((r = 1 ∧ TC B g m p ad x.1 x.2.1 x.2.2 ∧ x.1 1 13 = st 1 13 ∧ x.1 4 5 = st 4 5 ∧ gl < 40 ∧ bMy B g m c nm p) ∨ (∃ f : Nat, ∃ a : Nat, r = 0 ∧ x.1 1 13 = nI f ∧ x.1 1 14 = nI a ∧ (1 ≤ f ∧ f < 9) ∧ bLn B g m c nm p gl = sf f a))) (xB dC dI A C nb) (XA A sz)) 0 0 (XA A sz) := by
  refine Met.ofW (cc := cX0_mayBegin) (maxL := 4) (ret := (some .boolean)) (by decide) rfl ?_
  intro p9 e s m9 args below meth c9 s₁ B9 hml hv
  obtain ⟨rfl, hsz, hP, hK, hE⟩ := hv
  have hx := B9.exec
  have hb := B9.bytes
  have hr := B9.returns
  have hts := atoms_spec (ws := wsX0_mayBegin) B9.pre
  have hown : s.vm.findClass RX0 = some m9.cls := findClass_of_methodNamed B9.named
  subst hsz
  have hEv := hEE.1 _ _ _ hE
  have hS : va_S (XA A s.heap.size) s.heap s.heap [] := va_S.rf
  have hG : XG [1, 2, 4, 5, 7, 8, 9, 12, 13, 14, 15] st st := XG.rf hI
  have hO : OG ad [3, 4] so so := OG.rf hOI
  have hl := lv_entry ([.ref (A 4), .ref (A 1), .ref (A (36 + 20 * 0))]) (n := 4) (Nat.le_of_ble_eq_true rfl)
  rw [lg_entry_eq]
  generalize (lg_sl ([.ref (A 4), .ref (A 1), .ref (A (36 + 20 * 0))]) ++ List.replicate (4 - (lg_sl ([.ref (A 4), .ref (A 1), .ref (A (36 + 20 * 0))])).length) Slot.unset).toArray = ls at hl ⊢
  have hl : lv_has ls 4 [(0, .ref (A 4)), (1, .ref (A 1)), (2, .ref (A (36 + 20 * 0)))] := hl
  have hB1 := hB.2.2.1
  have hB2 := hB.2.2.2.1
  have hF : FX 6 st sl so st sl so := FX.rf
  have hp9 := hT.2.2.2.2.2.2
  have hk1 := tkd_lt (B := B) (g := g) (m := m) (p := p)
  have hk2 := tkx_le (B := B) (g := g) (m := m) (p := p) hp9
  have hk3 := tka_le (B := B) (g := g) (m := m) (p := p) hp9 hB.2.2.1
  have hk4 := tkv_ltc (p := p) hB hp9
  have hk5 := tkw_lt (B := B) (g := g) (m := m) (p := p)
  have hR9 := hR.2.1
  have hT0 := hT
  have hR0 := hR
  have hw25 := @tkw_d B g m p
  refine lv_aload_n hx hb dX0_mayBegin_0 rfl (lv_at hl 1 rfl) ?_
  refine va_getN (host := "OffTheLead") (D := (dC, dI)) (ci := 9) (v := va_rf (so 1 7)) (C := RX8) (T := TX8) (N := 15) hx hb hts ii_X0_mayBegin_X8 hown hK hP 1 (xw_is (r := 1) (by omega) (xc_fix (r := 1) (by omega))) rfl 7 (by decide) (va_Nw.use rfl (nf_X0_50 hEv)) (fun _ hh => hh) rfl dX0_mayBegin_1 ?_
  refine zz_topq (r := some (ad (tkw B g m p))) (by rw [hT.2.2.2.2.2.1]) ?_
  refine lv_astore_n (lv' := [(3, .ref (ad (tkw B g m p))), (0, .ref (A 4)), (1, .ref (A 1)), (2, .ref (A (36 + 20 * 0)))]) hx hb dX0_mayBegin_4 rfl hl (by decide) rfl (fun ls hl => ?_)
  refine lv_aload_n hx hb dX0_mayBegin_5 rfl (lv_at hl 0 rfl) ?_
  refine va_gets (v := .ref (ad 24)) hx hb (EV.word hEv (i := 24) (by decide)) hS hown (hts _ mm_X0_mayBegin_1) (fun _ hh => hh) dX0_mayBegin_6 ?_
  refine lv_acmp_ne (rx := (some (ad (tkw B g m p)))) (ry := (some (ad 24))) (tgt := 44) hx hb dX0_mayBegin_9 (by decide) (fun c1 => ?_) (fun c1 => ?_)
  · have c1 : ¬ (tkw B g m p) = 24 := fun hh => c1 ((EV.eqw hEv (i := (tkw B g m p)) (j := 24) (by omega) (by omega)).mpr hh)
    refine lv_aload_n hx hb dX0_mayBegin_44 rfl (lv_at hl 0 rfl) ?_
    refine va_gets (v := .ref (ad 6)) hx hb (EV.word hEv (i := 6) (by decide)) hS hown (hts _ mm_X0_mayBegin_2) (fun _ hh => hh) dX0_mayBegin_45 ?_
    refine lv_acmp_eq (rx := (some (ad (tkw B g m p)))) (ry := (some (ad 6))) (tgt := 85) hx hb dX0_mayBegin_48 (by decide) (fun c2 => ?_) (fun c2 => ?_)
    · have c2 : (tkw B g m p) = 6 := (EV.eqw hEv (i := (tkw B g m p)) (j := 6) (by omega) (by omega)).mp c2
      refine lv_aload_n hx hb dX0_mayBegin_85 rfl (lv_at hl 1 rfl) ?_
      refine va_get (D := (dC, dI)) (ci := 1) (v := .int (st 4 5)) (C := RX0) (T := TX0) (N := 7) hx hb hts ii_X0_mayBegin_X0 hown hK hP 4 (xw_is (r := 4) (by omega) (xc_fix (r := 4) (by omega))) rfl 5 (by decide) (hts _ mm_X0_mayBegin_7) (fun _ hh => hh) rfl dX0_mayBegin_86 ?_
      refine zz_top (v := (nI gl)) (by show st 4 5 = _; rw [h5]) ?_
      refine lv_bipush (v := 40) hx hb dX0_mayBegin_89 (by decide) ?_
      refine lv_icmp_lt (tgt := 102) hx hb dX0_mayBegin_91 (by decide) (fun c3 => ?_) (fun c3 => ?_)
      · have c3 : gl < 40 := (nI_ltI (a := gl) (b := 40) (by omega) (by omega)).mp c3
        refine lv_iconst (v := 1) hx hb dX0_mayBegin_102 (by decide) ?_
        refine lv_goto (tgt := 107) hx hb dX0_mayBegin_103 (by decide) ?_
        exact W.zret (v := 1) hx hb hr rfl (fun t ht hW => ⟨⟨1, (st, sl, so), rfl, ⟨hG, hO, hF, Or.inl (⟨rfl, hT, by show st 1 13 = st 1 13; rfl, by show st 4 5 = st 4 5; rfl, by omega, Or.inl (show tkw B g m p = 6 ∨ tkw B g m p = 7 ∨ tkw B g m p = 8 ∨ tkw B g m p = 5 ∨ tkw B g m p = 12 by omega)⟩)⟩, xB.of ht hP⟩, hS.F ht⟩) hS.2.2 dX0_mayBegin_107
      · have c3 : ¬ gl < 40 := fun hh => c3 ((nI_ltI (a := gl) (b := 40) (by omega) (by omega)).mpr hh)
        refine lv_aload_n hx hb dX0_mayBegin_94 rfl (lv_at hl 2 rfl) ?_
        refine lv_iconst (v := 4) hx hb dX0_mayBegin_95 (by decide) ?_
        refine va_calli (va_runV (As := [.int 4]) (rest := []) ⟨hx, hb, hml, hown, hts⟩ (y_X8_refuse l dC dI ad E hEE A C nb _ hN st sl so 4 B g m p (by omega) hG.1 hO.1 (CBt.fr hB hF) hT) (cwV 1 hts gX0_mayBegin_X8_refuse rfl rfl rfl (by decide +kernel) ⟨Nat.le_of_ble_eq_true rfl, Nat.le_of_ble_eq_true rfl⟩) ⟨fun a U g mk q => ⟨q.1, xPre.blind hEE q.2⟩, va_recv hK hP (ci := 9) (q0 := 1) rfl (xw_is (r := 1) (by omega) (xc_fix (r := 1) (by omega))), fun U hU hW => ⟨rfl, xPre.of hEE hP hK hE hS hU hW⟩⟩ rfl rfl hl.1 rfl (lv_room (Nat.le_of_ble_eq_true rfl)) dX0_mayBegin_96 ⟨Nat.le_of_ble_eq_true rfl, Nat.le_of_ble_eq_true rfl⟩) hS (fun q _ h => XA.le hS.1 q h) (XA.le hS.1) (fun r1 x t H locs ht hvm hw hB9 _ _ hS => ?_)
        have hP := xB.at ht hB9
        clear hB9 ht hvm
        obtain ⟨st2, sl3, so4⟩ := x
        obtain ⟨hGst2, hOst2, hFst2, hw⟩ := hw
        dsimp only at hGst2 hOst2 hFst2 hw
        have hO : OG ad [3, 4] so so4 := hO.tr hOst2 (by decide)
        have hP : va_P (dC, dI) vwCl (xw A C nb st2 sl3 so4) _ := hP
        have hG : XG [1, 2, 4, 5, 7, 8, 9, 12, 13, 14, 15] st st2 := hG.tr hGst2 (by decide)
        have hF : FX 6 st sl so st2 sl3 so4 := hF.tr hFst2 (by omega) (by omega)
        have hR : CN c nm st2 sl3 0 := hR.fr0 hFst2
        obtain ⟨rfl, hf5, hf6, hT⟩ := hw
        have hp9 := hT.2.2.2.2.2.2
        have hk1 := tkd_lt (B := B) (g := g) (m := m) (p := p)
        have hk2 := tkx_le (B := B) (g := g) (m := m) (p := p) hp9
        have hk3 := tka_le (B := B) (g := g) (m := m) (p := p) hp9 hB.2.2.1
        have hk4 := tkv_ltc (p := p) hB hp9
        have hk5 := tkw_lt (B := B) (g := g) (m := m) (p := p)
        refine lv_if_eq (tgt := 106) hx hb dX0_mayBegin_99 (by decide) (fun _ => ?_) (fun cc => absurd (by decide) cc)
        refine lv_iconst (v := 0) hx hb dX0_mayBegin_106 (by decide) ?_
        exact W.zret (v := 0) hx hb hr rfl (fun t ht hW => ⟨⟨0, (st2, sl3, so4), rfl, ⟨hG, hO, hF, Or.inr (⟨4, (tka B g m p), rfl, by show st2 1 13 = _; rw [hf5], by show st2 1 14 = _; rw [hf6], by omega, bLn_m4 (Or.inl (show tkw B g m p = 6 ∨ tkw B g m p = 7 ∨ tkw B g m p = 8 ∨ tkw B g m p = 5 ∨ tkw B g m p = 12 by omega)) (by omega)⟩)⟩, xB.of ht hP⟩, hS.F ht⟩) hS.2.2 dX0_mayBegin_107
    · have c2 : ¬ (tkw B g m p) = 6 := fun hh => c2 ((EV.eqw hEv (i := (tkw B g m p)) (j := 6) (by omega) (by omega)).mpr hh)
      refine lv_aload_n hx hb dX0_mayBegin_51 rfl (lv_at hl 0 rfl) ?_
      refine va_gets (v := .ref (ad 7)) hx hb (EV.word hEv (i := 7) (by decide)) hS hown (hts _ mm_X0_mayBegin_3) (fun _ hh => hh) dX0_mayBegin_52 ?_
      refine lv_acmp_eq (rx := (some (ad (tkw B g m p)))) (ry := (some (ad 7))) (tgt := 85) hx hb dX0_mayBegin_55 (by decide) (fun c5 => ?_) (fun c5 => ?_)
      · have c5 : (tkw B g m p) = 7 := (EV.eqw hEv (i := (tkw B g m p)) (j := 7) (by omega) (by omega)).mp c5
        refine lv_aload_n hx hb dX0_mayBegin_85 rfl (lv_at hl 1 rfl) ?_
        refine va_get (D := (dC, dI)) (ci := 1) (v := .int (st 4 5)) (C := RX0) (T := TX0) (N := 7) hx hb hts ii_X0_mayBegin_X0 hown hK hP 4 (xw_is (r := 4) (by omega) (xc_fix (r := 4) (by omega))) rfl 5 (by decide) (hts _ mm_X0_mayBegin_7) (fun _ hh => hh) rfl dX0_mayBegin_86 ?_
        refine zz_top (v := (nI gl)) (by show st 4 5 = _; rw [h5]) ?_
        refine lv_bipush (v := 40) hx hb dX0_mayBegin_89 (by decide) ?_
        refine lv_icmp_lt (tgt := 102) hx hb dX0_mayBegin_91 (by decide) (fun c6 => ?_) (fun c6 => ?_)
        · have c6 : gl < 40 := (nI_ltI (a := gl) (b := 40) (by omega) (by omega)).mp c6
          refine lv_iconst (v := 1) hx hb dX0_mayBegin_102 (by decide) ?_
          refine lv_goto (tgt := 107) hx hb dX0_mayBegin_103 (by decide) ?_
          exact W.zret (v := 1) hx hb hr rfl (fun t ht hW => ⟨⟨1, (st, sl, so), rfl, ⟨hG, hO, hF, Or.inl (⟨rfl, hT, by show st 1 13 = st 1 13; rfl, by show st 4 5 = st 4 5; rfl, by omega, Or.inl (show tkw B g m p = 6 ∨ tkw B g m p = 7 ∨ tkw B g m p = 8 ∨ tkw B g m p = 5 ∨ tkw B g m p = 12 by omega)⟩)⟩, xB.of ht hP⟩, hS.F ht⟩) hS.2.2 dX0_mayBegin_107
        · have c6 : ¬ gl < 40 := fun hh => c6 ((nI_ltI (a := gl) (b := 40) (by omega) (by omega)).mpr hh)
          refine lv_aload_n hx hb dX0_mayBegin_94 rfl (lv_at hl 2 rfl) ?_
          refine lv_iconst (v := 4) hx hb dX0_mayBegin_95 (by decide) ?_
          refine va_calli (va_runV (As := [.int 4]) (rest := []) ⟨hx, hb, hml, hown, hts⟩ (y_X8_refuse l dC dI ad E hEE A C nb _ hN st sl so 4 B g m p (by omega) hG.1 hO.1 (CBt.fr hB hF) hT) (cwV 1 hts gX0_mayBegin_X8_refuse rfl rfl rfl (by decide +kernel) ⟨Nat.le_of_ble_eq_true rfl, Nat.le_of_ble_eq_true rfl⟩) ⟨fun a U g mk q => ⟨q.1, xPre.blind hEE q.2⟩, va_recv hK hP (ci := 9) (q0 := 1) rfl (xw_is (r := 1) (by omega) (xc_fix (r := 1) (by omega))), fun U hU hW => ⟨rfl, xPre.of hEE hP hK hE hS hU hW⟩⟩ rfl rfl hl.1 rfl (lv_room (Nat.le_of_ble_eq_true rfl)) dX0_mayBegin_96 ⟨Nat.le_of_ble_eq_true rfl, Nat.le_of_ble_eq_true rfl⟩) hS (fun q _ h => XA.le hS.1 q h) (XA.le hS.1) (fun r7 x t H locs ht hvm hw hB9 _ _ hS => ?_)
          have hP := xB.at ht hB9
          clear hB9 ht hvm
          obtain ⟨st8, sl9, so10⟩ := x
          obtain ⟨hGst8, hOst8, hFst8, hw⟩ := hw
          dsimp only at hGst8 hOst8 hFst8 hw
          have hO : OG ad [3, 4] so so10 := hO.tr hOst8 (by decide)
          have hP : va_P (dC, dI) vwCl (xw A C nb st8 sl9 so10) _ := hP
          have hG : XG [1, 2, 4, 5, 7, 8, 9, 12, 13, 14, 15] st st8 := hG.tr hGst8 (by decide)
          have hF : FX 6 st sl so st8 sl9 so10 := hF.tr hFst8 (by omega) (by omega)
          have hR : CN c nm st8 sl9 0 := hR.fr0 hFst8
          obtain ⟨rfl, hf11, hf12, hT⟩ := hw
          have hp9 := hT.2.2.2.2.2.2
          have hk1 := tkd_lt (B := B) (g := g) (m := m) (p := p)
          have hk2 := tkx_le (B := B) (g := g) (m := m) (p := p) hp9
          have hk3 := tka_le (B := B) (g := g) (m := m) (p := p) hp9 hB.2.2.1
          have hk4 := tkv_ltc (p := p) hB hp9
          have hk5 := tkw_lt (B := B) (g := g) (m := m) (p := p)
          refine lv_if_eq (tgt := 106) hx hb dX0_mayBegin_99 (by decide) (fun _ => ?_) (fun cc => absurd (by decide) cc)
          refine lv_iconst (v := 0) hx hb dX0_mayBegin_106 (by decide) ?_
          exact W.zret (v := 0) hx hb hr rfl (fun t ht hW => ⟨⟨0, (st8, sl9, so10), rfl, ⟨hG, hO, hF, Or.inr (⟨4, (tka B g m p), rfl, by show st8 1 13 = _; rw [hf11], by show st8 1 14 = _; rw [hf12], by omega, bLn_m4 (Or.inl (show tkw B g m p = 6 ∨ tkw B g m p = 7 ∨ tkw B g m p = 8 ∨ tkw B g m p = 5 ∨ tkw B g m p = 12 by omega)) (by omega)⟩)⟩, xB.of ht hP⟩, hS.F ht⟩) hS.2.2 dX0_mayBegin_107
      · have c5 : ¬ (tkw B g m p) = 7 := fun hh => c5 ((EV.eqw hEv (i := (tkw B g m p)) (j := 7) (by omega) (by omega)).mpr hh)
        refine lv_aload_n hx hb dX0_mayBegin_58 rfl (lv_at hl 0 rfl) ?_
        refine va_gets (v := .ref (ad 8)) hx hb (EV.word hEv (i := 8) (by decide)) hS hown (hts _ mm_X0_mayBegin_4) (fun _ hh => hh) dX0_mayBegin_59 ?_
        refine lv_acmp_eq (rx := (some (ad (tkw B g m p)))) (ry := (some (ad 8))) (tgt := 85) hx hb dX0_mayBegin_62 (by decide) (fun c8 => ?_) (fun c8 => ?_)
        · have c8 : (tkw B g m p) = 8 := (EV.eqw hEv (i := (tkw B g m p)) (j := 8) (by omega) (by omega)).mp c8
          refine lv_aload_n hx hb dX0_mayBegin_85 rfl (lv_at hl 1 rfl) ?_
          refine va_get (D := (dC, dI)) (ci := 1) (v := .int (st 4 5)) (C := RX0) (T := TX0) (N := 7) hx hb hts ii_X0_mayBegin_X0 hown hK hP 4 (xw_is (r := 4) (by omega) (xc_fix (r := 4) (by omega))) rfl 5 (by decide) (hts _ mm_X0_mayBegin_7) (fun _ hh => hh) rfl dX0_mayBegin_86 ?_
          refine zz_top (v := (nI gl)) (by show st 4 5 = _; rw [h5]) ?_
          refine lv_bipush (v := 40) hx hb dX0_mayBegin_89 (by decide) ?_
          refine lv_icmp_lt (tgt := 102) hx hb dX0_mayBegin_91 (by decide) (fun c9 => ?_) (fun c9 => ?_)
          · have c9 : gl < 40 := (nI_ltI (a := gl) (b := 40) (by omega) (by omega)).mp c9
            refine lv_iconst (v := 1) hx hb dX0_mayBegin_102 (by decide) ?_
            refine lv_goto (tgt := 107) hx hb dX0_mayBegin_103 (by decide) ?_
            exact W.zret (v := 1) hx hb hr rfl (fun t ht hW => ⟨⟨1, (st, sl, so), rfl, ⟨hG, hO, hF, Or.inl (⟨rfl, hT, by show st 1 13 = st 1 13; rfl, by show st 4 5 = st 4 5; rfl, by omega, Or.inl (show tkw B g m p = 6 ∨ tkw B g m p = 7 ∨ tkw B g m p = 8 ∨ tkw B g m p = 5 ∨ tkw B g m p = 12 by omega)⟩)⟩, xB.of ht hP⟩, hS.F ht⟩) hS.2.2 dX0_mayBegin_107
          · have c9 : ¬ gl < 40 := fun hh => c9 ((nI_ltI (a := gl) (b := 40) (by omega) (by omega)).mpr hh)
            refine lv_aload_n hx hb dX0_mayBegin_94 rfl (lv_at hl 2 rfl) ?_
            refine lv_iconst (v := 4) hx hb dX0_mayBegin_95 (by decide) ?_
            refine va_calli (va_runV (As := [.int 4]) (rest := []) ⟨hx, hb, hml, hown, hts⟩ (y_X8_refuse l dC dI ad E hEE A C nb _ hN st sl so 4 B g m p (by omega) hG.1 hO.1 (CBt.fr hB hF) hT) (cwV 1 hts gX0_mayBegin_X8_refuse rfl rfl rfl (by decide +kernel) ⟨Nat.le_of_ble_eq_true rfl, Nat.le_of_ble_eq_true rfl⟩) ⟨fun a U g mk q => ⟨q.1, xPre.blind hEE q.2⟩, va_recv hK hP (ci := 9) (q0 := 1) rfl (xw_is (r := 1) (by omega) (xc_fix (r := 1) (by omega))), fun U hU hW => ⟨rfl, xPre.of hEE hP hK hE hS hU hW⟩⟩ rfl rfl hl.1 rfl (lv_room (Nat.le_of_ble_eq_true rfl)) dX0_mayBegin_96 ⟨Nat.le_of_ble_eq_true rfl, Nat.le_of_ble_eq_true rfl⟩) hS (fun q _ h => XA.le hS.1 q h) (XA.le hS.1) (fun r13 x t H locs ht hvm hw hB9 _ _ hS => ?_)
            have hP := xB.at ht hB9
            clear hB9 ht hvm
            obtain ⟨st14, sl15, so16⟩ := x
            obtain ⟨hGst14, hOst14, hFst14, hw⟩ := hw
            dsimp only at hGst14 hOst14 hFst14 hw
            have hO : OG ad [3, 4] so so16 := hO.tr hOst14 (by decide)
            have hP : va_P (dC, dI) vwCl (xw A C nb st14 sl15 so16) _ := hP
            have hG : XG [1, 2, 4, 5, 7, 8, 9, 12, 13, 14, 15] st st14 := hG.tr hGst14 (by decide)
            have hF : FX 6 st sl so st14 sl15 so16 := hF.tr hFst14 (by omega) (by omega)
            have hR : CN c nm st14 sl15 0 := hR.fr0 hFst14
            obtain ⟨rfl, hf17, hf18, hT⟩ := hw
            have hp9 := hT.2.2.2.2.2.2
            have hk1 := tkd_lt (B := B) (g := g) (m := m) (p := p)
            have hk2 := tkx_le (B := B) (g := g) (m := m) (p := p) hp9
            have hk3 := tka_le (B := B) (g := g) (m := m) (p := p) hp9 hB.2.2.1
            have hk4 := tkv_ltc (p := p) hB hp9
            have hk5 := tkw_lt (B := B) (g := g) (m := m) (p := p)
            refine lv_if_eq (tgt := 106) hx hb dX0_mayBegin_99 (by decide) (fun _ => ?_) (fun cc => absurd (by decide) cc)
            refine lv_iconst (v := 0) hx hb dX0_mayBegin_106 (by decide) ?_
            exact W.zret (v := 0) hx hb hr rfl (fun t ht hW => ⟨⟨0, (st14, sl15, so16), rfl, ⟨hG, hO, hF, Or.inr (⟨4, (tka B g m p), rfl, by show st14 1 13 = _; rw [hf17], by show st14 1 14 = _; rw [hf18], by omega, bLn_m4 (Or.inl (show tkw B g m p = 6 ∨ tkw B g m p = 7 ∨ tkw B g m p = 8 ∨ tkw B g m p = 5 ∨ tkw B g m p = 12 by omega)) (by omega)⟩)⟩, xB.of ht hP⟩, hS.F ht⟩) hS.2.2 dX0_mayBegin_107
        · have c8 : ¬ (tkw B g m p) = 8 := fun hh => c8 ((EV.eqw hEv (i := (tkw B g m p)) (j := 8) (by omega) (by omega)).mpr hh)
          refine lv_aload_n hx hb dX0_mayBegin_65 rfl (lv_at hl 0 rfl) ?_
          refine va_gets (v := .ref (ad 5)) hx hb (EV.word hEv (i := 5) (by decide)) hS hown (hts _ mm_X0_mayBegin_5) (fun _ hh => hh) dX0_mayBegin_66 ?_
          refine lv_acmp_eq (rx := (some (ad (tkw B g m p)))) (ry := (some (ad 5))) (tgt := 85) hx hb dX0_mayBegin_69 (by decide) (fun c11 => ?_) (fun c11 => ?_)
          · have c11 : (tkw B g m p) = 5 := (EV.eqw hEv (i := (tkw B g m p)) (j := 5) (by omega) (by omega)).mp c11
            refine lv_aload_n hx hb dX0_mayBegin_85 rfl (lv_at hl 1 rfl) ?_
            refine va_get (D := (dC, dI)) (ci := 1) (v := .int (st 4 5)) (C := RX0) (T := TX0) (N := 7) hx hb hts ii_X0_mayBegin_X0 hown hK hP 4 (xw_is (r := 4) (by omega) (xc_fix (r := 4) (by omega))) rfl 5 (by decide) (hts _ mm_X0_mayBegin_7) (fun _ hh => hh) rfl dX0_mayBegin_86 ?_
            refine zz_top (v := (nI gl)) (by show st 4 5 = _; rw [h5]) ?_
            refine lv_bipush (v := 40) hx hb dX0_mayBegin_89 (by decide) ?_
            refine lv_icmp_lt (tgt := 102) hx hb dX0_mayBegin_91 (by decide) (fun c12 => ?_) (fun c12 => ?_)
            · have c12 : gl < 40 := (nI_ltI (a := gl) (b := 40) (by omega) (by omega)).mp c12
              refine lv_iconst (v := 1) hx hb dX0_mayBegin_102 (by decide) ?_
              refine lv_goto (tgt := 107) hx hb dX0_mayBegin_103 (by decide) ?_
              exact W.zret (v := 1) hx hb hr rfl (fun t ht hW => ⟨⟨1, (st, sl, so), rfl, ⟨hG, hO, hF, Or.inl (⟨rfl, hT, by show st 1 13 = st 1 13; rfl, by show st 4 5 = st 4 5; rfl, by omega, Or.inl (show tkw B g m p = 6 ∨ tkw B g m p = 7 ∨ tkw B g m p = 8 ∨ tkw B g m p = 5 ∨ tkw B g m p = 12 by omega)⟩)⟩, xB.of ht hP⟩, hS.F ht⟩) hS.2.2 dX0_mayBegin_107
            · have c12 : ¬ gl < 40 := fun hh => c12 ((nI_ltI (a := gl) (b := 40) (by omega) (by omega)).mpr hh)
              refine lv_aload_n hx hb dX0_mayBegin_94 rfl (lv_at hl 2 rfl) ?_
              refine lv_iconst (v := 4) hx hb dX0_mayBegin_95 (by decide) ?_
              refine va_calli (va_runV (As := [.int 4]) (rest := []) ⟨hx, hb, hml, hown, hts⟩ (y_X8_refuse l dC dI ad E hEE A C nb _ hN st sl so 4 B g m p (by omega) hG.1 hO.1 (CBt.fr hB hF) hT) (cwV 1 hts gX0_mayBegin_X8_refuse rfl rfl rfl (by decide +kernel) ⟨Nat.le_of_ble_eq_true rfl, Nat.le_of_ble_eq_true rfl⟩) ⟨fun a U g mk q => ⟨q.1, xPre.blind hEE q.2⟩, va_recv hK hP (ci := 9) (q0 := 1) rfl (xw_is (r := 1) (by omega) (xc_fix (r := 1) (by omega))), fun U hU hW => ⟨rfl, xPre.of hEE hP hK hE hS hU hW⟩⟩ rfl rfl hl.1 rfl (lv_room (Nat.le_of_ble_eq_true rfl)) dX0_mayBegin_96 ⟨Nat.le_of_ble_eq_true rfl, Nat.le_of_ble_eq_true rfl⟩) hS (fun q _ h => XA.le hS.1 q h) (XA.le hS.1) (fun r19 x t H locs ht hvm hw hB9 _ _ hS => ?_)
              have hP := xB.at ht hB9
              clear hB9 ht hvm
              obtain ⟨st20, sl21, so22⟩ := x
              obtain ⟨hGst20, hOst20, hFst20, hw⟩ := hw
              dsimp only at hGst20 hOst20 hFst20 hw
              have hO : OG ad [3, 4] so so22 := hO.tr hOst20 (by decide)
              have hP : va_P (dC, dI) vwCl (xw A C nb st20 sl21 so22) _ := hP
              have hG : XG [1, 2, 4, 5, 7, 8, 9, 12, 13, 14, 15] st st20 := hG.tr hGst20 (by decide)
              have hF : FX 6 st sl so st20 sl21 so22 := hF.tr hFst20 (by omega) (by omega)
              have hR : CN c nm st20 sl21 0 := hR.fr0 hFst20
              obtain ⟨rfl, hf23, hf24, hT⟩ := hw
              have hp9 := hT.2.2.2.2.2.2
              have hk1 := tkd_lt (B := B) (g := g) (m := m) (p := p)
              have hk2 := tkx_le (B := B) (g := g) (m := m) (p := p) hp9
              have hk3 := tka_le (B := B) (g := g) (m := m) (p := p) hp9 hB.2.2.1
              have hk4 := tkv_ltc (p := p) hB hp9
              have hk5 := tkw_lt (B := B) (g := g) (m := m) (p := p)
              refine lv_if_eq (tgt := 106) hx hb dX0_mayBegin_99 (by decide) (fun _ => ?_) (fun cc => absurd (by decide) cc)
              refine lv_iconst (v := 0) hx hb dX0_mayBegin_106 (by decide) ?_
              exact W.zret (v := 0) hx hb hr rfl (fun t ht hW => ⟨⟨0, (st20, sl21, so22), rfl, ⟨hG, hO, hF, Or.inr (⟨4, (tka B g m p), rfl, by show st20 1 13 = _; rw [hf23], by show st20 1 14 = _; rw [hf24], by omega, bLn_m4 (Or.inl (show tkw B g m p = 6 ∨ tkw B g m p = 7 ∨ tkw B g m p = 8 ∨ tkw B g m p = 5 ∨ tkw B g m p = 12 by omega)) (by omega)⟩)⟩, xB.of ht hP⟩, hS.F ht⟩) hS.2.2 dX0_mayBegin_107
          · have c11 : ¬ (tkw B g m p) = 5 := fun hh => c11 ((EV.eqw hEv (i := (tkw B g m p)) (j := 5) (by omega) (by omega)).mpr hh)
            refine lv_aload_n hx hb dX0_mayBegin_72 rfl (lv_at hl 0 rfl) ?_
            refine va_gets (v := .ref (ad 12)) hx hb (EV.word hEv (i := 12) (by decide)) hS hown (hts _ mm_X0_mayBegin_6) (fun _ hh => hh) dX0_mayBegin_73 ?_
            refine lv_acmp_eq (rx := (some (ad (tkw B g m p)))) (ry := (some (ad 12))) (tgt := 85) hx hb dX0_mayBegin_76 (by decide) (fun c14 => ?_) (fun c14 => ?_)
            · have c14 : (tkw B g m p) = 12 := (EV.eqw hEv (i := (tkw B g m p)) (j := 12) (by omega) (by omega)).mp c14
              refine lv_aload_n hx hb dX0_mayBegin_85 rfl (lv_at hl 1 rfl) ?_
              refine va_get (D := (dC, dI)) (ci := 1) (v := .int (st 4 5)) (C := RX0) (T := TX0) (N := 7) hx hb hts ii_X0_mayBegin_X0 hown hK hP 4 (xw_is (r := 4) (by omega) (xc_fix (r := 4) (by omega))) rfl 5 (by decide) (hts _ mm_X0_mayBegin_7) (fun _ hh => hh) rfl dX0_mayBegin_86 ?_
              refine zz_top (v := (nI gl)) (by show st 4 5 = _; rw [h5]) ?_
              refine lv_bipush (v := 40) hx hb dX0_mayBegin_89 (by decide) ?_
              refine lv_icmp_lt (tgt := 102) hx hb dX0_mayBegin_91 (by decide) (fun c15 => ?_) (fun c15 => ?_)
              · have c15 : gl < 40 := (nI_ltI (a := gl) (b := 40) (by omega) (by omega)).mp c15
                refine lv_iconst (v := 1) hx hb dX0_mayBegin_102 (by decide) ?_
                refine lv_goto (tgt := 107) hx hb dX0_mayBegin_103 (by decide) ?_
                exact W.zret (v := 1) hx hb hr rfl (fun t ht hW => ⟨⟨1, (st, sl, so), rfl, ⟨hG, hO, hF, Or.inl (⟨rfl, hT, by show st 1 13 = st 1 13; rfl, by show st 4 5 = st 4 5; rfl, by omega, Or.inl (show tkw B g m p = 6 ∨ tkw B g m p = 7 ∨ tkw B g m p = 8 ∨ tkw B g m p = 5 ∨ tkw B g m p = 12 by omega)⟩)⟩, xB.of ht hP⟩, hS.F ht⟩) hS.2.2 dX0_mayBegin_107
              · have c15 : ¬ gl < 40 := fun hh => c15 ((nI_ltI (a := gl) (b := 40) (by omega) (by omega)).mpr hh)
                refine lv_aload_n hx hb dX0_mayBegin_94 rfl (lv_at hl 2 rfl) ?_
                refine lv_iconst (v := 4) hx hb dX0_mayBegin_95 (by decide) ?_
                refine va_calli (va_runV (As := [.int 4]) (rest := []) ⟨hx, hb, hml, hown, hts⟩ (y_X8_refuse l dC dI ad E hEE A C nb _ hN st sl so 4 B g m p (by omega) hG.1 hO.1 (CBt.fr hB hF) hT) (cwV 1 hts gX0_mayBegin_X8_refuse rfl rfl rfl (by decide +kernel) ⟨Nat.le_of_ble_eq_true rfl, Nat.le_of_ble_eq_true rfl⟩) ⟨fun a U g mk q => ⟨q.1, xPre.blind hEE q.2⟩, va_recv hK hP (ci := 9) (q0 := 1) rfl (xw_is (r := 1) (by omega) (xc_fix (r := 1) (by omega))), fun U hU hW => ⟨rfl, xPre.of hEE hP hK hE hS hU hW⟩⟩ rfl rfl hl.1 rfl (lv_room (Nat.le_of_ble_eq_true rfl)) dX0_mayBegin_96 ⟨Nat.le_of_ble_eq_true rfl, Nat.le_of_ble_eq_true rfl⟩) hS (fun q _ h => XA.le hS.1 q h) (XA.le hS.1) (fun r25 x t H locs ht hvm hw hB9 _ _ hS => ?_)
                have hP := xB.at ht hB9
                clear hB9 ht hvm
                obtain ⟨st26, sl27, so28⟩ := x
                obtain ⟨hGst26, hOst26, hFst26, hw⟩ := hw
                dsimp only at hGst26 hOst26 hFst26 hw
                have hO : OG ad [3, 4] so so28 := hO.tr hOst26 (by decide)
                have hP : va_P (dC, dI) vwCl (xw A C nb st26 sl27 so28) _ := hP
                have hG : XG [1, 2, 4, 5, 7, 8, 9, 12, 13, 14, 15] st st26 := hG.tr hGst26 (by decide)
                have hF : FX 6 st sl so st26 sl27 so28 := hF.tr hFst26 (by omega) (by omega)
                have hR : CN c nm st26 sl27 0 := hR.fr0 hFst26
                obtain ⟨rfl, hf29, hf30, hT⟩ := hw
                have hp9 := hT.2.2.2.2.2.2
                have hk1 := tkd_lt (B := B) (g := g) (m := m) (p := p)
                have hk2 := tkx_le (B := B) (g := g) (m := m) (p := p) hp9
                have hk3 := tka_le (B := B) (g := g) (m := m) (p := p) hp9 hB.2.2.1
                have hk4 := tkv_ltc (p := p) hB hp9
                have hk5 := tkw_lt (B := B) (g := g) (m := m) (p := p)
                refine lv_if_eq (tgt := 106) hx hb dX0_mayBegin_99 (by decide) (fun _ => ?_) (fun cc => absurd (by decide) cc)
                refine lv_iconst (v := 0) hx hb dX0_mayBegin_106 (by decide) ?_
                exact W.zret (v := 0) hx hb hr rfl (fun t ht hW => ⟨⟨0, (st26, sl27, so28), rfl, ⟨hG, hO, hF, Or.inr (⟨4, (tka B g m p), rfl, by show st26 1 13 = _; rw [hf29], by show st26 1 14 = _; rw [hf30], by omega, bLn_m4 (Or.inl (show tkw B g m p = 6 ∨ tkw B g m p = 7 ∨ tkw B g m p = 8 ∨ tkw B g m p = 5 ∨ tkw B g m p = 12 by omega)) (by omega)⟩)⟩, xB.of ht hP⟩, hS.F ht⟩) hS.2.2 dX0_mayBegin_107
            · have c14 : ¬ (tkw B g m p) = 12 := fun hh => c14 ((EV.eqw hEv (i := (tkw B g m p)) (j := 12) (by omega) (by omega)).mpr hh)
              refine lv_aload_n hx hb dX0_mayBegin_79 rfl (lv_at hl 2 rfl) ?_
              refine lv_iconst (v := 1) hx hb dX0_mayBegin_80 (by decide) ?_
              refine va_calli (va_runV (As := [.int 1]) (rest := []) ⟨hx, hb, hml, hown, hts⟩ (y_X8_refuse l dC dI ad E hEE A C nb _ hN st sl so 1 B g m p (by omega) hG.1 hO.1 (CBt.fr hB hF) hT) (cwV 1 hts gX0_mayBegin_X8_refuse rfl rfl rfl (by decide +kernel) ⟨Nat.le_of_ble_eq_true rfl, Nat.le_of_ble_eq_true rfl⟩) ⟨fun a U g mk q => ⟨q.1, xPre.blind hEE q.2⟩, va_recv hK hP (ci := 9) (q0 := 1) rfl (xw_is (r := 1) (by omega) (xc_fix (r := 1) (by omega))), fun U hU hW => ⟨rfl, xPre.of hEE hP hK hE hS hU hW⟩⟩ rfl rfl hl.1 rfl (lv_room (Nat.le_of_ble_eq_true rfl)) dX0_mayBegin_81 ⟨Nat.le_of_ble_eq_true rfl, Nat.le_of_ble_eq_true rfl⟩) hS (fun q _ h => XA.le hS.1 q h) (XA.le hS.1) (fun r31 x t H locs ht hvm hw hB9 _ _ hS => ?_)
              have hP := xB.at ht hB9
              clear hB9 ht hvm
              obtain ⟨st32, sl33, so34⟩ := x
              obtain ⟨hGst32, hOst32, hFst32, hw⟩ := hw
              dsimp only at hGst32 hOst32 hFst32 hw
              have hO : OG ad [3, 4] so so34 := hO.tr hOst32 (by decide)
              have hP : va_P (dC, dI) vwCl (xw A C nb st32 sl33 so34) _ := hP
              have hG : XG [1, 2, 4, 5, 7, 8, 9, 12, 13, 14, 15] st st32 := hG.tr hGst32 (by decide)
              have hF : FX 6 st sl so st32 sl33 so34 := hF.tr hFst32 (by omega) (by omega)
              have hR : CN c nm st32 sl33 0 := hR.fr0 hFst32
              obtain ⟨rfl, hf35, hf36, hT⟩ := hw
              have hp9 := hT.2.2.2.2.2.2
              have hk1 := tkd_lt (B := B) (g := g) (m := m) (p := p)
              have hk2 := tkx_le (B := B) (g := g) (m := m) (p := p) hp9
              have hk3 := tka_le (B := B) (g := g) (m := m) (p := p) hp9 hB.2.2.1
              have hk4 := tkv_ltc (p := p) hB hp9
              have hk5 := tkw_lt (B := B) (g := g) (m := m) (p := p)
              exact W.zret (v := 0) hx hb hr rfl (fun t ht hW => ⟨⟨0, (st32, sl33, so34), rfl, ⟨hG, hO, hF, Or.inr (⟨1, (tka B g m p), rfl, by show st32 1 13 = _; rw [hf35], by show st32 1 14 = _; rw [hf36], by omega, bLn_1 (show ¬ (tkw B g m p = 6 ∨ tkw B g m p = 7 ∨ tkw B g m p = 8 ∨ tkw B g m p = 5 ∨ tkw B g m p = 12) by omega) (by omega)⟩)⟩, xB.of ht hP⟩, hS.F ht⟩) hS.2.2 dX0_mayBegin_84
  · have c1 : (tkw B g m p) = 24 := (EV.eqw hEv (i := (tkw B g m p)) (j := 24) (by omega) (by omega)).mp c1
    refine lv_aload_n hx hb dX0_mayBegin_12 rfl (lv_at hl 3 rfl) ?_
    refine lv_iconst (v := 2) hx hb dX0_mayBegin_13 (by decide) ?_
    refine lv_aload_n hx hb dX0_mayBegin_14 rfl (lv_at hl 2 rfl) ?_
    refine va_getN (host := "OffTheLead") (D := (dC, dI)) (ci := 9) (v := .long (sl 1 8)) (C := RX8) (T := TX8) (N := 15) hx hb hts ii_X0_mayBegin_X8 hown hK hP 1 (xw_is (r := 1) (by omega) (xc_fix (r := 1) (by omega))) rfl 8 (by decide) (va_Nw.use rfl (nf_X0_57 hEv)) (fun _ hh => hh) rfl dX0_mayBegin_15 ?_
    refine lv_topl (fun z37 ez37 => ?_)
    refine va_calli (va_runV (As := [.int 2, .long z37]) (rest := []) ⟨hx, hb, hml, hown, hts⟩ (y_numberOm2 l dC dI ad E hEE A C nb _ hN st sl so z37 c nm hG.1 hR) (cwV 2 hts gX0_mayBegin_X4_numberOf rfl rfl rfl (by decide +kernel) ⟨Nat.le_of_ble_eq_true rfl, Nat.le_of_ble_eq_true rfl⟩) ⟨fun a U g mk q => ⟨q.1, xPre.blind hEE q.2⟩, va_recv hK hP (ci := 5) (q0 := (36 + 20 * 0)) rfl (xw_is (r := (36 + 20 * 0)) (by omega) (xc_pk (i := 0) (o := 0) (by omega) (by omega))), fun U hU hW => ⟨rfl, xPre.of hEE hP hK hE hS hU hW⟩⟩ rfl rfl hl.1 rfl (lv_room (Nat.le_of_ble_eq_true rfl)) dX0_mayBegin_18 ⟨Nat.le_of_ble_eq_true rfl, Nat.le_of_ble_eq_true rfl⟩) hS (fun q _ h => XA.le hS.1 q h) (XA.le hS.1) (fun r38 x t H locs ht hvm hw hB9 _ _ hS => ?_)
    have hP := xB.at ht hB9
    clear hB9 ht hvm
    obtain ⟨rfl, hw⟩ := hw
    have hP : va_P (dC, dI) vwCl (xw A C nb st sl so) _ := hP
    rcases hw with ⟨rfl, hf39⟩ | ⟨n40, rfl, hf41, hf42⟩
    · refine lv_iconst (v := (-1)) hx hb dX0_mayBegin_21 (by decide) ?_
      refine lv_icmp_ne (tgt := 85) hx hb dX0_mayBegin_22 (by decide) (fun cc => absurd (by decide) cc) (fun _ => ?_)
      refine lv_aload_n hx hb dX0_mayBegin_25 rfl (lv_at hl 3 rfl) ?_
      refine lv_iconst (v := 1) hx hb dX0_mayBegin_26 (by decide) ?_
      refine lv_aload_n hx hb dX0_mayBegin_27 rfl (lv_at hl 2 rfl) ?_
      refine va_getN (host := "OffTheLead") (D := (dC, dI)) (ci := 9) (v := .long (sl 1 8)) (C := RX8) (T := TX8) (N := 15) hx hb hts ii_X0_mayBegin_X8 hown hK hP 1 (xw_is (r := 1) (by omega) (xc_fix (r := 1) (by omega))) rfl 8 (by decide) (va_Nw.use rfl (nf_X0_57 hEv)) (fun _ hh => hh) rfl dX0_mayBegin_28 ?_
      refine lv_topl (fun z43 ez43 => ?_)
      refine va_calli (va_runV (As := [.int 1, .long z43]) (rest := []) ⟨hx, hb, hml, hown, hts⟩ (y_numberOm1 l dC dI ad E hEE A C nb _ hN st sl so z43 c nm hG.1 hR) (cwV 2 hts gX0_mayBegin_X4_numberOf rfl rfl rfl (by decide +kernel) ⟨Nat.le_of_ble_eq_true rfl, Nat.le_of_ble_eq_true rfl⟩) ⟨fun a U g mk q => ⟨q.1, xPre.blind hEE q.2⟩, va_recv hK hP (ci := 5) (q0 := (36 + 20 * 0)) rfl (xw_is (r := (36 + 20 * 0)) (by omega) (xc_pk (i := 0) (o := 0) (by omega) (by omega))), fun U hU hW => ⟨rfl, xPre.of hEE hP hK hE hS hU hW⟩⟩ rfl rfl hl.1 rfl (lv_room (Nat.le_of_ble_eq_true rfl)) dX0_mayBegin_31 ⟨Nat.le_of_ble_eq_true rfl, Nat.le_of_ble_eq_true rfl⟩) hS (fun q _ h => XA.le hS.1 q h) (XA.le hS.1) (fun r44 x t H locs ht hvm hw hB9 _ _ hS => ?_)
      have hP := xB.at ht hB9
      clear hB9 ht hvm
      obtain ⟨rfl, hw⟩ := hw
      have hP : va_P (dC, dI) vwCl (xw A C nb st sl so) _ := hP
      rcases hw with ⟨rfl, hf45⟩ | ⟨n46, rfl, hf47, hf48⟩
      · refine lv_iconst (v := (-1)) hx hb dX0_mayBegin_34 (by decide) ?_
        refine lv_icmp_ne (tgt := 85) hx hb dX0_mayBegin_35 (by decide) (fun cc => absurd (by decide) cc) (fun _ => ?_)
        refine lv_aload_n hx hb dX0_mayBegin_38 rfl (lv_at hl 2 rfl) ?_
        refine lv_iconst (v := 3) hx hb dX0_mayBegin_39 (by decide) ?_
        refine va_calli (va_runV (As := [.int 3]) (rest := []) ⟨hx, hb, hml, hown, hts⟩ (y_X8_refuse l dC dI ad E hEE A C nb _ hN st sl so 3 B g m p (by omega) hG.1 hO.1 (CBt.fr hB hF) hT) (cwV 1 hts gX0_mayBegin_X8_refuse rfl rfl rfl (by decide +kernel) ⟨Nat.le_of_ble_eq_true rfl, Nat.le_of_ble_eq_true rfl⟩) ⟨fun a U g mk q => ⟨q.1, xPre.blind hEE q.2⟩, va_recv hK hP (ci := 9) (q0 := 1) rfl (xw_is (r := 1) (by omega) (xc_fix (r := 1) (by omega))), fun U hU hW => ⟨rfl, xPre.of hEE hP hK hE hS hU hW⟩⟩ rfl rfl hl.1 rfl (lv_room (Nat.le_of_ble_eq_true rfl)) dX0_mayBegin_40 ⟨Nat.le_of_ble_eq_true rfl, Nat.le_of_ble_eq_true rfl⟩) hS (fun q _ h => XA.le hS.1 q h) (XA.le hS.1) (fun r49 x t H locs ht hvm hw hB9 _ _ hS => ?_)
        have hP := xB.at ht hB9
        clear hB9 ht hvm
        obtain ⟨st50, sl51, so52⟩ := x
        obtain ⟨hGst50, hOst50, hFst50, hw⟩ := hw
        dsimp only at hGst50 hOst50 hFst50 hw
        have hO : OG ad [3, 4] so so52 := hO.tr hOst50 (by decide)
        have hP : va_P (dC, dI) vwCl (xw A C nb st50 sl51 so52) _ := hP
        have hG : XG [1, 2, 4, 5, 7, 8, 9, 12, 13, 14, 15] st st50 := hG.tr hGst50 (by decide)
        have hF : FX 6 st sl so st50 sl51 so52 := hF.tr hFst50 (by omega) (by omega)
        have hR : CN c nm st50 sl51 0 := hR.fr0 hFst50
        obtain ⟨rfl, hf53, hf54, hT⟩ := hw
        have hp9 := hT.2.2.2.2.2.2
        have hk1 := tkd_lt (B := B) (g := g) (m := m) (p := p)
        have hk2 := tkx_le (B := B) (g := g) (m := m) (p := p) hp9
        have hk3 := tka_le (B := B) (g := g) (m := m) (p := p) hp9 hB.2.2.1
        have hk4 := tkv_ltc (p := p) hB hp9
        have hk5 := tkw_lt (B := B) (g := g) (m := m) (p := p)
        exact W.zret (v := 0) hx hb hr rfl (fun t ht hW => ⟨⟨0, (st50, sl51, so52), rfl, ⟨hG, hO, hF, Or.inr (⟨3, (tka B g m p), rfl, by show st50 1 13 = _; rw [hf53], by show st50 1 14 = _; rw [hf54], by omega, bLn_3 (show ¬ (tkw B g m p = 6 ∨ tkw B g m p = 7 ∨ tkw B g m p = 8 ∨ tkw B g m p = 5 ∨ tkw B g m p = 12) by omega) (by omega) (knw_f _ (hR0.nk2 (fun i hi => by rw [← (hT0.2.2.2.2.1 (by omega)), ← ez37]; exact hf39 i hi))) (knw_f _ (hR0.nk1 (fun i hi => by rw [← (hT0.2.2.2.2.1 (by omega)), ← ez43]; exact hf45 i hi)))⟩)⟩, xB.of ht hP⟩, hS.F ht⟩) hS.2.2 dX0_mayBegin_43
      · refine lv_iconst (v := (-1)) hx hb dX0_mayBegin_34 (by decide) ?_
        refine lv_icmp_ne (tgt := 85) hx hb dX0_mayBegin_35 (by decide) (fun _ => ?_) (fun cc => absurd cc (nI_nem (by omega)))
        refine lv_aload_n hx hb dX0_mayBegin_85 rfl (lv_at hl 1 rfl) ?_
        refine va_get (D := (dC, dI)) (ci := 1) (v := .int (st 4 5)) (C := RX0) (T := TX0) (N := 7) hx hb hts ii_X0_mayBegin_X0 hown hK hP 4 (xw_is (r := 4) (by omega) (xc_fix (r := 4) (by omega))) rfl 5 (by decide) (hts _ mm_X0_mayBegin_7) (fun _ hh => hh) rfl dX0_mayBegin_86 ?_
        refine zz_top (v := (nI gl)) (by show st 4 5 = _; rw [h5]) ?_
        refine lv_bipush (v := 40) hx hb dX0_mayBegin_89 (by decide) ?_
        refine lv_icmp_lt (tgt := 102) hx hb dX0_mayBegin_91 (by decide) (fun c20 => ?_) (fun c20 => ?_)
        · have c20 : gl < 40 := (nI_ltI (a := gl) (b := 40) (by omega) (by omega)).mp c20
          refine lv_iconst (v := 1) hx hb dX0_mayBegin_102 (by decide) ?_
          refine lv_goto (tgt := 107) hx hb dX0_mayBegin_103 (by decide) ?_
          exact W.zret (v := 1) hx hb hr rfl (fun t ht hW => ⟨⟨1, (st, sl, so), rfl, ⟨hG, hO, hF, Or.inl (⟨rfl, hT, by show st 1 13 = st 1 13; rfl, by show st 4 5 = st 4 5; rfl, by omega, Or.inr ⟨by omega, Or.inr ⟨knw_f _ (hR0.nk2 (fun i hi => by rw [← (hT0.2.2.2.2.1 (by omega)), ← ez37]; exact hf39 i hi)), knw_t (c 1) n46 hf47 (hR0.kn1 hf47 (tkc_V (m := m) (by omega) hB1 (by omega)) (hf48.trans (by rw [ez43]; exact (hT0.2.2.2.2.1 (by omega)))))⟩⟩⟩)⟩, xB.of ht hP⟩, hS.F ht⟩) hS.2.2 dX0_mayBegin_107
        · have c20 : ¬ gl < 40 := fun hh => c20 ((nI_ltI (a := gl) (b := 40) (by omega) (by omega)).mpr hh)
          refine lv_aload_n hx hb dX0_mayBegin_94 rfl (lv_at hl 2 rfl) ?_
          refine lv_iconst (v := 4) hx hb dX0_mayBegin_95 (by decide) ?_
          refine va_calli (va_runV (As := [.int 4]) (rest := []) ⟨hx, hb, hml, hown, hts⟩ (y_X8_refuse l dC dI ad E hEE A C nb _ hN st sl so 4 B g m p (by omega) hG.1 hO.1 (CBt.fr hB hF) hT) (cwV 1 hts gX0_mayBegin_X8_refuse rfl rfl rfl (by decide +kernel) ⟨Nat.le_of_ble_eq_true rfl, Nat.le_of_ble_eq_true rfl⟩) ⟨fun a U g mk q => ⟨q.1, xPre.blind hEE q.2⟩, va_recv hK hP (ci := 9) (q0 := 1) rfl (xw_is (r := 1) (by omega) (xc_fix (r := 1) (by omega))), fun U hU hW => ⟨rfl, xPre.of hEE hP hK hE hS hU hW⟩⟩ rfl rfl hl.1 rfl (lv_room (Nat.le_of_ble_eq_true rfl)) dX0_mayBegin_96 ⟨Nat.le_of_ble_eq_true rfl, Nat.le_of_ble_eq_true rfl⟩) hS (fun q _ h => XA.le hS.1 q h) (XA.le hS.1) (fun r55 x t H locs ht hvm hw hB9 _ _ hS => ?_)
          have hP := xB.at ht hB9
          clear hB9 ht hvm
          obtain ⟨st56, sl57, so58⟩ := x
          obtain ⟨hGst56, hOst56, hFst56, hw⟩ := hw
          dsimp only at hGst56 hOst56 hFst56 hw
          have hO : OG ad [3, 4] so so58 := hO.tr hOst56 (by decide)
          have hP : va_P (dC, dI) vwCl (xw A C nb st56 sl57 so58) _ := hP
          have hG : XG [1, 2, 4, 5, 7, 8, 9, 12, 13, 14, 15] st st56 := hG.tr hGst56 (by decide)
          have hF : FX 6 st sl so st56 sl57 so58 := hF.tr hFst56 (by omega) (by omega)
          have hR : CN c nm st56 sl57 0 := hR.fr0 hFst56
          obtain ⟨rfl, hf59, hf60, hT⟩ := hw
          have hp9 := hT.2.2.2.2.2.2
          have hk1 := tkd_lt (B := B) (g := g) (m := m) (p := p)
          have hk2 := tkx_le (B := B) (g := g) (m := m) (p := p) hp9
          have hk3 := tka_le (B := B) (g := g) (m := m) (p := p) hp9 hB.2.2.1
          have hk4 := tkv_ltc (p := p) hB hp9
          have hk5 := tkw_lt (B := B) (g := g) (m := m) (p := p)
          refine lv_if_eq (tgt := 106) hx hb dX0_mayBegin_99 (by decide) (fun _ => ?_) (fun cc => absurd (by decide) cc)
          refine lv_iconst (v := 0) hx hb dX0_mayBegin_106 (by decide) ?_
          exact W.zret (v := 0) hx hb hr rfl (fun t ht hW => ⟨⟨0, (st56, sl57, so58), rfl, ⟨hG, hO, hF, Or.inr (⟨4, (tka B g m p), rfl, by show st56 1 13 = _; rw [hf59], by show st56 1 14 = _; rw [hf60], by omega, bLn_m4 (Or.inr ⟨by omega, Or.inr ⟨knw_f _ (hR0.nk2 (fun i hi => by rw [← (hT0.2.2.2.2.1 (by omega)), ← ez37]; exact hf39 i hi)), knw_t (c 1) n46 hf47 (hR0.kn1 hf47 (tkc_V (m := m) (by omega) hB1 (by omega)) (hf48.trans (by rw [ez43]; exact (hT0.2.2.2.2.1 (by omega)))))⟩⟩) (by omega)⟩)⟩, xB.of ht hP⟩, hS.F ht⟩) hS.2.2 dX0_mayBegin_107
    · refine lv_iconst (v := (-1)) hx hb dX0_mayBegin_21 (by decide) ?_
      refine lv_icmp_ne (tgt := 85) hx hb dX0_mayBegin_22 (by decide) (fun _ => ?_) (fun cc => absurd cc (nI_nem (by omega)))
      refine lv_aload_n hx hb dX0_mayBegin_85 rfl (lv_at hl 1 rfl) ?_
      refine va_get (D := (dC, dI)) (ci := 1) (v := .int (st 4 5)) (C := RX0) (T := TX0) (N := 7) hx hb hts ii_X0_mayBegin_X0 hown hK hP 4 (xw_is (r := 4) (by omega) (xc_fix (r := 4) (by omega))) rfl 5 (by decide) (hts _ mm_X0_mayBegin_7) (fun _ hh => hh) rfl dX0_mayBegin_86 ?_
      refine zz_top (v := (nI gl)) (by show st 4 5 = _; rw [h5]) ?_
      refine lv_bipush (v := 40) hx hb dX0_mayBegin_89 (by decide) ?_
      refine lv_icmp_lt (tgt := 102) hx hb dX0_mayBegin_91 (by decide) (fun c23 => ?_) (fun c23 => ?_)
      · have c23 : gl < 40 := (nI_ltI (a := gl) (b := 40) (by omega) (by omega)).mp c23
        refine lv_iconst (v := 1) hx hb dX0_mayBegin_102 (by decide) ?_
        refine lv_goto (tgt := 107) hx hb dX0_mayBegin_103 (by decide) ?_
        exact W.zret (v := 1) hx hb hr rfl (fun t ht hW => ⟨⟨1, (st, sl, so), rfl, ⟨hG, hO, hF, Or.inl (⟨rfl, hT, by show st 1 13 = st 1 13; rfl, by show st 4 5 = st 4 5; rfl, by omega, Or.inr ⟨by omega, Or.inl (knw_t (c 2) n40 hf41 (hR0.kn2 hf41 (tkc_V (m := m) (by omega) hB1 (by omega)) (hf42.trans (by rw [ez37]; exact (hT0.2.2.2.2.1 (by omega))))))⟩⟩)⟩, xB.of ht hP⟩, hS.F ht⟩) hS.2.2 dX0_mayBegin_107
      · have c23 : ¬ gl < 40 := fun hh => c23 ((nI_ltI (a := gl) (b := 40) (by omega) (by omega)).mpr hh)
        refine lv_aload_n hx hb dX0_mayBegin_94 rfl (lv_at hl 2 rfl) ?_
        refine lv_iconst (v := 4) hx hb dX0_mayBegin_95 (by decide) ?_
        refine va_calli (va_runV (As := [.int 4]) (rest := []) ⟨hx, hb, hml, hown, hts⟩ (y_X8_refuse l dC dI ad E hEE A C nb _ hN st sl so 4 B g m p (by omega) hG.1 hO.1 (CBt.fr hB hF) hT) (cwV 1 hts gX0_mayBegin_X8_refuse rfl rfl rfl (by decide +kernel) ⟨Nat.le_of_ble_eq_true rfl, Nat.le_of_ble_eq_true rfl⟩) ⟨fun a U g mk q => ⟨q.1, xPre.blind hEE q.2⟩, va_recv hK hP (ci := 9) (q0 := 1) rfl (xw_is (r := 1) (by omega) (xc_fix (r := 1) (by omega))), fun U hU hW => ⟨rfl, xPre.of hEE hP hK hE hS hU hW⟩⟩ rfl rfl hl.1 rfl (lv_room (Nat.le_of_ble_eq_true rfl)) dX0_mayBegin_96 ⟨Nat.le_of_ble_eq_true rfl, Nat.le_of_ble_eq_true rfl⟩) hS (fun q _ h => XA.le hS.1 q h) (XA.le hS.1) (fun r61 x t H locs ht hvm hw hB9 _ _ hS => ?_)
        have hP := xB.at ht hB9
        clear hB9 ht hvm
        obtain ⟨st62, sl63, so64⟩ := x
        obtain ⟨hGst62, hOst62, hFst62, hw⟩ := hw
        dsimp only at hGst62 hOst62 hFst62 hw
        have hO : OG ad [3, 4] so so64 := hO.tr hOst62 (by decide)
        have hP : va_P (dC, dI) vwCl (xw A C nb st62 sl63 so64) _ := hP
        have hG : XG [1, 2, 4, 5, 7, 8, 9, 12, 13, 14, 15] st st62 := hG.tr hGst62 (by decide)
        have hF : FX 6 st sl so st62 sl63 so64 := hF.tr hFst62 (by omega) (by omega)
        have hR : CN c nm st62 sl63 0 := hR.fr0 hFst62
        obtain ⟨rfl, hf65, hf66, hT⟩ := hw
        have hp9 := hT.2.2.2.2.2.2
        have hk1 := tkd_lt (B := B) (g := g) (m := m) (p := p)
        have hk2 := tkx_le (B := B) (g := g) (m := m) (p := p) hp9
        have hk3 := tka_le (B := B) (g := g) (m := m) (p := p) hp9 hB.2.2.1
        have hk4 := tkv_ltc (p := p) hB hp9
        have hk5 := tkw_lt (B := B) (g := g) (m := m) (p := p)
        refine lv_if_eq (tgt := 106) hx hb dX0_mayBegin_99 (by decide) (fun _ => ?_) (fun cc => absurd (by decide) cc)
        refine lv_iconst (v := 0) hx hb dX0_mayBegin_106 (by decide) ?_
        exact W.zret (v := 0) hx hb hr rfl (fun t ht hW => ⟨⟨0, (st62, sl63, so64), rfl, ⟨hG, hO, hF, Or.inr (⟨4, (tka B g m p), rfl, by show st62 1 13 = _; rw [hf65], by show st62 1 14 = _; rw [hf66], by omega, bLn_m4 (Or.inr ⟨by omega, Or.inl (knw_t (c 2) n40 hf41 (hR0.kn2 hf41 (tkc_V (m := m) (by omega) hB1 (by omega)) (hf42.trans (by rw [ez37]; exact (hT0.2.2.2.2.1 (by omega))))))⟩) (by omega)⟩)⟩, xB.of ht hP⟩, hS.F ht⟩) hS.2.2 dX0_mayBegin_107
