set_option maxHeartbeats 4000000 in
set_option maxRecDepth 100000 in
theorem x_X7_plainFits (l : Launch) (dC : Nat → ClassId) (dI : Nat → Nat → Nat) (ad : Nat → Nat) (E : EP) (hEE : EC ad E) (A : Nat → Nat) (C : Nat → ClassId) (nb sz : Nat) (hN : XN A) (st : Nat → Nat → Int32) (sl : Nat → Nat → Int64) (so : Nat → XR) (va : Nat) (vb : Nat) (hva : va < 8) (hvb : vb < 40) (hI : XI st) (hOI : OI ad so) (hsk : so (20 + 4 * 0 + 1) vb = some (ad 18) → ∃ m, m < 8 ∧ st (20 + 4 * 0 + 3) vb = nI m) : Met l yX7_plainFits wsX7_plainFits ({ frames := 4, cells := 0, slots := 0, locals := 87 }) (va_Pc [.ref (A (20 + 4 * 0)), .ref (A (36 + 20 * 0)), .int (nI va), .int (nI vb)] (xPre E dC dI A C nb sz st sl so)) (va_Qi (fun (r : Int32) (x : XT) => x = (st, sl, so) ∧ ((r = 1) ∨ (r = 0))) (xB dC dI A C nb) (XA A sz)) 0 0 (XA A sz) := by
  refine Met.ofW (cc := cX7_plainFits) (maxL := 8) (ret := (some .boolean)) (by decide) rfl ?_
  intro p e s m args below meth c s₁ B hml hv
  obtain ⟨rfl, hsz, hP, hK, hE⟩ := hv
  have hx := B.exec
  have hb := B.bytes
  have hr := B.returns
  have hts := atoms_spec (ws := wsX7_plainFits) B.pre
  have hown : s.vm.findClass RX7 = some m.cls := findClass_of_methodNamed B.named
  subst hsz
  have hEv := hEE.1 _ _ _ hE
  have hS : va_S (XA A s.heap.size) s.heap s.heap [] := va_S.rf
  have hG : XG [1, 2, 3, 4, 5, 6, 7, 8, 9, 10, 11, 12, 13, 14, 15] st st := XG.rf hI
  have hl := lv_entry ([.ref (A (20 + 4 * 0)), .ref (A (36 + 20 * 0)), .int (nI va), .int (nI vb)]) (n := 8) (Nat.le_of_ble_eq_true rfl)
  rw [lg_entry_eq]
  generalize (lg_sl ([.ref (A (20 + 4 * 0)), .ref (A (36 + 20 * 0)), .int (nI va), .int (nI vb)]) ++ List.replicate (8 - (lg_sl ([.ref (A (20 + 4 * 0)), .ref (A (36 + 20 * 0)), .int (nI va), .int (nI vb)])).length) Slot.unset).toArray = ls at hl ⊢
  have hl : lv_has ls 8 [(0, .ref (A (20 + 4 * 0))), (1, .ref (A (36 + 20 * 0))), (2, .int (nI va)), (3, .int (nI vb))] := hl
  refine lv_aload_n hx hb dX7_plainFits_0 rfl (lv_at hl 0 rfl) ?_
  refine va_get (D := (dC, dI)) (ci := 8) (v := .ref (A (20 + 4 * 0 + 1))) (C := RX7) (T := TX7) (N := 5) hx hb hts ii_X7_plainFits_X7 hown hK hP (20 + 4 * 0) (xw_is (r := (20 + 4 * 0)) (by omega) (xc_sn (q := 0) (o := 0) (by omega) (by omega))) rfl 0 (by decide) (hts _ mm_X7_plainFits_1) (fun _ hh => hh) rfl dX7_plainFits_1 ?_
  refine lv_iload_n hx hb dX7_plainFits_4 rfl (lv_at hl 3 rfl) ?_
  refine va_aldq hx hb hK hP (20 + 4 * 0 + 1) (20 + 4 * 0 + 1) (xw_is (r := (20 + 4 * 0 + 1)) (by omega) (xc_sn (q := 0) (o := 1) (by omega) (by omega))) (xt_is (r := (20 + 4 * 0 + 1)) (by omega) ((xty_sn (q := 0) (o := 1) (by omega) (by omega)).trans rfl)) (i := (nI vb)) (vp_in_nI (by omega) (by decide)) dX7_plainFits_5 ?_
  refine zz_topq (r := so (20 + 4 * 0 + 1) vb) (by rw [nI_clamp (by omega)]) ?_
  rcases hOI.1 (20 + 4 * 0 + 1) vb with ej1 | ⟨j1, hj1, ej1⟩
  · refine zz_topq (r := none) (by exact ej1) ?_
    refine lv_astoreN (lv' := [(4, .null), (0, .ref (A (20 + 4 * 0))), (1, .ref (A (36 + 20 * 0))), (2, .int (nI va)), (3, .int (nI vb))]) hx hb dX7_plainFits_6 hl (by decide) rfl (fun ls hl => ?_)
    refine lv_aload_n hx hb dX7_plainFits_8 rfl (lv_at hl 2 rfl) ?_
    refine va_getN (host := "OffTheLead") (D := (dC, dI)) (ci := 5) (v := .ref (A (36 + 20 * 0 + 4))) (C := RX4) (T := TX4) (N := 12) hx hb hts ii_X7_plainFits_X4 hown hK hP (36 + 20 * 0) (xw_is (r := (36 + 20 * 0)) (by omega) (xc_pk (i := 0) (o := 0) (by omega) (by omega))) rfl 3 (by decide) (va_Nw.use rfl (nf_X7_123 hEv)) (fun _ hh => hh) rfl dX7_plainFits_9 ?_
    refine lv_iload_n hx hb dX7_plainFits_12 rfl (lv_at hl 3 rfl) ?_
    refine va_aldq hx hb hK hP (36 + 20 * 0 + 4) (36 + 20 * 0 + 4) (xw_is (r := (36 + 20 * 0 + 4)) (by omega) (xc_pk (i := 0) (o := 4) (by omega) (by omega))) (xt_is (r := (36 + 20 * 0 + 4)) (by omega) ((xty_pk (i := 0) (o := 4) (by omega)).trans rfl)) (i := (nI va)) (vp_in_nI (by omega) (by decide)) dX7_plainFits_13 ?_
    refine zz_topq (r := some (A (36 + 20 * 0 + (6 + va)))) (by rw [nI_clamp (by omega)]; exact congrArg some (congrArg A (by omega))) ?_
    refine lv_astore (lv' := [(5, .ref (A (36 + 20 * 0 + (6 + va)))), (4, .null), (0, .ref (A (20 + 4 * 0))), (1, .ref (A (36 + 20 * 0))), (2, .int (nI va)), (3, .int (nI vb))]) hx hb dX7_plainFits_14 hl (by decide) rfl (fun ls hl => ?_)
    refine lv_aload_n hx hb dX7_plainFits_16 rfl (lv_at hl 2 rfl) ?_
    refine va_get (D := (dC, dI)) (ci := 8) (v := .ref (A (20 + 4 * 0 + 3))) (C := RX7) (T := TX7) (N := 5) hx hb hts ii_X7_plainFits_X7 hown hK hP (20 + 4 * 0) (xw_is (r := (20 + 4 * 0)) (by omega) (xc_sn (q := 0) (o := 0) (by omega) (by omega))) rfl 2 (by decide) (hts _ mm_X7_plainFits_2) (fun _ hh => hh) rfl dX7_plainFits_17 ?_
    refine lv_iload_n hx hb dX7_plainFits_20 rfl (lv_at hl 5 rfl) ?_
    refine va_iald hx hb hK hP (20 + 4 * 0 + 3) (20 + 4 * 0 + 3) (xw_is (r := (20 + 4 * 0 + 3)) (by omega) (xc_sn (q := 0) (o := 3) (by omega) (by omega))) (xt_is (r := (20 + 4 * 0 + 3)) (by omega) ((xty_sn (q := 0) (o := 3) (by omega) (by omega)).trans rfl)) (i := (nI vb)) (vp_in_nI (by omega) (by decide)) dX7_plainFits_21 ?_
    obtain ⟨z2, ez2⟩ : ∃ y : Int32, st (20 + 4 * 0 + 3) vb = y := ⟨_, rfl⟩
    refine zz_top (v := z2) (by rw [nI_clamp (by omega)]; exact ez2) ?_
    refine lv_istore (lv' := [(6, .int z2), (5, .ref (A (36 + 20 * 0 + (6 + va)))), (4, .null), (0, .ref (A (20 + 4 * 0))), (1, .ref (A (36 + 20 * 0))), (2, .int (nI va)), (3, .int (nI vb))]) hx hb dX7_plainFits_22 hl (by decide) rfl (fun ls hl => ?_)
    refine lv_aloadN hx hb dX7_plainFits_24 (lv_at hl 2 rfl) ?_
    refine va_gets (v := .ref (ad 16)) hx hb (EV.word hEv (i := 16) (by decide)) hS hown (hts _ mm_X7_plainFits_3) (fun _ hh => hh) dX7_plainFits_26 ?_
    refine lv_acmp_ne (rx := none) (ry := (some (ad 16))) (tgt := 46) hx hb dX7_plainFits_29 (by decide) (fun _ => ?_) (fun hh => nomatch hh)
    refine lv_aloadN hx hb dX7_plainFits_46 (lv_at hl 2 rfl) ?_
    refine va_gets (v := .ref (ad 17)) hx hb (EV.word hEv (i := 17) (by decide)) hS hown (hts _ mm_X7_plainFits_4) (fun _ hh => hh) dX7_plainFits_48 ?_
    refine lv_acmp_ne (rx := none) (ry := (some (ad 17))) (tgt := 68) hx hb dX7_plainFits_51 (by decide) (fun _ => ?_) (fun hh => nomatch hh)
    refine lv_aloadN hx hb dX7_plainFits_68 (lv_at hl 2 rfl) ?_
    refine va_gets (v := .ref (ad 18)) hx hb (EV.word hEv (i := 18) (by decide)) hS hown (hts _ mm_X7_plainFits_5) (fun _ hh => hh) dX7_plainFits_70 ?_
    refine lv_acmp_ne (rx := none) (ry := (some (ad 18))) (tgt := 98) hx hb dX7_plainFits_73 (by decide) (fun _ => ?_) (fun hh => nomatch hh)
    refine lv_aloadN hx hb dX7_plainFits_98 (lv_at hl 2 rfl) ?_
    refine va_gets (v := .ref (ad 19)) hx hb (EV.word hEv (i := 19) (by decide)) hS hown (hts _ mm_X7_plainFits_6) (fun _ hh => hh) dX7_plainFits_100 ?_
    refine lv_acmp_ne (rx := none) (ry := (some (ad 19))) (tgt := 122) hx hb dX7_plainFits_103 (by decide) (fun _ => ?_) (fun hh => nomatch hh)
    refine lv_aloadN hx hb dX7_plainFits_122 (lv_at hl 2 rfl) ?_
    refine va_gets (v := .ref (ad 20)) hx hb (EV.word hEv (i := 20) (by decide)) hS hown (hts _ mm_X7_plainFits_7) (fun _ hh => hh) dX7_plainFits_124 ?_
    refine lv_acmp_ne (rx := none) (ry := (some (ad 20))) (tgt := 147) hx hb dX7_plainFits_127 (by decide) (fun _ => ?_) (fun hh => nomatch hh)
    refine lv_aloadN hx hb dX7_plainFits_147 (lv_at hl 2 rfl) ?_
    refine va_gets (v := .ref (ad 21)) hx hb (EV.word hEv (i := 21) (by decide)) hS hown (hts _ mm_X7_plainFits_9) (fun _ hh => hh) dX7_plainFits_149 ?_
    refine lv_acmp_ne (rx := none) (ry := (some (ad 21))) (tgt := 172) hx hb dX7_plainFits_152 (by decide) (fun _ => ?_) (fun hh => nomatch hh)
    refine lv_aloadN hx hb dX7_plainFits_172 (lv_at hl 2 rfl) ?_
    refine va_gets (v := .ref (ad 22)) hx hb (EV.word hEv (i := 22) (by decide)) hS hown (hts _ mm_X7_plainFits_10) (fun _ hh => hh) dX7_plainFits_174 ?_
    refine lv_acmp_ne (rx := none) (ry := (some (ad 22))) (tgt := 193) hx hb dX7_plainFits_177 (by decide) (fun _ => ?_) (fun hh => nomatch hh)
    refine lv_iload_n hx hb dX7_plainFits_193 rfl (lv_at hl 5 rfl) ?_
    refine lv_istore (lv' := [(7, .int (nI va)), (6, .int z2), (5, .ref (A (36 + 20 * 0 + (6 + va)))), (4, .null), (0, .ref (A (20 + 4 * 0))), (1, .ref (A (36 + 20 * 0))), (2, .int (nI va)), (3, .int (nI vb))]) hx hb dX7_plainFits_194 hl (by decide) rfl (fun ls hl => ?_)
    refine lv_iload hx hb dX7_plainFits_196 (lv_at hl 0 rfl) ?_
    refine lv_aload_n hx hb dX7_plainFits_198 rfl (lv_at hl 4 rfl) ?_
    refine va_get (D := (dC, dI)) (ci := 8) (v := .ref (A (20 + 4 * 0 + 2))) (C := RX7) (T := TX7) (N := 5) hx hb hts ii_X7_plainFits_X7 hown hK hP (20 + 4 * 0) (xw_is (r := (20 + 4 * 0)) (by omega) (xc_sn (q := 0) (o := 0) (by omega) (by omega))) rfl 1 (by decide) (hts _ mm_X7_plainFits_8) (fun _ hh => hh) rfl dX7_plainFits_199 ?_
    refine lv_iload_n hx hb dX7_plainFits_202 rfl (lv_at hl 7 rfl) ?_
    refine va_iald hx hb hK hP (20 + 4 * 0 + 2) (20 + 4 * 0 + 2) (xw_is (r := (20 + 4 * 0 + 2)) (by omega) (xc_sn (q := 0) (o := 2) (by omega) (by omega))) (xt_is (r := (20 + 4 * 0 + 2)) (by omega) ((xty_sn (q := 0) (o := 2) (by omega) (by omega)).trans rfl)) (i := (nI vb)) (vp_in_nI (by omega) (by decide)) dX7_plainFits_203 ?_
    obtain ⟨z3, ez3⟩ : ∃ y : Int32, st (20 + 4 * 0 + 2) vb = y := ⟨_, rfl⟩
    refine zz_top (v := z3) (by rw [nI_clamp (by omega)]; exact ez3) ?_
    refine lv_iload hx hb dX7_plainFits_204 (lv_at hl 1 rfl) ?_
    refine va_calli (va_runS (As := [.int (nI va), .int z3, .int z2]) (rest := []) ⟨hx, hb, hml, hown, hts⟩ (x_X7_compares l dC dI ad E hEE A C nb _ hN st sl so (nI va) z3 z2  hG.1) (va_cwS 3 hts gX7_plainFits_X7_compares rfl rfl rfl (by decide +kernel) ⟨Nat.le_of_ble_eq_true rfl, Nat.le_of_ble_eq_true rfl⟩) ⟨fun a U g mk q => ⟨q.1, xPre.blind hEE q.2⟩, fun U hU hW => ⟨rfl, xPre.of hEE hP hK hE hS hU hW⟩⟩ rfl rfl hl.1 rfl (lv_room (Nat.le_of_ble_eq_true rfl)) dX7_plainFits_206 ⟨Nat.le_of_ble_eq_true rfl, Nat.le_of_ble_eq_true rfl⟩) hS (fun q _ h => XA.le hS.1 q h) (XA.le hS.1) (fun r4 x t H locs ht hvm hw hB _ _ hS => ?_)
    have hP := xB.at ht hB
    clear hB ht hvm
    obtain ⟨rfl, hw⟩ := hw
    have hP : va_P (dC, dI) vwCl (xw A C nb st sl so) _ := hP
    rcases hw with rfl | rfl
    · exact W.zret (v := 1) hx hb hr rfl (fun t ht hW => ⟨⟨1, (st, sl, so), rfl, ⟨rfl, Or.inl (rfl)⟩, xB.of ht hP⟩, hS.F ht⟩) hS.2.2 dX7_plainFits_209
    · exact W.zret (v := 0) hx hb hr rfl (fun t ht hW => ⟨⟨0, (st, sl, so), rfl, ⟨rfl, Or.inr (rfl)⟩, xB.of ht hP⟩, hS.F ht⟩) hS.2.2 dX7_plainFits_209
  · refine zz_topq (r := (some (ad j1))) (by exact ej1) ?_
    refine lv_astore (lv' := [(4, .ref (ad j1)), (0, .ref (A (20 + 4 * 0))), (1, .ref (A (36 + 20 * 0))), (2, .int (nI va)), (3, .int (nI vb))]) hx hb dX7_plainFits_6 hl (by decide) rfl (fun ls hl => ?_)
    refine lv_aload_n hx hb dX7_plainFits_8 rfl (lv_at hl 2 rfl) ?_
    refine va_getN (host := "OffTheLead") (D := (dC, dI)) (ci := 5) (v := .ref (A (36 + 20 * 0 + 4))) (C := RX4) (T := TX4) (N := 12) hx hb hts ii_X7_plainFits_X4 hown hK hP (36 + 20 * 0) (xw_is (r := (36 + 20 * 0)) (by omega) (xc_pk (i := 0) (o := 0) (by omega) (by omega))) rfl 3 (by decide) (va_Nw.use rfl (nf_X7_123 hEv)) (fun _ hh => hh) rfl dX7_plainFits_9 ?_
    refine lv_iload_n hx hb dX7_plainFits_12 rfl (lv_at hl 3 rfl) ?_
    refine va_aldq hx hb hK hP (36 + 20 * 0 + 4) (36 + 20 * 0 + 4) (xw_is (r := (36 + 20 * 0 + 4)) (by omega) (xc_pk (i := 0) (o := 4) (by omega) (by omega))) (xt_is (r := (36 + 20 * 0 + 4)) (by omega) ((xty_pk (i := 0) (o := 4) (by omega)).trans rfl)) (i := (nI va)) (vp_in_nI (by omega) (by decide)) dX7_plainFits_13 ?_
    refine zz_topq (r := some (A (36 + 20 * 0 + (6 + va)))) (by rw [nI_clamp (by omega)]; exact congrArg some (congrArg A (by omega))) ?_
    refine lv_astore (lv' := [(5, .ref (A (36 + 20 * 0 + (6 + va)))), (4, .ref (ad j1)), (0, .ref (A (20 + 4 * 0))), (1, .ref (A (36 + 20 * 0))), (2, .int (nI va)), (3, .int (nI vb))]) hx hb dX7_plainFits_14 hl (by decide) rfl (fun ls hl => ?_)
    refine lv_aload_n hx hb dX7_plainFits_16 rfl (lv_at hl 2 rfl) ?_
    refine va_get (D := (dC, dI)) (ci := 8) (v := .ref (A (20 + 4 * 0 + 3))) (C := RX7) (T := TX7) (N := 5) hx hb hts ii_X7_plainFits_X7 hown hK hP (20 + 4 * 0) (xw_is (r := (20 + 4 * 0)) (by omega) (xc_sn (q := 0) (o := 0) (by omega) (by omega))) rfl 2 (by decide) (hts _ mm_X7_plainFits_2) (fun _ hh => hh) rfl dX7_plainFits_17 ?_
    refine lv_iload_n hx hb dX7_plainFits_20 rfl (lv_at hl 5 rfl) ?_
    refine va_iald hx hb hK hP (20 + 4 * 0 + 3) (20 + 4 * 0 + 3) (xw_is (r := (20 + 4 * 0 + 3)) (by omega) (xc_sn (q := 0) (o := 3) (by omega) (by omega))) (xt_is (r := (20 + 4 * 0 + 3)) (by omega) ((xty_sn (q := 0) (o := 3) (by omega) (by omega)).trans rfl)) (i := (nI vb)) (vp_in_nI (by omega) (by decide)) dX7_plainFits_21 ?_
    obtain ⟨z5, ez5⟩ : ∃ y : Int32, st (20 + 4 * 0 + 3) vb = y := ⟨_, rfl⟩
    refine zz_top (v := z5) (by rw [nI_clamp (by omega)]; exact ez5) ?_
    refine lv_istore (lv' := [(6, .int z5), (5, .ref (A (36 + 20 * 0 + (6 + va)))), (4, .ref (ad j1)), (0, .ref (A (20 + 4 * 0))), (1, .ref (A (36 + 20 * 0))), (2, .int (nI va)), (3, .int (nI vb))]) hx hb dX7_plainFits_22 hl (by decide) rfl (fun ls hl => ?_)
    refine lv_aload hx hb dX7_plainFits_24 (lv_at hl 2 rfl) ?_
    refine va_gets (v := .ref (ad 16)) hx hb (EV.word hEv (i := 16) (by decide)) hS hown (hts _ mm_X7_plainFits_3) (fun _ hh => hh) dX7_plainFits_26 ?_
    refine lv_acmp_ne (rx := (some (ad j1))) (ry := (some (ad 16))) (tgt := 46) hx hb dX7_plainFits_29 (by decide) (fun c8 => ?_) (fun c8 => ?_)
    · have c8 : ¬ j1 = 16 := fun hh => c8 ((EV.eqw hEv (i := j1) (j := 16) (by omega) (by omega)).mpr hh)
      refine lv_aload hx hb dX7_plainFits_46 (lv_at hl 2 rfl) ?_
      refine va_gets (v := .ref (ad 17)) hx hb (EV.word hEv (i := 17) (by decide)) hS hown (hts _ mm_X7_plainFits_4) (fun _ hh => hh) dX7_plainFits_48 ?_
      refine lv_acmp_ne (rx := (some (ad j1))) (ry := (some (ad 17))) (tgt := 68) hx hb dX7_plainFits_51 (by decide) (fun c9 => ?_) (fun c9 => ?_)
      · have c9 : ¬ j1 = 17 := fun hh => c9 ((EV.eqw hEv (i := j1) (j := 17) (by omega) (by omega)).mpr hh)
        refine lv_aload hx hb dX7_plainFits_68 (lv_at hl 2 rfl) ?_
        refine va_gets (v := .ref (ad 18)) hx hb (EV.word hEv (i := 18) (by decide)) hS hown (hts _ mm_X7_plainFits_5) (fun _ hh => hh) dX7_plainFits_70 ?_
        refine lv_acmp_ne (rx := (some (ad j1))) (ry := (some (ad 18))) (tgt := 98) hx hb dX7_plainFits_73 (by decide) (fun c10 => ?_) (fun c10 => ?_)
        · have c10 : ¬ j1 = 18 := fun hh => c10 ((EV.eqw hEv (i := j1) (j := 18) (by omega) (by omega)).mpr hh)
          refine lv_aload hx hb dX7_plainFits_98 (lv_at hl 2 rfl) ?_
          refine va_gets (v := .ref (ad 19)) hx hb (EV.word hEv (i := 19) (by decide)) hS hown (hts _ mm_X7_plainFits_6) (fun _ hh => hh) dX7_plainFits_100 ?_
          refine lv_acmp_ne (rx := (some (ad j1))) (ry := (some (ad 19))) (tgt := 122) hx hb dX7_plainFits_103 (by decide) (fun c11 => ?_) (fun c11 => ?_)
          · have c11 : ¬ j1 = 19 := fun hh => c11 ((EV.eqw hEv (i := j1) (j := 19) (by omega) (by omega)).mpr hh)
            refine lv_aload hx hb dX7_plainFits_122 (lv_at hl 2 rfl) ?_
            refine va_gets (v := .ref (ad 20)) hx hb (EV.word hEv (i := 20) (by decide)) hS hown (hts _ mm_X7_plainFits_7) (fun _ hh => hh) dX7_plainFits_124 ?_
            refine lv_acmp_ne (rx := (some (ad j1))) (ry := (some (ad 20))) (tgt := 147) hx hb dX7_plainFits_127 (by decide) (fun c12 => ?_) (fun c12 => ?_)
            · have c12 : ¬ j1 = 20 := fun hh => c12 ((EV.eqw hEv (i := j1) (j := 20) (by omega) (by omega)).mpr hh)
              refine lv_aload hx hb dX7_plainFits_147 (lv_at hl 2 rfl) ?_
              refine va_gets (v := .ref (ad 21)) hx hb (EV.word hEv (i := 21) (by decide)) hS hown (hts _ mm_X7_plainFits_9) (fun _ hh => hh) dX7_plainFits_149 ?_
              refine lv_acmp_ne (rx := (some (ad j1))) (ry := (some (ad 21))) (tgt := 172) hx hb dX7_plainFits_152 (by decide) (fun c13 => ?_) (fun c13 => ?_)
              · have c13 : ¬ j1 = 21 := fun hh => c13 ((EV.eqw hEv (i := j1) (j := 21) (by omega) (by omega)).mpr hh)
                refine lv_aload hx hb dX7_plainFits_172 (lv_at hl 2 rfl) ?_
                refine va_gets (v := .ref (ad 22)) hx hb (EV.word hEv (i := 22) (by decide)) hS hown (hts _ mm_X7_plainFits_10) (fun _ hh => hh) dX7_plainFits_174 ?_
                refine lv_acmp_ne (rx := (some (ad j1))) (ry := (some (ad 22))) (tgt := 193) hx hb dX7_plainFits_177 (by decide) (fun c14 => ?_) (fun c14 => ?_)
                · have c14 : ¬ j1 = 22 := fun hh => c14 ((EV.eqw hEv (i := j1) (j := 22) (by omega) (by omega)).mpr hh)
                  refine lv_iload_n hx hb dX7_plainFits_193 rfl (lv_at hl 5 rfl) ?_
                  refine lv_istore (lv' := [(7, .int (nI va)), (6, .int z5), (5, .ref (A (36 + 20 * 0 + (6 + va)))), (4, .ref (ad j1)), (0, .ref (A (20 + 4 * 0))), (1, .ref (A (36 + 20 * 0))), (2, .int (nI va)), (3, .int (nI vb))]) hx hb dX7_plainFits_194 hl (by decide) rfl (fun ls hl => ?_)
                  refine lv_iload hx hb dX7_plainFits_196 (lv_at hl 0 rfl) ?_
                  refine lv_aload_n hx hb dX7_plainFits_198 rfl (lv_at hl 4 rfl) ?_
                  refine va_get (D := (dC, dI)) (ci := 8) (v := .ref (A (20 + 4 * 0 + 2))) (C := RX7) (T := TX7) (N := 5) hx hb hts ii_X7_plainFits_X7 hown hK hP (20 + 4 * 0) (xw_is (r := (20 + 4 * 0)) (by omega) (xc_sn (q := 0) (o := 0) (by omega) (by omega))) rfl 1 (by decide) (hts _ mm_X7_plainFits_8) (fun _ hh => hh) rfl dX7_plainFits_199 ?_
                  refine lv_iload_n hx hb dX7_plainFits_202 rfl (lv_at hl 7 rfl) ?_
                  refine va_iald hx hb hK hP (20 + 4 * 0 + 2) (20 + 4 * 0 + 2) (xw_is (r := (20 + 4 * 0 + 2)) (by omega) (xc_sn (q := 0) (o := 2) (by omega) (by omega))) (xt_is (r := (20 + 4 * 0 + 2)) (by omega) ((xty_sn (q := 0) (o := 2) (by omega) (by omega)).trans rfl)) (i := (nI vb)) (vp_in_nI (by omega) (by decide)) dX7_plainFits_203 ?_
                  obtain ⟨z6, ez6⟩ : ∃ y : Int32, st (20 + 4 * 0 + 2) vb = y := ⟨_, rfl⟩
                  refine zz_top (v := z6) (by rw [nI_clamp (by omega)]; exact ez6) ?_
                  refine lv_iload hx hb dX7_plainFits_204 (lv_at hl 1 rfl) ?_
                  refine va_calli (va_runS (As := [.int (nI va), .int z6, .int z5]) (rest := []) ⟨hx, hb, hml, hown, hts⟩ (x_X7_compares l dC dI ad E hEE A C nb _ hN st sl so (nI va) z6 z5  hG.1) (va_cwS 3 hts gX7_plainFits_X7_compares rfl rfl rfl (by decide +kernel) ⟨Nat.le_of_ble_eq_true rfl, Nat.le_of_ble_eq_true rfl⟩) ⟨fun a U g mk q => ⟨q.1, xPre.blind hEE q.2⟩, fun U hU hW => ⟨rfl, xPre.of hEE hP hK hE hS hU hW⟩⟩ rfl rfl hl.1 rfl (lv_room (Nat.le_of_ble_eq_true rfl)) dX7_plainFits_206 ⟨Nat.le_of_ble_eq_true rfl, Nat.le_of_ble_eq_true rfl⟩) hS (fun q _ h => XA.le hS.1 q h) (XA.le hS.1) (fun r7 x t H locs ht hvm hw hB _ _ hS => ?_)
                  have hP := xB.at ht hB
                  clear hB ht hvm
                  obtain ⟨rfl, hw⟩ := hw
                  have hP : va_P (dC, dI) vwCl (xw A C nb st sl so) _ := hP
                  rcases hw with rfl | rfl
                  · exact W.zret (v := 1) hx hb hr rfl (fun t ht hW => ⟨⟨1, (st, sl, so), rfl, ⟨rfl, Or.inl (rfl)⟩, xB.of ht hP⟩, hS.F ht⟩) hS.2.2 dX7_plainFits_209
                  · exact W.zret (v := 0) hx hb hr rfl (fun t ht hW => ⟨⟨0, (st, sl, so), rfl, ⟨rfl, Or.inr (rfl)⟩, xB.of ht hP⟩, hS.F ht⟩) hS.2.2 dX7_plainFits_209
                · have c14 : j1 = 22 := (EV.eqw hEv (i := j1) (j := 22) (by omega) (by omega)).mp c14
                  refine lv_aload_n hx hb dX7_plainFits_180 rfl (lv_at hl 4 rfl) ?_
                  refine lv_iload_n hx hb dX7_plainFits_181 rfl (lv_at hl 5 rfl) ?_
                  refine lv_aload hx hb dX7_plainFits_182 (lv_at hl 1 rfl) ?_
                  refine va_getN (host := "OffTheLead") (D := (dC, dI)) (ci := 7) (v := .int (st (36 + 20 * 0 + (6 + va)) 1)) (C := RX6) (T := TX6) (N := 9) hx hb hts ii_X7_plainFits_X6 hown hK hP (36 + 20 * 0 + (6 + va)) (xw_is (r := (36 + 20 * 0 + (6 + va))) (by omega) (xc_person (i := 0) (p := va) (by omega) (by omega))) rfl 1 (by decide) (va_Nw.use rfl (nf_X7_141 hEv)) (fun _ hh => hh) rfl dX7_plainFits_184 ?_
                  obtain ⟨n8, hn8, en8⟩ := hG.1.at (r := (36 + 20 * 0 + (6 + va))) (k := 1) (b := 5) ((xrg_pe (i := 0) (p := va) (by omega)).trans (by decide)) (by decide)
                  refine zz_top (v := nI n8) (by exact en8) ?_
                  refine va_calli (va_runV (As := [.int (nI va), .int (nI n8)]) (rest := []) ⟨hx, hb, hml, hown, hts⟩ (x_X4_goodOf l dC dI ad E hEE A C nb _ hN st sl so 0 va n8 (by omega) (by omega) (by omega) hG.1) (cwV 2 hts gX7_plainFits_X4_goodOf rfl rfl rfl (by decide +kernel) ⟨Nat.le_of_ble_eq_true rfl, Nat.le_of_ble_eq_true rfl⟩) ⟨fun a U g mk q => ⟨q.1, xPre.blind hEE q.2⟩, va_recv hK hP (ci := 5) (q0 := (36 + 20 * 0)) rfl (xw_is (r := (36 + 20 * 0)) (by omega) (xc_pk (i := 0) (o := 0) (by omega) (by omega))), fun U hU hW => ⟨rfl, xPre.of hEE hP hK hE hS hU hW⟩⟩ rfl rfl hl.1 rfl (lv_room (Nat.le_of_ble_eq_true rfl)) dX7_plainFits_187 ⟨Nat.le_of_ble_eq_true rfl, Nat.le_of_ble_eq_true rfl⟩) hS (fun q _ h => XA.le hS.1 q h) (XA.le hS.1) (fun r9 x t H locs ht hvm hw hB _ _ hS => ?_)
                  have hP := xB.at ht hB
                  clear hB ht hvm
                  obtain ⟨rfl, hw⟩ := hw
                  have hP : va_P (dC, dI) vwCl (xw A C nb st sl so) _ := hP
                  clear hw
                  refine lv_goto (tgt := 194) hx hb dX7_plainFits_190 (by decide) ?_
                  refine lv_istore (lv' := [(7, .int r9), (6, .int z5), (5, .ref (A (36 + 20 * 0 + (6 + va)))), (4, .ref (ad j1)), (0, .ref (A (20 + 4 * 0))), (1, .ref (A (36 + 20 * 0))), (2, .int (nI va)), (3, .int (nI vb))]) hx hb dX7_plainFits_194 hl (by decide) rfl (fun ls hl => ?_)
                  refine lv_iload hx hb dX7_plainFits_196 (lv_at hl 0 rfl) ?_
                  refine lv_aload_n hx hb dX7_plainFits_198 rfl (lv_at hl 4 rfl) ?_
                  refine va_get (D := (dC, dI)) (ci := 8) (v := .ref (A (20 + 4 * 0 + 2))) (C := RX7) (T := TX7) (N := 5) hx hb hts ii_X7_plainFits_X7 hown hK hP (20 + 4 * 0) (xw_is (r := (20 + 4 * 0)) (by omega) (xc_sn (q := 0) (o := 0) (by omega) (by omega))) rfl 1 (by decide) (hts _ mm_X7_plainFits_8) (fun _ hh => hh) rfl dX7_plainFits_199 ?_
                  refine lv_iload_n hx hb dX7_plainFits_202 rfl (lv_at hl 7 rfl) ?_
                  refine va_iald hx hb hK hP (20 + 4 * 0 + 2) (20 + 4 * 0 + 2) (xw_is (r := (20 + 4 * 0 + 2)) (by omega) (xc_sn (q := 0) (o := 2) (by omega) (by omega))) (xt_is (r := (20 + 4 * 0 + 2)) (by omega) ((xty_sn (q := 0) (o := 2) (by omega) (by omega)).trans rfl)) (i := (nI vb)) (vp_in_nI (by omega) (by decide)) dX7_plainFits_203 ?_
                  obtain ⟨z10, ez10⟩ : ∃ y : Int32, st (20 + 4 * 0 + 2) vb = y := ⟨_, rfl⟩
                  refine zz_top (v := z10) (by rw [nI_clamp (by omega)]; exact ez10) ?_
                  refine lv_iload hx hb dX7_plainFits_204 (lv_at hl 1 rfl) ?_
                  refine va_calli (va_runS (As := [.int r9, .int z10, .int z5]) (rest := []) ⟨hx, hb, hml, hown, hts⟩ (x_X7_compares l dC dI ad E hEE A C nb _ hN st sl so r9 z10 z5  hG.1) (va_cwS 3 hts gX7_plainFits_X7_compares rfl rfl rfl (by decide +kernel) ⟨Nat.le_of_ble_eq_true rfl, Nat.le_of_ble_eq_true rfl⟩) ⟨fun a U g mk q => ⟨q.1, xPre.blind hEE q.2⟩, fun U hU hW => ⟨rfl, xPre.of hEE hP hK hE hS hU hW⟩⟩ rfl rfl hl.1 rfl (lv_room (Nat.le_of_ble_eq_true rfl)) dX7_plainFits_206 ⟨Nat.le_of_ble_eq_true rfl, Nat.le_of_ble_eq_true rfl⟩) hS (fun q _ h => XA.le hS.1 q h) (XA.le hS.1) (fun r11 x t H locs ht hvm hw hB _ _ hS => ?_)
                  have hP := xB.at ht hB
                  clear hB ht hvm
                  obtain ⟨rfl, hw⟩ := hw
                  have hP : va_P (dC, dI) vwCl (xw A C nb st sl so) _ := hP
                  rcases hw with rfl | rfl
                  · exact W.zret (v := 1) hx hb hr rfl (fun t ht hW => ⟨⟨1, (st, sl, so), rfl, ⟨rfl, Or.inl (rfl)⟩, xB.of ht hP⟩, hS.F ht⟩) hS.2.2 dX7_plainFits_209
                  · exact W.zret (v := 0) hx hb hr rfl (fun t ht hW => ⟨⟨0, (st, sl, so), rfl, ⟨rfl, Or.inr (rfl)⟩, xB.of ht hP⟩, hS.F ht⟩) hS.2.2 dX7_plainFits_209
              · have c13 : j1 = 21 := (EV.eqw hEv (i := j1) (j := 21) (by omega) (by omega)).mp c13
                refine lv_aload hx hb dX7_plainFits_155 (lv_at hl 1 rfl) ?_
                refine va_getN (host := "OffTheLead") (D := (dC, dI)) (ci := 7) (v := .int (st (36 + 20 * 0 + (6 + va)) 7)) (C := RX6) (T := TX6) (N := 9) hx hb hts ii_X7_plainFits_X6 hown hK hP (36 + 20 * 0 + (6 + va)) (xw_is (r := (36 + 20 * 0 + (6 + va))) (by omega) (xc_person (i := 0) (p := va) (by omega) (by omega))) rfl 7 (by decide) (va_Nw.use rfl (nf_X7_151 hEv)) (fun _ hh => hh) rfl dX7_plainFits_157 ?_
                obtain ⟨z12, ez12⟩ : ∃ y : Int32, st (36 + 20 * 0 + (6 + va)) 7 = y := ⟨_, rfl⟩
                refine zz_top (v := z12) (by exact ez12) ?_
                refine lv_aload_n hx hb dX7_plainFits_160 rfl (lv_at hl 3 rfl) ?_
                refine va_get (D := (dC, dI)) (ci := 8) (v := .ref (A (20 + 4 * 0 + 2))) (C := RX7) (T := TX7) (N := 5) hx hb hts ii_X7_plainFits_X7 hown hK hP (20 + 4 * 0) (xw_is (r := (20 + 4 * 0)) (by omega) (xc_sn (q := 0) (o := 0) (by omega) (by omega))) rfl 1 (by decide) (hts _ mm_X7_plainFits_8) (fun _ hh => hh) rfl dX7_plainFits_161 ?_
                refine lv_iload_n hx hb dX7_plainFits_164 rfl (lv_at hl 6 rfl) ?_
                refine va_iald hx hb hK hP (20 + 4 * 0 + 2) (20 + 4 * 0 + 2) (xw_is (r := (20 + 4 * 0 + 2)) (by omega) (xc_sn (q := 0) (o := 2) (by omega) (by omega))) (xt_is (r := (20 + 4 * 0 + 2)) (by omega) ((xty_sn (q := 0) (o := 2) (by omega) (by omega)).trans rfl)) (i := (nI vb)) (vp_in_nI (by omega) (by decide)) dX7_plainFits_165 ?_
                obtain ⟨z13, ez13⟩ : ∃ y : Int32, st (20 + 4 * 0 + 2) vb = y := ⟨_, rfl⟩
                refine zz_top (v := z13) (by rw [nI_clamp (by omega)]; exact ez13) ?_
                refine lv_iload hx hb dX7_plainFits_166 (lv_at hl 0 rfl) ?_
                refine va_calli (va_runS (As := [.int z12, .int z13, .int z5]) (rest := []) ⟨hx, hb, hml, hown, hts⟩ (x_X7_compares l dC dI ad E hEE A C nb _ hN st sl so z12 z13 z5  hG.1) (va_cwS 3 hts gX7_plainFits_X7_compares rfl rfl rfl (by decide +kernel) ⟨Nat.le_of_ble_eq_true rfl, Nat.le_of_ble_eq_true rfl⟩) ⟨fun a U g mk q => ⟨q.1, xPre.blind hEE q.2⟩, fun U hU hW => ⟨rfl, xPre.of hEE hP hK hE hS hU hW⟩⟩ rfl rfl hl.1 rfl (lv_room (Nat.le_of_ble_eq_true rfl)) dX7_plainFits_168 ⟨Nat.le_of_ble_eq_true rfl, Nat.le_of_ble_eq_true rfl⟩) hS (fun q _ h => XA.le hS.1 q h) (XA.le hS.1) (fun r14 x t H locs ht hvm hw hB _ _ hS => ?_)
                have hP := xB.at ht hB
                clear hB ht hvm
                obtain ⟨rfl, hw⟩ := hw
                have hP : va_P (dC, dI) vwCl (xw A C nb st sl so) _ := hP
                rcases hw with rfl | rfl
                · exact W.zret (v := 1) hx hb hr rfl (fun t ht hW => ⟨⟨1, (st, sl, so), rfl, ⟨rfl, Or.inl (rfl)⟩, xB.of ht hP⟩, hS.F ht⟩) hS.2.2 dX7_plainFits_171
                · exact W.zret (v := 0) hx hb hr rfl (fun t ht hW => ⟨⟨0, (st, sl, so), rfl, ⟨rfl, Or.inr (rfl)⟩, xB.of ht hP⟩, hS.F ht⟩) hS.2.2 dX7_plainFits_171
            · have c12 : j1 = 20 := (EV.eqw hEv (i := j1) (j := 20) (by omega) (by omega)).mp c12
              refine lv_aload hx hb dX7_plainFits_130 (lv_at hl 1 rfl) ?_
              refine va_getN (host := "OffTheLead") (D := (dC, dI)) (ci := 7) (v := .int (st (36 + 20 * 0 + (6 + va)) 6)) (C := RX6) (T := TX6) (N := 9) hx hb hts ii_X7_plainFits_X6 hown hK hP (36 + 20 * 0 + (6 + va)) (xw_is (r := (36 + 20 * 0 + (6 + va))) (by omega) (xc_person (i := 0) (p := va) (by omega) (by omega))) rfl 6 (by decide) (va_Nw.use rfl (nf_X7_144 hEv)) (fun _ hh => hh) rfl dX7_plainFits_132 ?_
              obtain ⟨z15, ez15⟩ : ∃ y : Int32, st (36 + 20 * 0 + (6 + va)) 6 = y := ⟨_, rfl⟩
              refine zz_top (v := z15) (by exact ez15) ?_
              refine lv_aload_n hx hb dX7_plainFits_135 rfl (lv_at hl 3 rfl) ?_
              refine va_get (D := (dC, dI)) (ci := 8) (v := .ref (A (20 + 4 * 0 + 2))) (C := RX7) (T := TX7) (N := 5) hx hb hts ii_X7_plainFits_X7 hown hK hP (20 + 4 * 0) (xw_is (r := (20 + 4 * 0)) (by omega) (xc_sn (q := 0) (o := 0) (by omega) (by omega))) rfl 1 (by decide) (hts _ mm_X7_plainFits_8) (fun _ hh => hh) rfl dX7_plainFits_136 ?_
              refine lv_iload_n hx hb dX7_plainFits_139 rfl (lv_at hl 6 rfl) ?_
              refine va_iald hx hb hK hP (20 + 4 * 0 + 2) (20 + 4 * 0 + 2) (xw_is (r := (20 + 4 * 0 + 2)) (by omega) (xc_sn (q := 0) (o := 2) (by omega) (by omega))) (xt_is (r := (20 + 4 * 0 + 2)) (by omega) ((xty_sn (q := 0) (o := 2) (by omega) (by omega)).trans rfl)) (i := (nI vb)) (vp_in_nI (by omega) (by decide)) dX7_plainFits_140 ?_
              obtain ⟨z16, ez16⟩ : ∃ y : Int32, st (20 + 4 * 0 + 2) vb = y := ⟨_, rfl⟩
              refine zz_top (v := z16) (by rw [nI_clamp (by omega)]; exact ez16) ?_
              refine lv_iload hx hb dX7_plainFits_141 (lv_at hl 0 rfl) ?_
              refine va_calli (va_runS (As := [.int z15, .int z16, .int z5]) (rest := []) ⟨hx, hb, hml, hown, hts⟩ (x_X7_compares l dC dI ad E hEE A C nb _ hN st sl so z15 z16 z5  hG.1) (va_cwS 3 hts gX7_plainFits_X7_compares rfl rfl rfl (by decide +kernel) ⟨Nat.le_of_ble_eq_true rfl, Nat.le_of_ble_eq_true rfl⟩) ⟨fun a U g mk q => ⟨q.1, xPre.blind hEE q.2⟩, fun U hU hW => ⟨rfl, xPre.of hEE hP hK hE hS hU hW⟩⟩ rfl rfl hl.1 rfl (lv_room (Nat.le_of_ble_eq_true rfl)) dX7_plainFits_143 ⟨Nat.le_of_ble_eq_true rfl, Nat.le_of_ble_eq_true rfl⟩) hS (fun q _ h => XA.le hS.1 q h) (XA.le hS.1) (fun r17 x t H locs ht hvm hw hB _ _ hS => ?_)
              have hP := xB.at ht hB
              clear hB ht hvm
              obtain ⟨rfl, hw⟩ := hw
              have hP : va_P (dC, dI) vwCl (xw A C nb st sl so) _ := hP
              rcases hw with rfl | rfl
              · exact W.zret (v := 1) hx hb hr rfl (fun t ht hW => ⟨⟨1, (st, sl, so), rfl, ⟨rfl, Or.inl (rfl)⟩, xB.of ht hP⟩, hS.F ht⟩) hS.2.2 dX7_plainFits_146
              · exact W.zret (v := 0) hx hb hr rfl (fun t ht hW => ⟨⟨0, (st, sl, so), rfl, ⟨rfl, Or.inr (rfl)⟩, xB.of ht hP⟩, hS.F ht⟩) hS.2.2 dX7_plainFits_146
          · have c11 : j1 = 19 := (EV.eqw hEv (i := j1) (j := 19) (by omega) (by omega)).mp c11
            refine lv_aload hx hb dX7_plainFits_106 (lv_at hl 1 rfl) ?_
            refine va_getN (host := "OffTheLead") (D := (dC, dI)) (ci := 7) (v := .int (st (36 + 20 * 0 + (6 + va)) 1)) (C := RX6) (T := TX6) (N := 9) hx hb hts ii_X7_plainFits_X6 hown hK hP (36 + 20 * 0 + (6 + va)) (xw_is (r := (36 + 20 * 0 + (6 + va))) (by omega) (xc_person (i := 0) (p := va) (by omega) (by omega))) rfl 1 (by decide) (va_Nw.use rfl (nf_X7_141 hEv)) (fun _ hh => hh) rfl dX7_plainFits_108 ?_
            obtain ⟨n18, hn18, en18⟩ := hG.1.at (r := (36 + 20 * 0 + (6 + va))) (k := 1) (b := 5) ((xrg_pe (i := 0) (p := va) (by omega)).trans (by decide)) (by decide)
            refine zz_top (v := nI n18) (by exact en18) ?_
            refine lv_iload hx hb dX7_plainFits_111 (lv_at hl 0 rfl) ?_
            refine lv_icmp_ne (tgt := 120) hx hb dX7_plainFits_113 (by decide) (fun c15 => ?_) (fun c15 => ?_)
            · refine lv_iconst (v := 0) hx hb dX7_plainFits_120 (by decide) ?_
              exact W.zret (v := 0) hx hb hr rfl (fun t ht hW => ⟨⟨0, (st, sl, so), rfl, ⟨rfl, Or.inr (rfl)⟩, xB.of ht hP⟩, hS.F ht⟩) hS.2.2 dX7_plainFits_121
            · refine lv_iconst (v := 1) hx hb dX7_plainFits_116 (by decide) ?_
              refine lv_goto (tgt := 121) hx hb dX7_plainFits_117 (by decide) ?_
              exact W.zret (v := 1) hx hb hr rfl (fun t ht hW => ⟨⟨1, (st, sl, so), rfl, ⟨rfl, Or.inl (rfl)⟩, xB.of ht hP⟩, hS.F ht⟩) hS.2.2 dX7_plainFits_121
        · have c10 : j1 = 18 := (EV.eqw hEv (i := j1) (j := 18) (by omega) (by omega)).mp c10
          obtain ⟨m19, hm19, em19⟩ := hsk (by rw [ej1, c10])
          obtain rfl : z5 = nI m19 := ez5.symm.trans em19
          refine lv_iload_n hx hb dX7_plainFits_76 rfl (lv_at hl 5 rfl) ?_
          refine lv_iload hx hb dX7_plainFits_77 (lv_at hl 0 rfl) ?_
          refine lv_icmp_eq (tgt := 96) hx hb dX7_plainFits_79 (by decide) (fun c16 => ?_) (fun c16 => ?_)
          · have c16 : va = m19 := (nI_eq (a := va) (b := m19) (by omega) (by omega)).mp c16
            refine lv_iconst (v := 0) hx hb dX7_plainFits_96 (by decide) ?_
            exact W.zret (v := 0) hx hb hr rfl (fun t ht hW => ⟨⟨0, (st, sl, so), rfl, ⟨rfl, Or.inr (rfl)⟩, xB.of ht hP⟩, hS.F ht⟩) hS.2.2 dX7_plainFits_97
          · have c16 : ¬ va = m19 := fun hh => c16 ((nI_eq (a := va) (b := m19) (by omega) (by omega)).mpr hh)
            refine lv_aload_n hx hb dX7_plainFits_82 rfl (lv_at hl 4 rfl) ?_
            refine lv_iload_n hx hb dX7_plainFits_83 rfl (lv_at hl 5 rfl) ?_
            refine lv_iload hx hb dX7_plainFits_84 (lv_at hl 0 rfl) ?_
            refine va_calli (va_runV (As := [.int (nI va), .int (nI m19)]) (rest := []) ⟨hx, hb, hml, hown, hts⟩ (x_X4_meetingHours l dC dI ad E hEE A C nb _ hN st sl so 0 va m19 (by omega) (by omega) (by omega) hG.1) (cwV 2 hts gX7_plainFits_X4_meetingHours rfl rfl rfl (by decide +kernel) ⟨Nat.le_of_ble_eq_true rfl, Nat.le_of_ble_eq_true rfl⟩) ⟨fun a U g mk q => ⟨q.1, xPre.blind hEE q.2⟩, va_recv hK hP (ci := 5) (q0 := (36 + 20 * 0)) rfl (xw_is (r := (36 + 20 * 0)) (by omega) (xc_pk (i := 0) (o := 0) (by omega) (by omega))), fun U hU hW => ⟨rfl, xPre.of hEE hP hK hE hS hU hW⟩⟩ rfl rfl hl.1 rfl (lv_room (Nat.le_of_ble_eq_true rfl)) dX7_plainFits_86 ⟨Nat.le_of_ble_eq_true rfl, Nat.le_of_ble_eq_true rfl⟩) hS (fun q _ h => XA.le hS.1 q h) (XA.le hS.1) (fun r20 x t H locs ht hvm hw hB _ _ hS => ?_)
            have hP := xB.at ht hB
            clear hB ht hvm
            obtain ⟨rfl, hw⟩ := hw
            have hP : va_P (dC, dI) vwCl (xw A C nb st sl so) _ := hP
            clear hw
            refine lv_if_eq (tgt := 96) hx hb dX7_plainFits_89 (by decide) (fun c17 => ?_) (fun c17 => ?_)
            · refine lv_iconst (v := 0) hx hb dX7_plainFits_96 (by decide) ?_
              exact W.zret (v := 0) hx hb hr rfl (fun t ht hW => ⟨⟨0, (st, sl, so), rfl, ⟨rfl, Or.inr (rfl)⟩, xB.of ht hP⟩, hS.F ht⟩) hS.2.2 dX7_plainFits_97
            · refine lv_iconst (v := 1) hx hb dX7_plainFits_92 (by decide) ?_
              refine lv_goto (tgt := 97) hx hb dX7_plainFits_93 (by decide) ?_
              exact W.zret (v := 1) hx hb hr rfl (fun t ht hW => ⟨⟨1, (st, sl, so), rfl, ⟨rfl, Or.inl (rfl)⟩, xB.of ht hP⟩, hS.F ht⟩) hS.2.2 dX7_plainFits_97
      · have c9 : j1 = 17 := (EV.eqw hEv (i := j1) (j := 17) (by omega) (by omega)).mp c9
        refine lv_aload hx hb dX7_plainFits_54 (lv_at hl 1 rfl) ?_
        refine va_getN (host := "OffTheLead") (D := (dC, dI)) (ci := 7) (v := .int (st (36 + 20 * 0 + (6 + va)) 8)) (C := RX6) (T := TX6) (N := 9) hx hb hts ii_X7_plainFits_X6 hown hK hP (36 + 20 * 0 + (6 + va)) (xw_is (r := (36 + 20 * 0 + (6 + va))) (by omega) (xc_person (i := 0) (p := va) (by omega) (by omega))) rfl 8 (by decide) (va_Nw.use rfl (nf_X7_134 hEv)) (fun _ hh => hh) rfl dX7_plainFits_56 ?_
        obtain ⟨z21, ez21⟩ : ∃ y : Int32, st (36 + 20 * 0 + (6 + va)) 8 = y := ⟨_, rfl⟩
        refine zz_top (v := z21) (by exact ez21) ?_
        refine lv_if_eq (tgt := 66) hx hb dX7_plainFits_59 (by decide) (fun c18 => ?_) (fun c18 => ?_)
        · refine lv_iconst (v := 0) hx hb dX7_plainFits_66 (by decide) ?_
          exact W.zret (v := 0) hx hb hr rfl (fun t ht hW => ⟨⟨0, (st, sl, so), rfl, ⟨rfl, Or.inr (rfl)⟩, xB.of ht hP⟩, hS.F ht⟩) hS.2.2 dX7_plainFits_67
        · refine lv_iconst (v := 1) hx hb dX7_plainFits_62 (by decide) ?_
          refine lv_goto (tgt := 67) hx hb dX7_plainFits_63 (by decide) ?_
          exact W.zret (v := 1) hx hb hr rfl (fun t ht hW => ⟨⟨1, (st, sl, so), rfl, ⟨rfl, Or.inl (rfl)⟩, xB.of ht hP⟩, hS.F ht⟩) hS.2.2 dX7_plainFits_67
    · have c8 : j1 = 16 := (EV.eqw hEv (i := j1) (j := 16) (by omega) (by omega)).mp c8
      refine lv_aload hx hb dX7_plainFits_32 (lv_at hl 1 rfl) ?_
      refine va_getN (host := "OffTheLead") (D := (dC, dI)) (ci := 7) (v := .int (st (36 + 20 * 0 + (6 + va)) 5)) (C := RX6) (T := TX6) (N := 9) hx hb hts ii_X7_plainFits_X6 hown hK hP (36 + 20 * 0 + (6 + va)) (xw_is (r := (36 + 20 * 0 + (6 + va))) (by omega) (xc_person (i := 0) (p := va) (by omega) (by omega))) rfl 5 (by decide) (va_Nw.use rfl (nf_X7_129 hEv)) (fun _ hh => hh) rfl dX7_plainFits_34 ?_
      obtain ⟨z22, ez22⟩ : ∃ y : Int32, st (36 + 20 * 0 + (6 + va)) 5 = y := ⟨_, rfl⟩
      refine zz_top (v := z22) (by exact ez22) ?_
      refine lv_if_le (tgt := 44) hx hb dX7_plainFits_37 (by decide) (fun c19 => ?_) (fun c19 => ?_)
      · refine lv_iconst (v := 0) hx hb dX7_plainFits_44 (by decide) ?_
        exact W.zret (v := 0) hx hb hr rfl (fun t ht hW => ⟨⟨0, (st, sl, so), rfl, ⟨rfl, Or.inr (rfl)⟩, xB.of ht hP⟩, hS.F ht⟩) hS.2.2 dX7_plainFits_45
      · refine lv_iconst (v := 1) hx hb dX7_plainFits_40 (by decide) ?_
        refine lv_goto (tgt := 45) hx hb dX7_plainFits_41 (by decide) ?_
        exact W.zret (v := 1) hx hb hr rfl (fun t ht hW => ⟨⟨1, (st, sl, so), rfl, ⟨rfl, Or.inl (rfl)⟩, xB.of ht hP⟩, hS.F ht⟩) hS.2.2 dX7_plainFits_45
set_option maxHeartbeats 4000000 in
set_option maxRecDepth 100000 in
theorem x_X7_fits (l : Launch) (dC : Nat → ClassId) (dI : Nat → Nat → Nat) (ad : Nat → Nat) (E : EP) (hEE : EC ad E) (A : Nat → Nat) (C : Nat → ClassId) (nb sz : Nat) (hN : XN A) (st : Nat → Nat → Int32) (sl : Nat → Nat → Int64) (so : Nat → XR) (va : Nat) (hva : va < 8) (hI : XI st) (hOI : OI ad so) (hsk : SKs ad st so 0) : Met l yX7_fits wsX7_fits ({ frames := 5, cells := 0, slots := 0, locals := 114 }) (va_Pc [.ref (A (20 + 4 * 0)), .ref (A (36 + 20 * 0)), .int (nI va)] (xPre E dC dI A C nb sz st sl so)) (va_Qi (fun (r : Int32) (x : XT) => x = (st, sl, so) ∧ ((r = 1) ∨ (r = 0))) (xB dC dI A C nb) (XA A sz)) 0 0 (XA A sz) := by
  refine Met.ofW (cc := cX7_fits) (maxL := 6) (ret := (some .boolean)) (by decide) rfl ?_
  intro p e s m args below meth c s₁ B hml hv
  obtain ⟨rfl, hsz, hP, hK, hE⟩ := hv
  have hx := B.exec
  have hb := B.bytes
  have hr := B.returns
  have hts := atoms_spec (ws := wsX7_fits) B.pre
  have hown : s.vm.findClass RX7 = some m.cls := findClass_of_methodNamed B.named
  subst hsz
  have hEv := hEE.1 _ _ _ hE
  have hS : va_S (XA A s.heap.size) s.heap s.heap [] := va_S.rf
  have hG : XG [1, 2, 3, 4, 5, 6, 7, 8, 9, 10, 11, 12, 13, 14, 15] st st := XG.rf hI
  have hl := lv_entry ([.ref (A (20 + 4 * 0)), .ref (A (36 + 20 * 0)), .int (nI va)]) (n := 6) (Nat.le_of_ble_eq_true rfl)
  rw [lg_entry_eq]
  generalize (lg_sl ([.ref (A (20 + 4 * 0)), .ref (A (36 + 20 * 0)), .int (nI va)]) ++ List.replicate (6 - (lg_sl ([.ref (A (20 + 4 * 0)), .ref (A (36 + 20 * 0)), .int (nI va)])).length) Slot.unset).toArray = ls at hl ⊢
  have hl : lv_has ls 6 [(0, .ref (A (20 + 4 * 0))), (1, .ref (A (36 + 20 * 0))), (2, .int (nI va))] := hl
  refine lv_iconst (v := 0) hx hb dX7_fits_0 (by decide) ?_
  refine lv_istore_n (lv' := [(3, .int 0), (0, .ref (A (20 + 4 * 0))), (1, .ref (A (36 + 20 * 0))), (2, .int (nI va))]) hx hb dX7_fits_1 rfl hl (by decide) rfl (fun ls hl => ?_)
  refine lv_iconst (v := 0) hx hb dX7_fits_2 (by decide) ?_
  refine lv_istore (lv' := [(4, .int 0), (3, .int 0), (0, .ref (A (20 + 4 * 0))), (1, .ref (A (36 + 20 * 0))), (2, .int (nI va))]) hx hb dX7_fits_3 hl (by decide) rfl (fun ls hl => ?_)
  refine zz_wf (fun n stk H locs ls => ∃ k1 : Nat, ∃ z2 : Int32, n = 41 - k1 ∧ 0 ≤ k1 ∧ k1 < 41 ∧ va_P (dC, dI) vwCl (xw A C nb st sl so) H ∧ va_S (XA A s.heap.size) s.heap H locs ∧ lv_has ls 6 [(4, .int (nI k1)), (3, .int z2), (0, .ref (A (20 + 4 * 0))), (1, .ref (A (36 + 20 * 0))), (2, .int (nI va))] ∧ stk = []) ?_ (41 - 0) _ _ _ _ ⟨0, 0, rfl, by omega, by omega, hP, hS, lv_sub hl [0, 1, 2, 3, 4] rfl, rfl⟩
  rintro nn stk H locs ls ⟨k1, z2, hm4, hv3_0, hv4_1, hP, hS, hl, rfl⟩ ih5
  refine lv_iload hx hb dX7_fits_5 (lv_at hl 0 rfl) ?_
  refine lv_aload_n hx hb dX7_fits_7 rfl (lv_at hl 2 rfl) ?_
  refine va_get (D := (dC, dI)) (ci := 8) (v := .int (st (20 + 4 * 0) 3)) (C := RX7) (T := TX7) (N := 5) hx hb hts ii_X7_fits_X7 hown hK hP (20 + 4 * 0) (xw_is (r := (20 + 4 * 0)) (by omega) (xc_sn (q := 0) (o := 0) (by omega) (by omega))) rfl 3 (by decide) (hts _ mm_X7_fits_1) (fun _ hh => hh) rfl dX7_fits_8 ?_
  obtain ⟨n6, hn6, en6⟩ := hG.1.at (r := (20 + 4 * 0)) (k := 3) (b := 41) ((xrg_sn (q := 0) (o := 0) (by omega) (by omega)).trans (by first | rfl | decide)) (by decide)
  refine zz_top (v := nI n6) (by exact en6) ?_
  refine lv_icmp_ge (tgt := 122) hx hb dX7_fits_11 (by decide) (fun c1 => ?_) (fun c1 => ?_)
  · have c1 : n6 ≤ k1 := (nI_leI (a := n6) (b := k1) (by omega) (by omega)).mp c1
    refine lv_iload_n hx hb dX7_fits_122 rfl (lv_at hl 1 rfl) ?_
    refine lv_iconst (v := 1) hx hb dX7_fits_123 (by decide) ?_
    refine lv_iand hx hb dX7_fits_124 ?_
    refine lv_topi (fun z7 ez7 => ?_)
    clear ez7
    refine lv_iconst (v := 1) hx hb dX7_fits_125 (by decide) ?_
    refine lv_icmp_ne (tgt := 133) hx hb dX7_fits_126 (by decide) (fun c2 => ?_) (fun c2 => ?_)
    · refine lv_iconst (v := 0) hx hb dX7_fits_133 (by decide) ?_
      exact W.zret (v := 0) hx hb hr rfl (fun t ht hW => ⟨⟨0, (st, sl, so), rfl, ⟨rfl, Or.inr (rfl)⟩, xB.of ht hP⟩, hS.F ht⟩) hS.2.2 dX7_fits_134
    · refine lv_iconst (v := 1) hx hb dX7_fits_129 (by decide) ?_
      refine lv_goto (tgt := 134) hx hb dX7_fits_130 (by decide) ?_
      exact W.zret (v := 1) hx hb hr rfl (fun t ht hW => ⟨⟨1, (st, sl, so), rfl, ⟨rfl, Or.inl (rfl)⟩, xB.of ht hP⟩, hS.F ht⟩) hS.2.2 dX7_fits_134
  · have c1 : ¬ n6 ≤ k1 := fun hh => c1 ((nI_leI (a := n6) (b := k1) (by omega) (by omega)).mpr hh)
    refine lv_iload_n hx hb dX7_fits_14 rfl (lv_at hl 1 rfl) ?_
    refine lv_iconst (v := 1) hx hb dX7_fits_15 (by decide) ?_
    refine lv_iand hx hb dX7_fits_16 ?_
    refine lv_topi (fun z8 ez8 => ?_)
    clear ez8
    refine lv_istore (lv' := [(5, .int z8), (4, .int (nI k1)), (3, .int z2), (0, .ref (A (20 + 4 * 0))), (1, .ref (A (36 + 20 * 0))), (2, .int (nI va))]) hx hb dX7_fits_17 hl (by decide) rfl (fun ls hl => ?_)
    refine lv_aload_n hx hb dX7_fits_19 rfl (lv_at hl 3 rfl) ?_
    refine va_get (D := (dC, dI)) (ci := 8) (v := .ref (A (20 + 4 * 0 + 1))) (C := RX7) (T := TX7) (N := 5) hx hb hts ii_X7_fits_X7 hown hK hP (20 + 4 * 0) (xw_is (r := (20 + 4 * 0)) (by omega) (xc_sn (q := 0) (o := 0) (by omega) (by omega))) rfl 0 (by decide) (hts _ mm_X7_fits_2) (fun _ hh => hh) rfl dX7_fits_20 ?_
    refine lv_iload hx hb dX7_fits_23 (lv_at hl 1 rfl) ?_
    refine va_aldq hx hb hK hP (20 + 4 * 0 + 1) (20 + 4 * 0 + 1) (xw_is (r := (20 + 4 * 0 + 1)) (by omega) (xc_sn (q := 0) (o := 1) (by omega) (by omega))) (xt_is (r := (20 + 4 * 0 + 1)) (by omega) ((xty_sn (q := 0) (o := 1) (by omega) (by omega)).trans rfl)) (i := (nI k1)) (vp_in_nI (by omega) (by decide)) dX7_fits_25 ?_
    refine zz_topq (r := so (20 + 4 * 0 + 1) k1) (by rw [nI_clamp (by omega)]) ?_
    rcases hOI.1 (20 + 4 * 0 + 1) k1 with ej9 | ⟨j9, hj9, ej9⟩
    · refine zz_topq (r := none) (by exact ej9) ?_
      refine va_gets (v := .ref (ad 15)) hx hb (EV.word hEv (i := 15) (by decide)) hS hown (hts _ mm_X7_fits_3) (fun _ hh => hh) dX7_fits_26 ?_
      refine lv_acmp_ne (rx := none) (ry := (some (ad 15))) (tgt := 39) hx hb dX7_fits_29 (by decide) (fun _ => ?_) (fun hh => nomatch hh)
      refine lv_aload_n hx hb dX7_fits_39 rfl (lv_at hl 3 rfl) ?_
      refine va_get (D := (dC, dI)) (ci := 8) (v := .ref (A (20 + 4 * 0 + 1))) (C := RX7) (T := TX7) (N := 5) hx hb hts ii_X7_fits_X7 hown hK hP (20 + 4 * 0) (xw_is (r := (20 + 4 * 0)) (by omega) (xc_sn (q := 0) (o := 0) (by omega) (by omega))) rfl 0 (by decide) (hts _ mm_X7_fits_2) (fun _ hh => hh) rfl dX7_fits_40 ?_
      refine lv_iload hx hb dX7_fits_43 (lv_at hl 1 rfl) ?_
      refine va_aldq hx hb hK hP (20 + 4 * 0 + 1) (20 + 4 * 0 + 1) (xw_is (r := (20 + 4 * 0 + 1)) (by omega) (xc_sn (q := 0) (o := 1) (by omega) (by omega))) (xt_is (r := (20 + 4 * 0 + 1)) (by omega) ((xty_sn (q := 0) (o := 1) (by omega) (by omega)).trans rfl)) (i := (nI k1)) (vp_in_nI (by omega) (by decide)) dX7_fits_45 ?_
      refine zz_topq (r := so (20 + 4 * 0 + 1) k1) (by rw [nI_clamp (by omega)]) ?_
      refine zz_topq (r := none) (by rw [ej9]) ?_
      refine va_gets (v := .ref (ad 14)) hx hb (EV.word hEv (i := 14) (by decide)) hS hown (hts _ mm_X7_fits_4) (fun _ hh => hh) dX7_fits_46 ?_
      refine lv_acmp_ne (rx := none) (ry := (some (ad 14))) (tgt := 72) hx hb dX7_fits_49 (by decide) (fun _ => ?_) (fun hh => nomatch hh)
      refine lv_aload_n hx hb dX7_fits_72 rfl (lv_at hl 3 rfl) ?_
      refine va_get (D := (dC, dI)) (ci := 8) (v := .ref (A (20 + 4 * 0 + 1))) (C := RX7) (T := TX7) (N := 5) hx hb hts ii_X7_fits_X7 hown hK hP (20 + 4 * 0) (xw_is (r := (20 + 4 * 0)) (by omega) (xc_sn (q := 0) (o := 0) (by omega) (by omega))) rfl 0 (by decide) (hts _ mm_X7_fits_2) (fun _ hh => hh) rfl dX7_fits_73 ?_
      refine lv_iload hx hb dX7_fits_76 (lv_at hl 1 rfl) ?_
      refine va_aldq hx hb hK hP (20 + 4 * 0 + 1) (20 + 4 * 0 + 1) (xw_is (r := (20 + 4 * 0 + 1)) (by omega) (xc_sn (q := 0) (o := 1) (by omega) (by omega))) (xt_is (r := (20 + 4 * 0 + 1)) (by omega) ((xty_sn (q := 0) (o := 1) (by omega) (by omega)).trans rfl)) (i := (nI k1)) (vp_in_nI (by omega) (by decide)) dX7_fits_78 ?_
      refine zz_topq (r := so (20 + 4 * 0 + 1) k1) (by rw [nI_clamp (by omega)]) ?_
      refine zz_topq (r := none) (by rw [ej9]) ?_
      refine va_gets (v := .ref (ad 13)) hx hb (EV.word hEv (i := 13) (by decide)) hS hown (hts _ mm_X7_fits_5) (fun _ hh => hh) dX7_fits_79 ?_
      refine lv_acmp_ne (rx := none) (ry := (some (ad 13))) (tgt := 95) hx hb dX7_fits_82 (by decide) (fun _ => ?_) (fun hh => nomatch hh)
      refine lv_iload_n hx hb dX7_fits_95 rfl (lv_at hl 2 rfl) ?_
      refine lv_iconst (v := 1) hx hb dX7_fits_96 (by decide) ?_
      refine lv_ishl hx hb dX7_fits_97 ?_
      refine lv_topi (fun z10 ez10 => ?_)
      clear ez10
      refine lv_aload_n hx hb dX7_fits_98 rfl (lv_at hl 3 rfl) ?_
      refine lv_aload_n hx hb dX7_fits_99 rfl (lv_at hl 4 rfl) ?_
      refine lv_iload_n hx hb dX7_fits_100 rfl (lv_at hl 5 rfl) ?_
      refine lv_iload hx hb dX7_fits_101 (lv_at hl 1 rfl) ?_
      refine va_calli (va_runV (As := [.ref (A (36 + 20 * 0)), .int (nI va), .int (nI k1)]) (rest := [.int z10]) ⟨hx, hb, hml, hown, hts⟩ (x_X7_plainFits l dC dI ad E hEE A C nb _ hN st sl so va k1 (by omega) (by omega) hG.1 hOI (fun h9 => hsk n6 _ en6 (by omega) (by omega) h9)) (cwV 3 hts gX7_fits_X7_plainFits rfl rfl rfl (by decide +kernel) ⟨Nat.le_of_ble_eq_true rfl, Nat.le_of_ble_eq_true rfl⟩) ⟨fun a U g mk q => ⟨q.1, xPre.blind hEE q.2⟩, va_recv hK hP (ci := 8) (q0 := (20 + 4 * 0)) rfl (xw_is (r := (20 + 4 * 0)) (by omega) (xc_sn (q := 0) (o := 0) (by omega) (by omega))), fun U hU hW => ⟨rfl, xPre.of hEE hP hK hE hS hU hW⟩⟩ rfl rfl hl.1 rfl (lv_room (Nat.le_of_ble_eq_true rfl)) dX7_fits_103 ⟨Nat.le_of_ble_eq_true rfl, Nat.le_of_ble_eq_true rfl⟩) hS (fun q _ h => XA.le hS.1 q h) (XA.le hS.1) (fun r11 x t H locs ht hvm hw hB _ _ hS => ?_)
      have hP := xB.at ht hB
      clear hB ht hvm
      obtain ⟨rfl, hw⟩ := hw
      have hP : va_P (dC, dI) vwCl (xw A C nb st sl so) _ := hP
      rcases hw with rfl | rfl
      · refine lv_if_eq (tgt := 113) hx hb dX7_fits_106 (by decide) (fun cc => absurd cc (by decide)) (fun _ => ?_)
        refine lv_iconst (v := 1) hx hb dX7_fits_109 (by decide) ?_
        refine lv_goto (tgt := 114) hx hb dX7_fits_110 (by decide) ?_
        refine lv_ior hx hb dX7_fits_114 ?_
        refine lv_topi (fun z12 ez12 => ?_)
        clear ez12
        refine lv_istore_n (lv' := [(3, .int z12), (5, .int z8), (4, .int (nI k1)), (0, .ref (A (20 + 4 * 0))), (1, .ref (A (36 + 20 * 0))), (2, .int (nI va))]) hx hb dX7_fits_115 rfl hl (by decide) rfl (fun ls hl => ?_)
        refine lv_iinc (v := (nI (k1 + 1))) (lv' := [(4, .int (nI (k1 + 1))), (3, .int z12), (5, .int z8), (0, .ref (A (20 + 4 * 0))), (1, .ref (A (36 + 20 * 0))), (2, .int (nI va))]) hx hb dX7_fits_116 hl (k := 2) rfl (nI_add k1 1) (by decide) rfl (fun ls hl => ?_)
        refine lv_goto (tgt := 5) hx hb dX7_fits_119 (by decide) ?_
        exact ih5 (41 - (k1 + 1)) _ _ _ _ (by omega) ⟨(k1 + 1), z12, rfl, by omega, by omega, hP, hS, lv_sub hl [0, 1, 3, 4, 5] rfl, rfl⟩
      · refine lv_if_eq (tgt := 113) hx hb dX7_fits_106 (by decide) (fun _ => ?_) (fun cc => absurd (by decide) cc)
        refine lv_iconst (v := 0) hx hb dX7_fits_113 (by decide) ?_
        refine lv_ior hx hb dX7_fits_114 ?_
        refine lv_topi (fun z13 ez13 => ?_)
        clear ez13
        refine lv_istore_n (lv' := [(3, .int z13), (5, .int z8), (4, .int (nI k1)), (0, .ref (A (20 + 4 * 0))), (1, .ref (A (36 + 20 * 0))), (2, .int (nI va))]) hx hb dX7_fits_115 rfl hl (by decide) rfl (fun ls hl => ?_)
        refine lv_iinc (v := (nI (k1 + 1))) (lv' := [(4, .int (nI (k1 + 1))), (3, .int z13), (5, .int z8), (0, .ref (A (20 + 4 * 0))), (1, .ref (A (36 + 20 * 0))), (2, .int (nI va))]) hx hb dX7_fits_116 hl (k := 2) rfl (nI_add k1 1) (by decide) rfl (fun ls hl => ?_)
        refine lv_goto (tgt := 5) hx hb dX7_fits_119 (by decide) ?_
        exact ih5 (41 - (k1 + 1)) _ _ _ _ (by omega) ⟨(k1 + 1), z13, rfl, by omega, by omega, hP, hS, lv_sub hl [0, 1, 3, 4, 5] rfl, rfl⟩
    · refine zz_topq (r := (some (ad j9))) (by exact ej9) ?_
      refine va_gets (v := .ref (ad 15)) hx hb (EV.word hEv (i := 15) (by decide)) hS hown (hts _ mm_X7_fits_3) (fun _ hh => hh) dX7_fits_26 ?_
      refine lv_acmp_ne (rx := (some (ad j9))) (ry := (some (ad 15))) (tgt := 39) hx hb dX7_fits_29 (by decide) (fun c8 => ?_) (fun c8 => ?_)
      · have c8 : ¬ j9 = 15 := fun hh => c8 ((EV.eqw hEv (i := j9) (j := 15) (by omega) (by omega)).mpr hh)
        refine lv_aload_n hx hb dX7_fits_39 rfl (lv_at hl 3 rfl) ?_
        refine va_get (D := (dC, dI)) (ci := 8) (v := .ref (A (20 + 4 * 0 + 1))) (C := RX7) (T := TX7) (N := 5) hx hb hts ii_X7_fits_X7 hown hK hP (20 + 4 * 0) (xw_is (r := (20 + 4 * 0)) (by omega) (xc_sn (q := 0) (o := 0) (by omega) (by omega))) rfl 0 (by decide) (hts _ mm_X7_fits_2) (fun _ hh => hh) rfl dX7_fits_40 ?_
        refine lv_iload hx hb dX7_fits_43 (lv_at hl 1 rfl) ?_
        refine va_aldq hx hb hK hP (20 + 4 * 0 + 1) (20 + 4 * 0 + 1) (xw_is (r := (20 + 4 * 0 + 1)) (by omega) (xc_sn (q := 0) (o := 1) (by omega) (by omega))) (xt_is (r := (20 + 4 * 0 + 1)) (by omega) ((xty_sn (q := 0) (o := 1) (by omega) (by omega)).trans rfl)) (i := (nI k1)) (vp_in_nI (by omega) (by decide)) dX7_fits_45 ?_
        refine zz_topq (r := so (20 + 4 * 0 + 1) k1) (by rw [nI_clamp (by omega)]) ?_
        refine zz_topq (r := (some (ad j9))) (by rw [ej9]) ?_
        refine va_gets (v := .ref (ad 14)) hx hb (EV.word hEv (i := 14) (by decide)) hS hown (hts _ mm_X7_fits_4) (fun _ hh => hh) dX7_fits_46 ?_
        refine lv_acmp_ne (rx := (some (ad j9))) (ry := (some (ad 14))) (tgt := 72) hx hb dX7_fits_49 (by decide) (fun c9 => ?_) (fun c9 => ?_)
        · have c9 : ¬ j9 = 14 := fun hh => c9 ((EV.eqw hEv (i := j9) (j := 14) (by omega) (by omega)).mpr hh)
          refine lv_aload_n hx hb dX7_fits_72 rfl (lv_at hl 3 rfl) ?_
          refine va_get (D := (dC, dI)) (ci := 8) (v := .ref (A (20 + 4 * 0 + 1))) (C := RX7) (T := TX7) (N := 5) hx hb hts ii_X7_fits_X7 hown hK hP (20 + 4 * 0) (xw_is (r := (20 + 4 * 0)) (by omega) (xc_sn (q := 0) (o := 0) (by omega) (by omega))) rfl 0 (by decide) (hts _ mm_X7_fits_2) (fun _ hh => hh) rfl dX7_fits_73 ?_
          refine lv_iload hx hb dX7_fits_76 (lv_at hl 1 rfl) ?_
          refine va_aldq hx hb hK hP (20 + 4 * 0 + 1) (20 + 4 * 0 + 1) (xw_is (r := (20 + 4 * 0 + 1)) (by omega) (xc_sn (q := 0) (o := 1) (by omega) (by omega))) (xt_is (r := (20 + 4 * 0 + 1)) (by omega) ((xty_sn (q := 0) (o := 1) (by omega) (by omega)).trans rfl)) (i := (nI k1)) (vp_in_nI (by omega) (by decide)) dX7_fits_78 ?_
          refine zz_topq (r := so (20 + 4 * 0 + 1) k1) (by rw [nI_clamp (by omega)]) ?_
          refine zz_topq (r := (some (ad j9))) (by rw [ej9]) ?_
          refine va_gets (v := .ref (ad 13)) hx hb (EV.word hEv (i := 13) (by decide)) hS hown (hts _ mm_X7_fits_5) (fun _ hh => hh) dX7_fits_79 ?_
          refine lv_acmp_ne (rx := (some (ad j9))) (ry := (some (ad 13))) (tgt := 95) hx hb dX7_fits_82 (by decide) (fun c10 => ?_) (fun c10 => ?_)
          · have c10 : ¬ j9 = 13 := fun hh => c10 ((EV.eqw hEv (i := j9) (j := 13) (by omega) (by omega)).mpr hh)
            refine lv_iload_n hx hb dX7_fits_95 rfl (lv_at hl 2 rfl) ?_
            refine lv_iconst (v := 1) hx hb dX7_fits_96 (by decide) ?_
            refine lv_ishl hx hb dX7_fits_97 ?_
            refine lv_topi (fun z14 ez14 => ?_)
            clear ez14
            refine lv_aload_n hx hb dX7_fits_98 rfl (lv_at hl 3 rfl) ?_
            refine lv_aload_n hx hb dX7_fits_99 rfl (lv_at hl 4 rfl) ?_
            refine lv_iload_n hx hb dX7_fits_100 rfl (lv_at hl 5 rfl) ?_
            refine lv_iload hx hb dX7_fits_101 (lv_at hl 1 rfl) ?_
            refine va_calli (va_runV (As := [.ref (A (36 + 20 * 0)), .int (nI va), .int (nI k1)]) (rest := [.int z14]) ⟨hx, hb, hml, hown, hts⟩ (x_X7_plainFits l dC dI ad E hEE A C nb _ hN st sl so va k1 (by omega) (by omega) hG.1 hOI (fun h9 => hsk n6 _ en6 (by omega) (by omega) h9)) (cwV 3 hts gX7_fits_X7_plainFits rfl rfl rfl (by decide +kernel) ⟨Nat.le_of_ble_eq_true rfl, Nat.le_of_ble_eq_true rfl⟩) ⟨fun a U g mk q => ⟨q.1, xPre.blind hEE q.2⟩, va_recv hK hP (ci := 8) (q0 := (20 + 4 * 0)) rfl (xw_is (r := (20 + 4 * 0)) (by omega) (xc_sn (q := 0) (o := 0) (by omega) (by omega))), fun U hU hW => ⟨rfl, xPre.of hEE hP hK hE hS hU hW⟩⟩ rfl rfl hl.1 rfl (lv_room (Nat.le_of_ble_eq_true rfl)) dX7_fits_103 ⟨Nat.le_of_ble_eq_true rfl, Nat.le_of_ble_eq_true rfl⟩) hS (fun q _ h => XA.le hS.1 q h) (XA.le hS.1) (fun r15 x t H locs ht hvm hw hB _ _ hS => ?_)
            have hP := xB.at ht hB
            clear hB ht hvm
            obtain ⟨rfl, hw⟩ := hw
            have hP : va_P (dC, dI) vwCl (xw A C nb st sl so) _ := hP
            rcases hw with rfl | rfl
            · refine lv_if_eq (tgt := 113) hx hb dX7_fits_106 (by decide) (fun cc => absurd cc (by decide)) (fun _ => ?_)
              refine lv_iconst (v := 1) hx hb dX7_fits_109 (by decide) ?_
              refine lv_goto (tgt := 114) hx hb dX7_fits_110 (by decide) ?_
              refine lv_ior hx hb dX7_fits_114 ?_
              refine lv_topi (fun z16 ez16 => ?_)
              clear ez16
              refine lv_istore_n (lv' := [(3, .int z16), (5, .int z8), (4, .int (nI k1)), (0, .ref (A (20 + 4 * 0))), (1, .ref (A (36 + 20 * 0))), (2, .int (nI va))]) hx hb dX7_fits_115 rfl hl (by decide) rfl (fun ls hl => ?_)
              refine lv_iinc (v := (nI (k1 + 1))) (lv' := [(4, .int (nI (k1 + 1))), (3, .int z16), (5, .int z8), (0, .ref (A (20 + 4 * 0))), (1, .ref (A (36 + 20 * 0))), (2, .int (nI va))]) hx hb dX7_fits_116 hl (k := 2) rfl (nI_add k1 1) (by decide) rfl (fun ls hl => ?_)
              refine lv_goto (tgt := 5) hx hb dX7_fits_119 (by decide) ?_
              exact ih5 (41 - (k1 + 1)) _ _ _ _ (by omega) ⟨(k1 + 1), z16, rfl, by omega, by omega, hP, hS, lv_sub hl [0, 1, 3, 4, 5] rfl, rfl⟩
            · refine lv_if_eq (tgt := 113) hx hb dX7_fits_106 (by decide) (fun _ => ?_) (fun cc => absurd (by decide) cc)
              refine lv_iconst (v := 0) hx hb dX7_fits_113 (by decide) ?_
              refine lv_ior hx hb dX7_fits_114 ?_
              refine lv_topi (fun z17 ez17 => ?_)
              clear ez17
              refine lv_istore_n (lv' := [(3, .int z17), (5, .int z8), (4, .int (nI k1)), (0, .ref (A (20 + 4 * 0))), (1, .ref (A (36 + 20 * 0))), (2, .int (nI va))]) hx hb dX7_fits_115 rfl hl (by decide) rfl (fun ls hl => ?_)
              refine lv_iinc (v := (nI (k1 + 1))) (lv' := [(4, .int (nI (k1 + 1))), (3, .int z17), (5, .int z8), (0, .ref (A (20 + 4 * 0))), (1, .ref (A (36 + 20 * 0))), (2, .int (nI va))]) hx hb dX7_fits_116 hl (k := 2) rfl (nI_add k1 1) (by decide) rfl (fun ls hl => ?_)
              refine lv_goto (tgt := 5) hx hb dX7_fits_119 (by decide) ?_
              exact ih5 (41 - (k1 + 1)) _ _ _ _ (by omega) ⟨(k1 + 1), z17, rfl, by omega, by omega, hP, hS, lv_sub hl [0, 1, 3, 4, 5] rfl, rfl⟩
          · have c10 : j9 = 13 := (EV.eqw hEv (i := j9) (j := 13) (by omega) (by omega)).mp c10
            refine lv_iload_n hx hb dX7_fits_85 rfl (lv_at hl 2 rfl) ?_
            refine lv_iconst (v := 1) hx hb dX7_fits_86 (by decide) ?_
            refine lv_iushr hx hb dX7_fits_87 rfl ?_
            refine lv_topi (fun z18 ez18 => ?_)
            clear ez18
            refine lv_iload hx hb dX7_fits_88 (lv_at hl 0 rfl) ?_
            refine lv_ior hx hb dX7_fits_90 ?_
            refine lv_topi (fun z19 ez19 => ?_)
            clear ez19
            refine lv_istore_n (lv' := [(3, .int z19), (5, .int z8), (4, .int (nI k1)), (0, .ref (A (20 + 4 * 0))), (1, .ref (A (36 + 20 * 0))), (2, .int (nI va))]) hx hb dX7_fits_91 rfl hl (by decide) rfl (fun ls hl => ?_)
            refine lv_goto (tgt := 116) hx hb dX7_fits_92 (by decide) ?_
            refine lv_iinc (v := (nI (k1 + 1))) (lv' := [(4, .int (nI (k1 + 1))), (3, .int z19), (5, .int z8), (0, .ref (A (20 + 4 * 0))), (1, .ref (A (36 + 20 * 0))), (2, .int (nI va))]) hx hb dX7_fits_116 hl (k := 2) rfl (nI_add k1 1) (by decide) rfl (fun ls hl => ?_)
            refine lv_goto (tgt := 5) hx hb dX7_fits_119 (by decide) ?_
            exact ih5 (41 - (k1 + 1)) _ _ _ _ (by omega) ⟨(k1 + 1), z19, rfl, by omega, by omega, hP, hS, lv_sub hl [0, 1, 3, 4, 5] rfl, rfl⟩
        · have c9 : j9 = 14 := (EV.eqw hEv (i := j9) (j := 14) (by omega) (by omega)).mp c9
          refine lv_iload_n hx hb dX7_fits_52 rfl (lv_at hl 2 rfl) ?_
          refine lv_iconst (v := 1) hx hb dX7_fits_53 (by decide) ?_
          refine lv_iushr hx hb dX7_fits_54 rfl ?_
          refine lv_topi (fun z20 ez20 => ?_)
          clear ez20
          refine lv_iload hx hb dX7_fits_55 (lv_at hl 0 rfl) ?_
          refine lv_iconst (v := 1) hx hb dX7_fits_57 (by decide) ?_
          refine lv_icmp_ne (tgt := 65) hx hb dX7_fits_58 (by decide) (fun c13 => ?_) (fun c13 => ?_)
          · refine lv_bipush (v := (-2)) hx hb dX7_fits_65 (by decide) ?_
            refine lv_iand hx hb dX7_fits_67 ?_
            refine lv_topi (fun z21 ez21 => ?_)
            clear ez21
            refine lv_istore_n (lv' := [(3, .int z21), (5, .int z8), (4, .int (nI k1)), (0, .ref (A (20 + 4 * 0))), (1, .ref (A (36 + 20 * 0))), (2, .int (nI va))]) hx hb dX7_fits_68 rfl hl (by decide) rfl (fun ls hl => ?_)
            refine lv_goto (tgt := 116) hx hb dX7_fits_69 (by decide) ?_
            refine lv_iinc (v := (nI (k1 + 1))) (lv' := [(4, .int (nI (k1 + 1))), (3, .int z21), (5, .int z8), (0, .ref (A (20 + 4 * 0))), (1, .ref (A (36 + 20 * 0))), (2, .int (nI va))]) hx hb dX7_fits_116 hl (k := 2) rfl (nI_add k1 1) (by decide) rfl (fun ls hl => ?_)
            refine lv_goto (tgt := 5) hx hb dX7_fits_119 (by decide) ?_
            exact ih5 (41 - (k1 + 1)) _ _ _ _ (by omega) ⟨(k1 + 1), z21, rfl, by omega, by omega, hP, hS, lv_sub hl [0, 1, 3, 4, 5] rfl, rfl⟩
          · refine lv_iconst (v := (-1)) hx hb dX7_fits_61 (by decide) ?_
            refine lv_goto (tgt := 67) hx hb dX7_fits_62 (by decide) ?_
            refine lv_iand hx hb dX7_fits_67 ?_
            refine lv_topi (fun z22 ez22 => ?_)
            clear ez22
            refine lv_istore_n (lv' := [(3, .int z22), (5, .int z8), (4, .int (nI k1)), (0, .ref (A (20 + 4 * 0))), (1, .ref (A (36 + 20 * 0))), (2, .int (nI va))]) hx hb dX7_fits_68 rfl hl (by decide) rfl (fun ls hl => ?_)
            refine lv_goto (tgt := 116) hx hb dX7_fits_69 (by decide) ?_
            refine lv_iinc (v := (nI (k1 + 1))) (lv' := [(4, .int (nI (k1 + 1))), (3, .int z22), (5, .int z8), (0, .ref (A (20 + 4 * 0))), (1, .ref (A (36 + 20 * 0))), (2, .int (nI va))]) hx hb dX7_fits_116 hl (k := 2) rfl (nI_add k1 1) (by decide) rfl (fun ls hl => ?_)
            refine lv_goto (tgt := 5) hx hb dX7_fits_119 (by decide) ?_
            exact ih5 (41 - (k1 + 1)) _ _ _ _ (by omega) ⟨(k1 + 1), z22, rfl, by omega, by omega, hP, hS, lv_sub hl [0, 1, 3, 4, 5] rfl, rfl⟩
      · have c8 : j9 = 15 := (EV.eqw hEv (i := j9) (j := 15) (by omega) (by omega)).mp c8
        refine lv_iload_n hx hb dX7_fits_32 rfl (lv_at hl 2 rfl) ?_
        refine lv_iconst (v := 1) hx hb dX7_fits_33 (by decide) ?_
        refine lv_ixor hx hb dX7_fits_34 ?_
        refine lv_topi (fun z23 ez23 => ?_)
        clear ez23
        refine lv_istore_n (lv' := [(3, .int z23), (5, .int z8), (4, .int (nI k1)), (0, .ref (A (20 + 4 * 0))), (1, .ref (A (36 + 20 * 0))), (2, .int (nI va))]) hx hb dX7_fits_35 rfl hl (by decide) rfl (fun ls hl => ?_)
        refine lv_goto (tgt := 116) hx hb dX7_fits_36 (by decide) ?_
        refine lv_iinc (v := (nI (k1 + 1))) (lv' := [(4, .int (nI (k1 + 1))), (3, .int z23), (5, .int z8), (0, .ref (A (20 + 4 * 0))), (1, .ref (A (36 + 20 * 0))), (2, .int (nI va))]) hx hb dX7_fits_116 hl (k := 2) rfl (nI_add k1 1) (by decide) rfl (fun ls hl => ?_)
        refine lv_goto (tgt := 5) hx hb dX7_fits_119 (by decide) ?_
        exact ih5 (41 - (k1 + 1)) _ _ _ _ (by omega) ⟨(k1 + 1), z23, rfl, by omega, by omega, hP, hS, lv_sub hl [0, 1, 3, 4, 5] rfl, rfl⟩
