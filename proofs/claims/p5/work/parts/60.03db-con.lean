set_option maxHeartbeats 4000000 in
set_option maxRecDepth 100000 in
theorem x_X8_step (l : Launch) (dC : Nat → ClassId) (dI : Nat → Nat → Nat) (ad : Nat → Nat) (E : EP) (hEE : EC ad E) (A : Nat → Nat) (C : Nat → ClassId) (nb sz : Nat) (hN : XN A) (st : Nat → Nat → Int32) (sl : Nat → Nat → Int64) (so : Nat → XR) (hI : XI st) (hOI : OI ad so) : Met l yX8_step wsX8_step ({ frames := 5, cells := 0, slots := 0, locals := 110 }) (va_Pc [.ref (A 1)] (xPre E dC dI A C nb sz st sl so)) (va_Qv (fun (x : XT) => XG [1, 2, 3, 4, 5, 6, 7, 8, 9, 10, 11, 12, 13, 14, 15] st x.1 ∧ LGq sl x.2.1 ∧ OG ad [2, 3, 4] so x.2.2 ∧ (True)) (xB dC dI A C nb) (XA A sz)) 0 0 (XA A sz) := by
  refine Met.ofW (cc := cX8_step) (maxL := 1) (ret := none) (by decide) rfl ?_
  intro p e s m args below meth c s₁ B hml hv
  obtain ⟨rfl, hsz, hP, hK, hE⟩ := hv
  have hx := B.exec
  have hb := B.bytes
  have hr := B.returns
  have hts := atoms_spec (ws := wsX8_step) B.pre
  have hown : s.vm.findClass RX8 = some m.cls := findClass_of_methodNamed B.named
  subst hsz
  have hEv := hEE.1 _ _ _ hE
  have hS : va_S (XA A s.heap.size) s.heap s.heap [] := va_S.rf
  have hG : XG [1, 2, 3, 4, 5, 6, 7, 8, 9, 10, 11, 12, 13, 14, 15] st st := XG.rf hI
  have hO : OG ad [2, 3, 4] so so := OG.rf hOI
  have hl := lv_entry ([.ref (A 1)]) (n := 1) (Nat.le_of_ble_eq_true rfl)
  rw [lg_entry_eq]
  generalize (lg_sl ([.ref (A 1)]) ++ List.replicate (1 - (lg_sl ([.ref (A 1)])).length) Slot.unset).toArray = ls at hl ⊢
  have hl : lv_has ls 1 [(0, .ref (A 1))] := hl
  have hL : LGq sl sl := LGq.rf
  refine lv_aload_n hx hb dX8_step_0 rfl (lv_at hl 0 rfl) ?_
  refine va_gets (v := .ref (ad 25)) hx hb (EV.word hEv (i := 25) (by decide)) hS hown (hts _ mm_X8_step_1) (fun _ hh => hh) dX8_step_1 ?_
  refine va_put (D := (dC, dI)) (ci := 9) (v := .ref (ad 25)) (ty := .object "OffTheLead$Word") (C := RX8) (T := TX8) (N := 15) hx hb hts ii_X8_step_X8 tyX8 tyX8_ok nmX8 hown hK hP (xD hN _ _ _ _ _ _) hS 1 (xw_is (r := 1) (by omega) (xc_fix (r := 1) (by omega))) rfl 7 (by decide) (hts _ mm_X8_step_2) (fun _ hh => hh) rfl (by decide +kernel) rfl rfl (Nat.le_of_ble_eq_true rfl) dX8_step_4 (fun H locs hP _ hS => ?_)
  have hP : va_P (dC, dI) vwCl (xw A C nb st sl (upO so 1 7 (some (ad 25)))) H := by rw [← xsetO (r := 1) (k := 7) (v := (some (ad 25))) (xc_fix (r := 1) (by omega))]; exact hP
  obtain ⟨so1, eso1⟩ : ∃ y, y = upO so 1 7 (some (ad 25)) := ⟨_, rfl⟩
  have hO : OG ad [2, 3, 4] so so1 := by rw [eso1]; exact hO.up (isW.of (by omega)) (fun _ _ => ⟨_, by omega, rfl⟩) (by decide)
  rw [← eso1] at hP
  obtain ⟨n2, hn2, en2⟩ := hG.1.at (r := 1) (k := 3) (b := 941) (by decide : xrg 1 3 = 941) (by decide)
  refine zz_wf (fun n stk H locs ls => ∃ st3 : Nat → Nat → Int32, ∃ sl4 : Nat → Nat → Int64, ∃ so5 : Nat → XR, ∃ g6 : Nat, n = 941 - g6 ∧ g6 < 941 ∧ st3 1 3 = nI g6 ∧ va_P (dC, dI) vwCl (xw A C nb st3 sl4 so5) H ∧ XG [1, 2, 3, 4, 5, 6, 7, 8, 9, 10, 11, 12, 13, 14, 15] st st3 ∧ OG ad [2, 3, 4] so so5 ∧ LGq sl sl4 ∧ va_S (XA A s.heap.size) s.heap H locs ∧ lv_has ls 1 [(0, .ref (A 1))] ∧ stk = []) ?_ (941 - n2) _ _ _ _ ⟨st, sl, so1, n2, rfl, by omega, by rw [en2], hP, hG, hO, hL, hS, lv_sub hl [0] rfl, rfl⟩
  rintro nn stk H locs ls ⟨st3, sl4, so5, g6, hm7, hv7_0, eg6, hP, hG, hO, hL, hS, hl, rfl⟩ ih8
  refine lv_aload_n hx hb dX8_step_7 rfl (lv_at hl 0 rfl) ?_
  refine va_get (D := (dC, dI)) (ci := 9) (v := .int (st3 1 3)) (C := RX8) (T := TX8) (N := 15) hx hb hts ii_X8_step_X8 hown hK hP 1 (xw_is (r := 1) (by omega) (xc_fix (r := 1) (by omega))) rfl 3 (by decide) (hts _ mm_X8_step_3) (fun _ hh => hh) rfl dX8_step_8 ?_
  refine zz_top (v := (nI g6)) (by show st3 1 3 = _; rw [eg6]) ?_
  refine lv_aload_n hx hb dX8_step_11 rfl (lv_at hl 0 rfl) ?_
  refine va_get (D := (dC, dI)) (ci := 9) (v := .int (st3 1 1)) (C := RX8) (T := TX8) (N := 15) hx hb hts ii_X8_step_X8 hown hK hP 1 (xw_is (r := 1) (by omega) (xc_fix (r := 1) (by omega))) rfl 1 (by decide) (hts _ mm_X8_step_4) (fun _ hh => hh) rfl dX8_step_12 ?_
  obtain ⟨n9, hn9, en9⟩ := hG.1.at (r := 1) (k := 1) (b := 941) (by decide : xrg 1 1 = 941) (by decide)
  refine zz_top (v := nI n9) (by exact en9) ?_
  refine lv_icmp_ge (tgt := 59) hx hb dX8_step_15 (by decide) (fun c1 => ?_) (fun c1 => ?_)
  · have c1 : n9 ≤ g6 := (nI_leI (a := n9) (b := g6) (by omega) (by omega)).mp c1
    refine lv_aload_n hx hb dX8_step_59 rfl (lv_at hl 0 rfl) ?_
    refine lv_aload_n hx hb dX8_step_60 rfl (lv_at hl 0 rfl) ?_
    refine va_get (D := (dC, dI)) (ci := 9) (v := .int (st3 1 3)) (C := RX8) (T := TX8) (N := 15) hx hb hts ii_X8_step_X8 hown hK hP 1 (xw_is (r := 1) (by omega) (xc_fix (r := 1) (by omega))) rfl 3 (by decide) (hts _ mm_X8_step_3) (fun _ hh => hh) rfl dX8_step_61 ?_
    refine zz_top (v := (nI g6)) (by show st3 1 3 = _; rw [eg6]) ?_
    refine va_put (D := (dC, dI)) (ci := 9) (v := .int (nI g6)) (ty := .int) (C := RX8) (T := TX8) (N := 15) hx hb hts ii_X8_step_X8 tyX8 tyX8_ok nmX8 hown hK hP (xD hN _ _ _ _ _ _) hS 1 (xw_is (r := 1) (by omega) (xc_fix (r := 1) (by omega))) rfl 5 (by decide) (hts _ mm_X8_step_6) (fun _ hh => hh) rfl (by decide +kernel) rfl rfl (Nat.le_of_ble_eq_true rfl) dX8_step_64 (fun H locs hP _ hS => ?_)
    have hP : va_P (dC, dI) vwCl (xw A C nb (up2 st3 1 5 (nI g6)) sl4 so5) H := by rw [← xset (r := 1) (k := 5) (v := (nI g6)) (xc_fix (r := 1) (by omega))]; exact hP
    obtain ⟨st10, est10⟩ : ∃ y, y = up2 st3 1 5 (nI g6) := ⟨_, rfl⟩
    have hG : XG [1, 2, 3, 4, 5, 6, 7, 8, 9, 10, 11, 12, 13, 14, 15] st st10 := by rw [est10]; exact hG.up (xn (n := g6) (b := 941) (by decide : xrg 1 5 = 941) (by omega)) (xpn (c := 0) (by decide : xcl 1 5 = 0) (by decide))
    rw [← est10] at hP
    refine lv_aload_n hx hb dX8_step_67 rfl (lv_at hl 0 rfl) ?_
    refine va_get (D := (dC, dI)) (ci := 9) (v := .int (st10 1 1)) (C := RX8) (T := TX8) (N := 15) hx hb hts ii_X8_step_X8 hown hK hP 1 (xw_is (r := 1) (by omega) (xc_fix (r := 1) (by omega))) rfl 1 (by decide) (hts _ mm_X8_step_4) (fun _ hh => hh) rfl dX8_step_68 ?_
    refine zz_top (v := (nI n9)) (by show st10 1 1 = _; rw [est10, up2_ne (r := 1) (k := 5) (a := 1) (j := 1) _ _ (by omega), en9]) ?_
    refine lv_aload_n hx hb dX8_step_71 rfl (lv_at hl 0 rfl) ?_
    refine va_get (D := (dC, dI)) (ci := 9) (v := .int (st10 1 2)) (C := RX8) (T := TX8) (N := 15) hx hb hts ii_X8_step_X8 hown hK hP 1 (xw_is (r := 1) (by omega) (xc_fix (r := 1) (by omega))) rfl 2 (by decide) (hts _ mm_X8_step_7) (fun _ hh => hh) rfl dX8_step_72 ?_
    obtain ⟨n11, hn11, en11⟩ := hG.1.at (r := 1) (k := 2) (b := 941) (by decide : xrg 1 2 = 941) (by decide)
    refine zz_top (v := nI n11) (by exact en11) ?_
    refine zz_join (pcJ := 105) (fun stk H locs ls => va_P (dC, dI) vwCl (xw A C nb st10 sl4 so5) H ∧ va_S (XA A s.heap.size) s.heap H locs ∧ lv_has ls 1 [(0, .ref (A 1))] ∧ stk = []) ?_ (fun kj12 => ?_)
    · rintro stk H locs ls ⟨hP, hS, hl, rfl⟩
      refine lv_aload_n hx hb dX8_step_105 rfl (lv_at hl 0 rfl) ?_
      refine va_get (D := (dC, dI)) (ci := 9) (v := .int (st10 1 3)) (C := RX8) (T := TX8) (N := 15) hx hb hts ii_X8_step_X8 hown hK hP 1 (xw_is (r := 1) (by omega) (xc_fix (r := 1) (by omega))) rfl 3 (by decide) (hts _ mm_X8_step_3) (fun _ hh => hh) rfl dX8_step_106 ?_
      refine zz_top (v := (nI g6)) (by show st10 1 3 = _; rw [est10, up2_ne (r := 1) (k := 5) (a := 1) (j := 3) _ _ (by omega), eg6]) ?_
      refine lv_aload_n hx hb dX8_step_109 rfl (lv_at hl 0 rfl) ?_
      refine va_get (D := (dC, dI)) (ci := 9) (v := .int (st10 1 1)) (C := RX8) (T := TX8) (N := 15) hx hb hts ii_X8_step_X8 hown hK hP 1 (xw_is (r := 1) (by omega) (xc_fix (r := 1) (by omega))) rfl 1 (by decide) (hts _ mm_X8_step_4) (fun _ hh => hh) rfl dX8_step_110 ?_
      refine zz_top (v := (nI n9)) (by show st10 1 1 = _; rw [est10, up2_ne (r := 1) (k := 5) (a := 1) (j := 1) _ _ (by omega), en9]) ?_
      refine lv_icmp_lt (tgt := 124) hx hb dX8_step_113 (by decide) (fun c2 => ?_) (fun c2 => ?_)
      · have c2 : g6 < n9 := (nI_ltI (a := g6) (b := n9) (by omega) (by omega)).mp c2
        refine lv_aload_n hx hb dX8_step_124 rfl (lv_at hl 0 rfl) ?_
        refine va_get (D := (dC, dI)) (ci := 9) (v := .ref (A 2)) (C := RX8) (T := TX8) (N := 15) hx hb hts ii_X8_step_X8 hown hK hP 1 (xw_is (r := 1) (by omega) (xc_fix (r := 1) (by omega))) rfl 0 (by decide) (hts _ mm_X8_step_5) (fun _ hh => hh) rfl dX8_step_125 ?_
        refine lv_aload_n hx hb dX8_step_128 rfl (lv_at hl 0 rfl) ?_
        refine va_get (D := (dC, dI)) (ci := 9) (v := .int (st10 1 3)) (C := RX8) (T := TX8) (N := 15) hx hb hts ii_X8_step_X8 hown hK hP 1 (xw_is (r := 1) (by omega) (xc_fix (r := 1) (by omega))) rfl 3 (by decide) (hts _ mm_X8_step_3) (fun _ hh => hh) rfl dX8_step_129 ?_
        refine zz_top (v := (nI g6)) (by show st10 1 3 = _; rw [est10, up2_ne (r := 1) (k := 5) (a := 1) (j := 3) _ _ (by omega), eg6]) ?_
        refine va_bald hx hb hK hP 2 2 (xw_is (r := 2) (by omega) (xc_fix (r := 2) (by omega))) (xt_is (r := 2) (by omega) rfl) (i := (nI g6)) (vp_in_nI (by omega) (by decide)) dX8_step_132 ?_
        obtain ⟨z13, ez13⟩ : ∃ y : Int32, st10 2 g6 = y := ⟨_, rfl⟩
        refine zz_top (v := z13) (by rw [nI_clamp (by omega)]; exact ez13) ?_
        refine va_calli (va_runS (As := [.int z13]) (rest := []) ⟨hx, hb, hml, hown, hts⟩ (x_X8_isLetter l dC dI ad E hEE A C nb _ hN st10 sl4 so5 z13  hG.1) (va_cwS 1 hts gX8_step_X8_isLetter rfl rfl rfl (by decide +kernel) ⟨Nat.le_of_ble_eq_true rfl, Nat.le_of_ble_eq_true rfl⟩) ⟨fun a U g mk q => ⟨q.1, xPre.blind hEE q.2⟩, fun U hU hW => ⟨rfl, xPre.of hEE hP hK hE hS hU hW⟩⟩ rfl rfl hl.1 rfl (lv_room (Nat.le_of_ble_eq_true rfl)) dX8_step_133 ⟨Nat.le_of_ble_eq_true rfl, Nat.le_of_ble_eq_true rfl⟩) hS (fun q _ h => XA.le hS.1 q h) (XA.le hS.1) (fun r14 x t H locs ht hvm hw hB _ _ hS => ?_)
        have hP := xB.at ht hB
        clear hB ht hvm
        obtain ⟨rfl, hw⟩ := hw
        have hP : va_P (dC, dI) vwCl (xw A C nb st10 sl4 so5) _ := hP
        rcases hw with rfl | rfl
        · refine zz_join (pcJ := 154) (fun stk H locs ls => va_P (dC, dI) vwCl (xw A C nb st10 sl4 so5) H ∧ va_S (XA A s.heap.size) s.heap H locs ∧ lv_has ls 1 [(0, .ref (A 1))] ∧ stk = []) ?_ (fun kj15 => ?_)
          · rintro stk H locs ls ⟨hP, hS, hl, rfl⟩
            refine lv_aload_n hx hb dX8_step_154 rfl (lv_at hl 0 rfl) ?_
            refine va_callv (va_runV (As := []) (rest := []) ⟨hx, hb, hml, hown, hts⟩ (x_X8_stepOverRun l dC dI ad E hEE A C nb _ hN st10 sl4 so5  hG.1) (cwV 0 hts gX8_step_X8_stepOverRun rfl rfl rfl (by decide +kernel) ⟨Nat.le_of_ble_eq_true rfl, Nat.le_of_ble_eq_true rfl⟩) ⟨fun a U g mk q => ⟨q.1, xPre.blind hEE q.2⟩, va_recv hK hP (ci := 9) (q0 := 1) rfl (xw_is (r := 1) (by omega) (xc_fix (r := 1) (by omega))), fun U hU hW => ⟨rfl, xPre.of hEE hP hK hE hS hU hW⟩⟩ rfl rfl hl.1 rfl (lv_room (Nat.le_of_ble_eq_true rfl)) dX8_step_155 ⟨Nat.le_of_ble_eq_true rfl, Nat.le_of_ble_eq_true rfl⟩) hS (fun q _ h => XA.le hS.1 q h) (XA.le hS.1) (fun x t H locs ht hvm hw hB _ _ hS => ?_)
            have hP := xB.at ht hB
            clear hB ht hvm
            obtain ⟨st17, sl18, so19⟩ := x
            obtain ⟨hGst17, hLGst17, hOst17, hw⟩ := hw
            dsimp only at hGst17 hLGst17 hOst17 hw
            have hL : LGq sl sl18 := hL.tr hLGst17
            replace hOst17 := hOst17.symm
            subst hOst17
            have hP : va_P (dC, dI) vwCl (xw A C nb st17 sl18 so5) _ := hP
            have hG : XG [1, 2, 3, 4, 5, 6, 7, 8, 9, 10, 11, 12, 13, 14, 15] st st17 := hG.tr hGst17 (by decide)
            clear hw
            refine lv_aload_n hx hb dX8_step_158 rfl (lv_at hl 0 rfl) ?_
            refine lv_aload_n hx hb dX8_step_159 rfl (lv_at hl 0 rfl) ?_
            refine va_get (D := (dC, dI)) (ci := 9) (v := .int (st17 1 4)) (C := RX8) (T := TX8) (N := 15) hx hb hts ii_X8_step_X8 hown hK hP 1 (xw_is (r := 1) (by omega) (xc_fix (r := 1) (by omega))) rfl 4 (by decide) (hts _ mm_X8_step_8) (fun _ hh => hh) rfl dX8_step_160 ?_
            obtain ⟨z20, ez20⟩ : ∃ y : Int32, st17 1 4 = y := ⟨_, rfl⟩
            refine zz_top (v := z20) (by exact ez20) ?_
            refine lv_if_ne (tgt := 184) hx hb dX8_step_163 (by decide) (fun c3 => ?_) (fun c3 => ?_)
            · refine va_gets (v := .ref (ad 25)) hx hb (EV.word hEv (i := 25) (by decide)) hS hown (hts _ mm_X8_step_1) (fun _ hh => hh) dX8_step_184 ?_
              refine va_put (D := (dC, dI)) (ci := 9) (v := .ref (ad 25)) (ty := .object "OffTheLead$Word") (C := RX8) (T := TX8) (N := 15) hx hb hts ii_X8_step_X8 tyX8 tyX8_ok nmX8 hown hK hP (xD hN _ _ _ _ _ _) hS 1 (xw_is (r := 1) (by omega) (xc_fix (r := 1) (by omega))) rfl 7 (by decide) (hts _ mm_X8_step_2) (fun _ hh => hh) rfl (by decide +kernel) rfl rfl (Nat.le_of_ble_eq_true rfl) dX8_step_187 (fun H locs hP _ hS => ?_)
              have hP : va_P (dC, dI) vwCl (xw A C nb st17 sl18 (upO so5 1 7 (some (ad 25)))) H := by rw [← xsetO (r := 1) (k := 7) (v := (some (ad 25))) (xc_fix (r := 1) (by omega))]; exact hP
              obtain ⟨so21, eso21⟩ : ∃ y, y = upO so5 1 7 (some (ad 25)) := ⟨_, rfl⟩
              have hO : OG ad [2, 3, 4] so so21 := by rw [eso21]; exact hO.up (isW.of (by omega)) (fun _ _ => ⟨_, by omega, rfl⟩) (by decide)
              rw [← eso21] at hP
              refine lv_goto (tgt := 235) hx hb dX8_step_190 (by decide) ?_
              exact W.vret hx hb hr (fun t ht hW => ⟨⟨(st17, sl18, so21), rfl, ⟨hG, hL, hO, trivial⟩, xB.of ht hP⟩, hS.F ht⟩) hS.2.2 dX8_step_235
            · refine lv_aload_n hx hb dX8_step_166 rfl (lv_at hl 0 rfl) ?_
              refine va_get (D := (dC, dI)) (ci := 9) (v := .ref (A 2)) (C := RX8) (T := TX8) (N := 15) hx hb hts ii_X8_step_X8 hown hK hP 1 (xw_is (r := 1) (by omega) (xc_fix (r := 1) (by omega))) rfl 0 (by decide) (hts _ mm_X8_step_5) (fun _ hh => hh) rfl dX8_step_167 ?_
              refine lv_aload_n hx hb dX8_step_170 rfl (lv_at hl 0 rfl) ?_
              refine va_get (D := (dC, dI)) (ci := 9) (v := .int (st17 1 5)) (C := RX8) (T := TX8) (N := 15) hx hb hts ii_X8_step_X8 hown hK hP 1 (xw_is (r := 1) (by omega) (xc_fix (r := 1) (by omega))) rfl 5 (by decide) (hts _ mm_X8_step_6) (fun _ hh => hh) rfl dX8_step_171 ?_
              obtain ⟨n22, hn22, en22⟩ := hG.1.at (r := 1) (k := 5) (b := 941) (by decide : xrg 1 5 = 941) (by decide)
              refine zz_top (v := nI n22) (by exact en22) ?_
              refine lv_aload_n hx hb dX8_step_174 rfl (lv_at hl 0 rfl) ?_
              refine va_get (D := (dC, dI)) (ci := 9) (v := .int (st17 1 3)) (C := RX8) (T := TX8) (N := 15) hx hb hts ii_X8_step_X8 hown hK hP 1 (xw_is (r := 1) (by omega) (xc_fix (r := 1) (by omega))) rfl 3 (by decide) (hts _ mm_X8_step_3) (fun _ hh => hh) rfl dX8_step_175 ?_
              obtain ⟨n23, hn23, en23⟩ := hG.1.at (r := 1) (k := 3) (b := 941) (by decide : xrg 1 3 = 941) (by decide)
              refine zz_top (v := nI n23) (by exact en23) ?_
              refine va_callr (va_runS (As := [.ref (A 2), .int (nI n22), .int (nI n23)]) (rest := [.ref (A 1)]) ⟨hx, hb, hml, hown, hts⟩ (x_X10_of l dC dI ad E hEE A C nb _ hN st17 sl18 so5 n22 n23 (by omega) (by omega) hG.1) (va_cwS 3 hts gX8_step_X10_of rfl rfl rfl (by decide +kernel) ⟨Nat.le_of_ble_eq_true rfl, Nat.le_of_ble_eq_true rfl⟩) ⟨fun a U g mk q => ⟨q.1, xPre.blind hEE q.2⟩, fun U hU hW => ⟨rfl, xPre.of hEE hP hK hE hS hU hW⟩⟩ rfl rfl hl.1 rfl (lv_room (Nat.le_of_ble_eq_true rfl)) dX8_step_178 ⟨Nat.le_of_ble_eq_true rfl, Nat.le_of_ble_eq_true rfl⟩) hS (fun q _ h => XA.le hS.1 q h) (XA.le hS.1) (fun x r24 t H locs ht hvm hw hB _ _ hS => ?_)
              obtain ⟨hw, hB⟩ := hB
              have hP := xB.at ht hB
              clear hB ht hvm
              obtain ⟨rfl, hw⟩ := hw
              have hP : va_P (dC, dI) vwCl (xw A C nb st17 sl18 so5) _ := hP
              obtain ⟨n25, rfl, hf26⟩ := hw
              refine lv_goto (tgt := 187) hx hb dX8_step_181 (by decide) ?_
              refine va_put (D := (dC, dI)) (ci := 9) (v := .ref (ad n25)) (ty := .object "OffTheLead$Word") (C := RX8) (T := TX8) (N := 15) hx hb hts ii_X8_step_X8 tyX8 tyX8_ok nmX8 hown hK hP (xD hN _ _ _ _ _ _) hS 1 (xw_is (r := 1) (by omega) (xc_fix (r := 1) (by omega))) rfl 7 (by decide) (hts _ mm_X8_step_2) (fun _ hh => hh) rfl (by decide +kernel) rfl rfl (Nat.le_of_ble_eq_true rfl) dX8_step_187 (fun H locs hP _ hS => ?_)
              have hP : va_P (dC, dI) vwCl (xw A C nb st17 sl18 (upO so5 1 7 (some (ad n25)))) H := by rw [← xsetO (r := 1) (k := 7) (v := (some (ad n25))) (xc_fix (r := 1) (by omega))]; exact hP
              obtain ⟨so27, eso27⟩ : ∃ y, y = upO so5 1 7 (some (ad n25)) := ⟨_, rfl⟩
              have hO : OG ad [2, 3, 4] so so27 := by rw [eso27]; exact hO.up (isW.of (by omega)) (fun _ _ => ⟨_, by omega, rfl⟩) (by decide)
              rw [← eso27] at hP
              refine lv_goto (tgt := 235) hx hb dX8_step_190 (by decide) ?_
              exact W.vret hx hb hr (fun t ht hW => ⟨⟨(st17, sl18, so27), rfl, ⟨hG, hL, hO, trivial⟩, xB.of ht hP⟩, hS.F ht⟩) hS.2.2 dX8_step_235
          refine lv_if_ne (tgt := 154) hx hb dX8_step_136 (by decide) (fun _ => ?_) (fun cc => absurd cc (by decide))
          exact kj15 _ _ _ _ ⟨hP, hS, lv_sub hl [0] rfl, rfl⟩
        · refine zz_join (pcJ := 154) (fun stk H locs ls => va_P (dC, dI) vwCl (xw A C nb st10 sl4 so5) H ∧ va_S (XA A s.heap.size) s.heap H locs ∧ lv_has ls 1 [(0, .ref (A 1))] ∧ stk = []) ?_ (fun kj28 => ?_)
          · rintro stk H locs ls ⟨hP, hS, hl, rfl⟩
            refine lv_aload_n hx hb dX8_step_154 rfl (lv_at hl 0 rfl) ?_
            refine va_callv (va_runV (As := []) (rest := []) ⟨hx, hb, hml, hown, hts⟩ (x_X8_stepOverRun l dC dI ad E hEE A C nb _ hN st10 sl4 so5  hG.1) (cwV 0 hts gX8_step_X8_stepOverRun rfl rfl rfl (by decide +kernel) ⟨Nat.le_of_ble_eq_true rfl, Nat.le_of_ble_eq_true rfl⟩) ⟨fun a U g mk q => ⟨q.1, xPre.blind hEE q.2⟩, va_recv hK hP (ci := 9) (q0 := 1) rfl (xw_is (r := 1) (by omega) (xc_fix (r := 1) (by omega))), fun U hU hW => ⟨rfl, xPre.of hEE hP hK hE hS hU hW⟩⟩ rfl rfl hl.1 rfl (lv_room (Nat.le_of_ble_eq_true rfl)) dX8_step_155 ⟨Nat.le_of_ble_eq_true rfl, Nat.le_of_ble_eq_true rfl⟩) hS (fun q _ h => XA.le hS.1 q h) (XA.le hS.1) (fun x t H locs ht hvm hw hB _ _ hS => ?_)
            have hP := xB.at ht hB
            clear hB ht hvm
            obtain ⟨st30, sl31, so32⟩ := x
            obtain ⟨hGst30, hLGst30, hOst30, hw⟩ := hw
            dsimp only at hGst30 hLGst30 hOst30 hw
            have hL : LGq sl sl31 := hL.tr hLGst30
            replace hOst30 := hOst30.symm
            subst hOst30
            have hP : va_P (dC, dI) vwCl (xw A C nb st30 sl31 so5) _ := hP
            have hG : XG [1, 2, 3, 4, 5, 6, 7, 8, 9, 10, 11, 12, 13, 14, 15] st st30 := hG.tr hGst30 (by decide)
            clear hw
            refine lv_aload_n hx hb dX8_step_158 rfl (lv_at hl 0 rfl) ?_
            refine lv_aload_n hx hb dX8_step_159 rfl (lv_at hl 0 rfl) ?_
            refine va_get (D := (dC, dI)) (ci := 9) (v := .int (st30 1 4)) (C := RX8) (T := TX8) (N := 15) hx hb hts ii_X8_step_X8 hown hK hP 1 (xw_is (r := 1) (by omega) (xc_fix (r := 1) (by omega))) rfl 4 (by decide) (hts _ mm_X8_step_8) (fun _ hh => hh) rfl dX8_step_160 ?_
            obtain ⟨z33, ez33⟩ : ∃ y : Int32, st30 1 4 = y := ⟨_, rfl⟩
            refine zz_top (v := z33) (by exact ez33) ?_
            refine lv_if_ne (tgt := 184) hx hb dX8_step_163 (by decide) (fun c5 => ?_) (fun c5 => ?_)
            · refine va_gets (v := .ref (ad 25)) hx hb (EV.word hEv (i := 25) (by decide)) hS hown (hts _ mm_X8_step_1) (fun _ hh => hh) dX8_step_184 ?_
              refine va_put (D := (dC, dI)) (ci := 9) (v := .ref (ad 25)) (ty := .object "OffTheLead$Word") (C := RX8) (T := TX8) (N := 15) hx hb hts ii_X8_step_X8 tyX8 tyX8_ok nmX8 hown hK hP (xD hN _ _ _ _ _ _) hS 1 (xw_is (r := 1) (by omega) (xc_fix (r := 1) (by omega))) rfl 7 (by decide) (hts _ mm_X8_step_2) (fun _ hh => hh) rfl (by decide +kernel) rfl rfl (Nat.le_of_ble_eq_true rfl) dX8_step_187 (fun H locs hP _ hS => ?_)
              have hP : va_P (dC, dI) vwCl (xw A C nb st30 sl31 (upO so5 1 7 (some (ad 25)))) H := by rw [← xsetO (r := 1) (k := 7) (v := (some (ad 25))) (xc_fix (r := 1) (by omega))]; exact hP
              obtain ⟨so34, eso34⟩ : ∃ y, y = upO so5 1 7 (some (ad 25)) := ⟨_, rfl⟩
              have hO : OG ad [2, 3, 4] so so34 := by rw [eso34]; exact hO.up (isW.of (by omega)) (fun _ _ => ⟨_, by omega, rfl⟩) (by decide)
              rw [← eso34] at hP
              refine lv_goto (tgt := 235) hx hb dX8_step_190 (by decide) ?_
              exact W.vret hx hb hr (fun t ht hW => ⟨⟨(st30, sl31, so34), rfl, ⟨hG, hL, hO, trivial⟩, xB.of ht hP⟩, hS.F ht⟩) hS.2.2 dX8_step_235
            · refine lv_aload_n hx hb dX8_step_166 rfl (lv_at hl 0 rfl) ?_
              refine va_get (D := (dC, dI)) (ci := 9) (v := .ref (A 2)) (C := RX8) (T := TX8) (N := 15) hx hb hts ii_X8_step_X8 hown hK hP 1 (xw_is (r := 1) (by omega) (xc_fix (r := 1) (by omega))) rfl 0 (by decide) (hts _ mm_X8_step_5) (fun _ hh => hh) rfl dX8_step_167 ?_
              refine lv_aload_n hx hb dX8_step_170 rfl (lv_at hl 0 rfl) ?_
              refine va_get (D := (dC, dI)) (ci := 9) (v := .int (st30 1 5)) (C := RX8) (T := TX8) (N := 15) hx hb hts ii_X8_step_X8 hown hK hP 1 (xw_is (r := 1) (by omega) (xc_fix (r := 1) (by omega))) rfl 5 (by decide) (hts _ mm_X8_step_6) (fun _ hh => hh) rfl dX8_step_171 ?_
              obtain ⟨n35, hn35, en35⟩ := hG.1.at (r := 1) (k := 5) (b := 941) (by decide : xrg 1 5 = 941) (by decide)
              refine zz_top (v := nI n35) (by exact en35) ?_
              refine lv_aload_n hx hb dX8_step_174 rfl (lv_at hl 0 rfl) ?_
              refine va_get (D := (dC, dI)) (ci := 9) (v := .int (st30 1 3)) (C := RX8) (T := TX8) (N := 15) hx hb hts ii_X8_step_X8 hown hK hP 1 (xw_is (r := 1) (by omega) (xc_fix (r := 1) (by omega))) rfl 3 (by decide) (hts _ mm_X8_step_3) (fun _ hh => hh) rfl dX8_step_175 ?_
              obtain ⟨n36, hn36, en36⟩ := hG.1.at (r := 1) (k := 3) (b := 941) (by decide : xrg 1 3 = 941) (by decide)
              refine zz_top (v := nI n36) (by exact en36) ?_
              refine va_callr (va_runS (As := [.ref (A 2), .int (nI n35), .int (nI n36)]) (rest := [.ref (A 1)]) ⟨hx, hb, hml, hown, hts⟩ (x_X10_of l dC dI ad E hEE A C nb _ hN st30 sl31 so5 n35 n36 (by omega) (by omega) hG.1) (va_cwS 3 hts gX8_step_X10_of rfl rfl rfl (by decide +kernel) ⟨Nat.le_of_ble_eq_true rfl, Nat.le_of_ble_eq_true rfl⟩) ⟨fun a U g mk q => ⟨q.1, xPre.blind hEE q.2⟩, fun U hU hW => ⟨rfl, xPre.of hEE hP hK hE hS hU hW⟩⟩ rfl rfl hl.1 rfl (lv_room (Nat.le_of_ble_eq_true rfl)) dX8_step_178 ⟨Nat.le_of_ble_eq_true rfl, Nat.le_of_ble_eq_true rfl⟩) hS (fun q _ h => XA.le hS.1 q h) (XA.le hS.1) (fun x r37 t H locs ht hvm hw hB _ _ hS => ?_)
              obtain ⟨hw, hB⟩ := hB
              have hP := xB.at ht hB
              clear hB ht hvm
              obtain ⟨rfl, hw⟩ := hw
              have hP : va_P (dC, dI) vwCl (xw A C nb st30 sl31 so5) _ := hP
              obtain ⟨n38, rfl, hf39⟩ := hw
              refine lv_goto (tgt := 187) hx hb dX8_step_181 (by decide) ?_
              refine va_put (D := (dC, dI)) (ci := 9) (v := .ref (ad n38)) (ty := .object "OffTheLead$Word") (C := RX8) (T := TX8) (N := 15) hx hb hts ii_X8_step_X8 tyX8 tyX8_ok nmX8 hown hK hP (xD hN _ _ _ _ _ _) hS 1 (xw_is (r := 1) (by omega) (xc_fix (r := 1) (by omega))) rfl 7 (by decide) (hts _ mm_X8_step_2) (fun _ hh => hh) rfl (by decide +kernel) rfl rfl (Nat.le_of_ble_eq_true rfl) dX8_step_187 (fun H locs hP _ hS => ?_)
              have hP : va_P (dC, dI) vwCl (xw A C nb st30 sl31 (upO so5 1 7 (some (ad n38)))) H := by rw [← xsetO (r := 1) (k := 7) (v := (some (ad n38))) (xc_fix (r := 1) (by omega))]; exact hP
              obtain ⟨so40, eso40⟩ : ∃ y, y = upO so5 1 7 (some (ad n38)) := ⟨_, rfl⟩
              have hO : OG ad [2, 3, 4] so so40 := by rw [eso40]; exact hO.up (isW.of (by omega)) (fun _ _ => ⟨_, by omega, rfl⟩) (by decide)
              rw [← eso40] at hP
              refine lv_goto (tgt := 235) hx hb dX8_step_190 (by decide) ?_
              exact W.vret hx hb hr (fun t ht hW => ⟨⟨(st30, sl31, so40), rfl, ⟨hG, hL, hO, trivial⟩, xB.of ht hP⟩, hS.F ht⟩) hS.2.2 dX8_step_235
          refine lv_if_ne (tgt := 154) hx hb dX8_step_136 (by decide) (fun cc => absurd (by decide) cc) (fun _ => ?_)
          refine lv_aload_n hx hb dX8_step_139 rfl (lv_at hl 0 rfl) ?_
          refine va_get (D := (dC, dI)) (ci := 9) (v := .ref (A 2)) (C := RX8) (T := TX8) (N := 15) hx hb hts ii_X8_step_X8 hown hK hP 1 (xw_is (r := 1) (by omega) (xc_fix (r := 1) (by omega))) rfl 0 (by decide) (hts _ mm_X8_step_5) (fun _ hh => hh) rfl dX8_step_140 ?_
          refine lv_aload_n hx hb dX8_step_143 rfl (lv_at hl 0 rfl) ?_
          refine va_get (D := (dC, dI)) (ci := 9) (v := .int (st10 1 3)) (C := RX8) (T := TX8) (N := 15) hx hb hts ii_X8_step_X8 hown hK hP 1 (xw_is (r := 1) (by omega) (xc_fix (r := 1) (by omega))) rfl 3 (by decide) (hts _ mm_X8_step_3) (fun _ hh => hh) rfl dX8_step_144 ?_
          refine zz_top (v := (nI g6)) (by show st10 1 3 = _; rw [est10, up2_ne (r := 1) (k := 5) (a := 1) (j := 3) _ _ (by omega), eg6]) ?_
          refine va_bald hx hb hK hP 2 2 (xw_is (r := 2) (by omega) (xc_fix (r := 2) (by omega))) (xt_is (r := 2) (by omega) rfl) (i := (nI g6)) (vp_in_nI (by omega) (by decide)) dX8_step_147 ?_
          refine zz_top (v := z13) (by rw [nI_clamp (by omega)]; show st10 2 g6 = _; rw [ez13]) ?_
          refine va_calli (va_runS (As := [.int z13]) (rest := []) ⟨hx, hb, hml, hown, hts⟩ (x_X8_isDigit l dC dI ad E hEE A C nb _ hN st10 sl4 so5 z13  hG.1) (va_cwS 1 hts gX8_step_X8_isDigit rfl rfl rfl (by decide +kernel) ⟨Nat.le_of_ble_eq_true rfl, Nat.le_of_ble_eq_true rfl⟩) ⟨fun a U g mk q => ⟨q.1, xPre.blind hEE q.2⟩, fun U hU hW => ⟨rfl, xPre.of hEE hP hK hE hS hU hW⟩⟩ rfl rfl hl.1 rfl (lv_room (Nat.le_of_ble_eq_true rfl)) dX8_step_148 ⟨Nat.le_of_ble_eq_true rfl, Nat.le_of_ble_eq_true rfl⟩) hS (fun q _ h => XA.le hS.1 q h) (XA.le hS.1) (fun r41 x t H locs ht hvm hw hB _ _ hS => ?_)
          have hP := xB.at ht hB
          clear hB ht hvm
          obtain ⟨rfl, hw⟩ := hw
          have hP : va_P (dC, dI) vwCl (xw A C nb st10 sl4 so5) _ := hP
          rcases hw with rfl | rfl
          · refine lv_if_eq (tgt := 193) hx hb dX8_step_151 (by decide) (fun cc => absurd cc (by decide)) (fun _ => ?_)
            exact kj28 _ _ _ _ ⟨hP, hS, lv_sub hl [0] rfl, rfl⟩
          · refine lv_if_eq (tgt := 193) hx hb dX8_step_151 (by decide) (fun _ => ?_) (fun cc => absurd (by decide) cc)
            refine lv_aload_n hx hb dX8_step_193 rfl (lv_at hl 0 rfl) ?_
            refine lv_aload_n hx hb dX8_step_194 rfl (lv_at hl 0 rfl) ?_
            refine va_get (D := (dC, dI)) (ci := 9) (v := .ref (A 2)) (C := RX8) (T := TX8) (N := 15) hx hb hts ii_X8_step_X8 hown hK hP 1 (xw_is (r := 1) (by omega) (xc_fix (r := 1) (by omega))) rfl 0 (by decide) (hts _ mm_X8_step_5) (fun _ hh => hh) rfl dX8_step_195 ?_
            refine lv_aload_n hx hb dX8_step_198 rfl (lv_at hl 0 rfl) ?_
            refine va_get (D := (dC, dI)) (ci := 9) (v := .int (st10 1 3)) (C := RX8) (T := TX8) (N := 15) hx hb hts ii_X8_step_X8 hown hK hP 1 (xw_is (r := 1) (by omega) (xc_fix (r := 1) (by omega))) rfl 3 (by decide) (hts _ mm_X8_step_3) (fun _ hh => hh) rfl dX8_step_199 ?_
            refine zz_top (v := (nI g6)) (by show st10 1 3 = _; rw [est10, up2_ne (r := 1) (k := 5) (a := 1) (j := 3) _ _ (by omega), eg6]) ?_
            refine va_bald hx hb hK hP 2 2 (xw_is (r := 2) (by omega) (xc_fix (r := 2) (by omega))) (xt_is (r := 2) (by omega) rfl) (i := (nI g6)) (vp_in_nI (by omega) (by decide)) dX8_step_202 ?_
            refine zz_top (v := z13) (by rw [nI_clamp (by omega)]; show st10 2 g6 = _; rw [ez13]) ?_
            refine va_put (D := (dC, dI)) (ci := 9) (v := .int z13) (ty := .int) (C := RX8) (T := TX8) (N := 15) hx hb hts ii_X8_step_X8 tyX8 tyX8_ok nmX8 hown hK hP (xD hN _ _ _ _ _ _) hS 1 (xw_is (r := 1) (by omega) (xc_fix (r := 1) (by omega))) rfl 6 (by decide) (hts _ mm_X8_step_9) (fun _ hh => hh) rfl (by decide +kernel) rfl rfl (Nat.le_of_ble_eq_true rfl) dX8_step_203 (fun H locs hP _ hS => ?_)
            have hP : va_P (dC, dI) vwCl (xw A C nb (up2 st10 1 6 z13) sl4 so5) H := by rw [← xset (r := 1) (k := 6) (v := z13) (xc_fix (r := 1) (by omega))]; exact hP
            obtain ⟨st42, est42⟩ : ∃ y, y = up2 st10 1 6 z13 := ⟨_, rfl⟩
            have hG : XG [1, 2, 3, 4, 5, 6, 7, 8, 9, 10, 11, 12, 13, 14, 15] st st42 := by rw [est42]; exact hG.up (xz (r := 1) (k := 6) (by decide : xrg 1 6 = 0)) (xpn (c := 0) (by decide : xcl 1 6 = 0) (by decide))
            rw [← est42] at hP
            refine lv_aload_n hx hb dX8_step_206 rfl (lv_at hl 0 rfl) ?_
            refine lv_aload_n hx hb dX8_step_207 rfl (lv_at hl 0 rfl) ?_
            refine va_get (D := (dC, dI)) (ci := 9) (v := .int (st42 1 6)) (C := RX8) (T := TX8) (N := 15) hx hb hts ii_X8_step_X8 hown hK hP 1 (xw_is (r := 1) (by omega) (xc_fix (r := 1) (by omega))) rfl 6 (by decide) (hts _ mm_X8_step_9) (fun _ hh => hh) rfl dX8_step_208 ?_
            refine zz_top (v := z13) (by show st42 1 6 = _; rw [est42, up2_same]) ?_
            refine va_calli (va_runS (As := [.int z13]) (rest := [.ref (A 1)]) ⟨hx, hb, hml, hown, hts⟩ (x_X8_isMark l dC dI ad E hEE A C nb _ hN st42 sl4 so5 z13  hG.1) (va_cwS 1 hts gX8_step_X8_isMark rfl rfl rfl (by decide +kernel) ⟨Nat.le_of_ble_eq_true rfl, Nat.le_of_ble_eq_true rfl⟩) ⟨fun a U g mk q => ⟨q.1, xPre.blind hEE q.2⟩, fun U hU hW => ⟨rfl, xPre.of hEE hP hK hE hS hU hW⟩⟩ rfl rfl hl.1 rfl (lv_room (Nat.le_of_ble_eq_true rfl)) dX8_step_211 ⟨Nat.le_of_ble_eq_true rfl, Nat.le_of_ble_eq_true rfl⟩) hS (fun q _ h => XA.le hS.1 q h) (XA.le hS.1) (fun r43 x t H locs ht hvm hw hB _ _ hS => ?_)
            have hP := xB.at ht hB
            clear hB ht hvm
            obtain ⟨rfl, hw⟩ := hw
            have hP : va_P (dC, dI) vwCl (xw A C nb st42 sl4 so5) _ := hP
            rcases hw with rfl | rfl
            · refine lv_if_eq (tgt := 221) hx hb dX8_step_214 (by decide) (fun cc => absurd cc (by decide)) (fun _ => ?_)
              refine lv_iconst (v := 2) hx hb dX8_step_217 (by decide) ?_
              refine lv_goto (tgt := 222) hx hb dX8_step_218 (by decide) ?_
              refine va_put (D := (dC, dI)) (ci := 9) (v := .int 2) (ty := .int) (C := RX8) (T := TX8) (N := 15) hx hb hts ii_X8_step_X8 tyX8 tyX8_ok nmX8 hown hK hP (xD hN _ _ _ _ _ _) hS 1 (xw_is (r := 1) (by omega) (xc_fix (r := 1) (by omega))) rfl 4 (by decide) (hts _ mm_X8_step_8) (fun _ hh => hh) rfl (by decide +kernel) rfl rfl (Nat.le_of_ble_eq_true rfl) dX8_step_222 (fun H locs hP _ hS => ?_)
              have hP : va_P (dC, dI) vwCl (xw A C nb (up2 st42 1 4 2) sl4 so5) H := by rw [← xset (r := 1) (k := 4) (v := 2) (xc_fix (r := 1) (by omega))]; exact hP
              obtain ⟨st44, est44⟩ : ∃ y, y = up2 st42 1 4 2 := ⟨_, rfl⟩
              have hG : XG [1, 2, 3, 4, 5, 6, 7, 8, 9, 10, 11, 12, 13, 14, 15] st st44 := by rw [est44]; exact hG.up (xz (r := 1) (k := 4) (by decide : xrg 1 4 = 0)) (xpn (c := 0) (by decide : xcl 1 4 = 0) (by decide))
              rw [← est44] at hP
              refine lv_aload_n hx hb dX8_step_225 rfl (lv_at hl 0 rfl) ?_
              refine lv_dup hx hb dX8_step_226 rfl ?_
              refine va_get (D := (dC, dI)) (ci := 9) (v := .int (st44 1 3)) (C := RX8) (T := TX8) (N := 15) hx hb hts ii_X8_step_X8 hown hK hP 1 (xw_is (r := 1) (by omega) (xc_fix (r := 1) (by omega))) rfl 3 (by decide) (hts _ mm_X8_step_3) (fun _ hh => hh) rfl dX8_step_227 ?_
              refine zz_top (v := (nI g6)) (by show st44 1 3 = _; rw [est44, up2_ne (r := 1) (k := 4) (a := 1) (j := 3) _ _ (by omega), est42, up2_ne (r := 1) (k := 6) (a := 1) (j := 3) _ _ (by omega), est10, up2_ne (r := 1) (k := 5) (a := 1) (j := 3) _ _ (by omega), eg6]) ?_
              refine lv_iconst (v := 1) hx hb dX8_step_230 (by decide) ?_
              refine lv_iadd hx hb dX8_step_231 ?_
              refine zz_top (v := nI (g6 + 1)) (nI_add g6 1) ?_
              refine va_put (D := (dC, dI)) (ci := 9) (v := .int (nI (g6 + 1))) (ty := .int) (C := RX8) (T := TX8) (N := 15) hx hb hts ii_X8_step_X8 tyX8 tyX8_ok nmX8 hown hK hP (xD hN _ _ _ _ _ _) hS 1 (xw_is (r := 1) (by omega) (xc_fix (r := 1) (by omega))) rfl 3 (by decide) (hts _ mm_X8_step_3) (fun _ hh => hh) rfl (by decide +kernel) rfl rfl (Nat.le_of_ble_eq_true rfl) dX8_step_232 (fun H locs hP _ hS => ?_)
              have hP : va_P (dC, dI) vwCl (xw A C nb (up2 st44 1 3 (nI (g6 + 1))) sl4 so5) H := by rw [← xset (r := 1) (k := 3) (v := (nI (g6 + 1))) (xc_fix (r := 1) (by omega))]; exact hP
              obtain ⟨st45, est45⟩ : ∃ y, y = up2 st44 1 3 (nI (g6 + 1)) := ⟨_, rfl⟩
              have hG : XG [1, 2, 3, 4, 5, 6, 7, 8, 9, 10, 11, 12, 13, 14, 15] st st45 := by rw [est45]; exact hG.up (xn (n := (g6 + 1)) (b := 941) (by decide : xrg 1 3 = 941) (by omega)) (xpn (c := 0) (by decide : xcl 1 3 = 0) (by decide))
              rw [← est45] at hP
              exact W.vret hx hb hr (fun t ht hW => ⟨⟨(st45, sl4, so5), rfl, ⟨hG, hL, hO, trivial⟩, xB.of ht hP⟩, hS.F ht⟩) hS.2.2 dX8_step_235
            · refine lv_if_eq (tgt := 221) hx hb dX8_step_214 (by decide) (fun _ => ?_) (fun cc => absurd (by decide) cc)
              refine lv_iconst (v := 4) hx hb dX8_step_221 (by decide) ?_
              refine va_put (D := (dC, dI)) (ci := 9) (v := .int 4) (ty := .int) (C := RX8) (T := TX8) (N := 15) hx hb hts ii_X8_step_X8 tyX8 tyX8_ok nmX8 hown hK hP (xD hN _ _ _ _ _ _) hS 1 (xw_is (r := 1) (by omega) (xc_fix (r := 1) (by omega))) rfl 4 (by decide) (hts _ mm_X8_step_8) (fun _ hh => hh) rfl (by decide +kernel) rfl rfl (Nat.le_of_ble_eq_true rfl) dX8_step_222 (fun H locs hP _ hS => ?_)
              have hP : va_P (dC, dI) vwCl (xw A C nb (up2 st42 1 4 4) sl4 so5) H := by rw [← xset (r := 1) (k := 4) (v := 4) (xc_fix (r := 1) (by omega))]; exact hP
              obtain ⟨st46, est46⟩ : ∃ y, y = up2 st42 1 4 4 := ⟨_, rfl⟩
              have hG : XG [1, 2, 3, 4, 5, 6, 7, 8, 9, 10, 11, 12, 13, 14, 15] st st46 := by rw [est46]; exact hG.up (xz (r := 1) (k := 4) (by decide : xrg 1 4 = 0)) (xpn (c := 0) (by decide : xcl 1 4 = 0) (by decide))
              rw [← est46] at hP
              refine lv_aload_n hx hb dX8_step_225 rfl (lv_at hl 0 rfl) ?_
              refine lv_dup hx hb dX8_step_226 rfl ?_
              refine va_get (D := (dC, dI)) (ci := 9) (v := .int (st46 1 3)) (C := RX8) (T := TX8) (N := 15) hx hb hts ii_X8_step_X8 hown hK hP 1 (xw_is (r := 1) (by omega) (xc_fix (r := 1) (by omega))) rfl 3 (by decide) (hts _ mm_X8_step_3) (fun _ hh => hh) rfl dX8_step_227 ?_
              refine zz_top (v := (nI g6)) (by show st46 1 3 = _; rw [est46, up2_ne (r := 1) (k := 4) (a := 1) (j := 3) _ _ (by omega), est42, up2_ne (r := 1) (k := 6) (a := 1) (j := 3) _ _ (by omega), est10, up2_ne (r := 1) (k := 5) (a := 1) (j := 3) _ _ (by omega), eg6]) ?_
              refine lv_iconst (v := 1) hx hb dX8_step_230 (by decide) ?_
              refine lv_iadd hx hb dX8_step_231 ?_
              refine zz_top (v := nI (g6 + 1)) (nI_add g6 1) ?_
              refine va_put (D := (dC, dI)) (ci := 9) (v := .int (nI (g6 + 1))) (ty := .int) (C := RX8) (T := TX8) (N := 15) hx hb hts ii_X8_step_X8 tyX8 tyX8_ok nmX8 hown hK hP (xD hN _ _ _ _ _ _) hS 1 (xw_is (r := 1) (by omega) (xc_fix (r := 1) (by omega))) rfl 3 (by decide) (hts _ mm_X8_step_3) (fun _ hh => hh) rfl (by decide +kernel) rfl rfl (Nat.le_of_ble_eq_true rfl) dX8_step_232 (fun H locs hP _ hS => ?_)
              have hP : va_P (dC, dI) vwCl (xw A C nb (up2 st46 1 3 (nI (g6 + 1))) sl4 so5) H := by rw [← xset (r := 1) (k := 3) (v := (nI (g6 + 1))) (xc_fix (r := 1) (by omega))]; exact hP
              obtain ⟨st47, est47⟩ : ∃ y, y = up2 st46 1 3 (nI (g6 + 1)) := ⟨_, rfl⟩
              have hG : XG [1, 2, 3, 4, 5, 6, 7, 8, 9, 10, 11, 12, 13, 14, 15] st st47 := by rw [est47]; exact hG.up (xn (n := (g6 + 1)) (b := 941) (by decide : xrg 1 3 = 941) (by omega)) (xpn (c := 0) (by decide : xcl 1 3 = 0) (by decide))
              rw [← est47] at hP
              exact W.vret hx hb hr (fun t ht hW => ⟨⟨(st47, sl4, so5), rfl, ⟨hG, hL, hO, trivial⟩, xB.of ht hP⟩, hS.F ht⟩) hS.2.2 dX8_step_235
      · have c2 : ¬ g6 < n9 := fun hh => c2 ((nI_ltI (a := g6) (b := n9) (by omega) (by omega)).mpr hh)
        refine lv_aload_n hx hb dX8_step_116 rfl (lv_at hl 0 rfl) ?_
        refine lv_iconst (v := 3) hx hb dX8_step_117 (by decide) ?_
        refine va_put (D := (dC, dI)) (ci := 9) (v := .int 3) (ty := .int) (C := RX8) (T := TX8) (N := 15) hx hb hts ii_X8_step_X8 tyX8 tyX8_ok nmX8 hown hK hP (xD hN _ _ _ _ _ _) hS 1 (xw_is (r := 1) (by omega) (xc_fix (r := 1) (by omega))) rfl 4 (by decide) (hts _ mm_X8_step_8) (fun _ hh => hh) rfl (by decide +kernel) rfl rfl (Nat.le_of_ble_eq_true rfl) dX8_step_118 (fun H locs hP _ hS => ?_)
        have hP : va_P (dC, dI) vwCl (xw A C nb (up2 st10 1 4 3) sl4 so5) H := by rw [← xset (r := 1) (k := 4) (v := 3) (xc_fix (r := 1) (by omega))]; exact hP
        obtain ⟨st48, est48⟩ : ∃ y, y = up2 st10 1 4 3 := ⟨_, rfl⟩
        have hG : XG [1, 2, 3, 4, 5, 6, 7, 8, 9, 10, 11, 12, 13, 14, 15] st st48 := by rw [est48]; exact hG.up (xz (r := 1) (k := 4) (by decide : xrg 1 4 = 0)) (xpn (c := 0) (by decide : xcl 1 4 = 0) (by decide))
        rw [← est48] at hP
        refine lv_goto (tgt := 235) hx hb dX8_step_121 (by decide) ?_
        exact W.vret hx hb hr (fun t ht hW => ⟨⟨(st48, sl4, so5), rfl, ⟨hG, hL, hO, trivial⟩, xB.of ht hP⟩, hS.F ht⟩) hS.2.2 dX8_step_235
    refine lv_icmp_le (tgt := 105) hx hb dX8_step_75 (by decide) (fun c11 => ?_) (fun c11 => ?_)
    · have c11 : n9 ≤ n11 := (nI_leI (a := n9) (b := n11) (by omega) (by omega)).mp c11
      exact kj12 _ _ _ _ ⟨hP, hS, lv_sub hl [0] rfl, rfl⟩
    · have c11 : ¬ n9 ≤ n11 := fun hh => c11 ((nI_leI (a := n9) (b := n11) (by omega) (by omega)).mpr hh)
      refine lv_aload_n hx hb dX8_step_78 rfl (lv_at hl 0 rfl) ?_
      refine va_get (D := (dC, dI)) (ci := 9) (v := .int (st10 1 3)) (C := RX8) (T := TX8) (N := 15) hx hb hts ii_X8_step_X8 hown hK hP 1 (xw_is (r := 1) (by omega) (xc_fix (r := 1) (by omega))) rfl 3 (by decide) (hts _ mm_X8_step_3) (fun _ hh => hh) rfl dX8_step_79 ?_
      refine zz_top (v := (nI g6)) (by show st10 1 3 = _; rw [est10, up2_ne (r := 1) (k := 5) (a := 1) (j := 3) _ _ (by omega), eg6]) ?_
      refine lv_aload_n hx hb dX8_step_82 rfl (lv_at hl 0 rfl) ?_
      refine va_get (D := (dC, dI)) (ci := 9) (v := .int (st10 1 2)) (C := RX8) (T := TX8) (N := 15) hx hb hts ii_X8_step_X8 hown hK hP 1 (xw_is (r := 1) (by omega) (xc_fix (r := 1) (by omega))) rfl 2 (by decide) (hts _ mm_X8_step_7) (fun _ hh => hh) rfl dX8_step_83 ?_
      refine zz_top (v := (nI n11)) (by show st10 1 2 = _; rw [en11]) ?_
      refine lv_icmp_lt (tgt := 105) hx hb dX8_step_86 (by decide) (fun c12 => ?_) (fun c12 => ?_)
      · have c12 : g6 < n11 := (nI_ltI (a := g6) (b := n11) (by omega) (by omega)).mp c12
        exact kj12 _ _ _ _ ⟨hP, hS, lv_sub hl [0] rfl, rfl⟩
      · have c12 : ¬ g6 < n11 := fun hh => c12 ((nI_ltI (a := g6) (b := n11) (by omega) (by omega)).mpr hh)
        refine lv_aload_n hx hb dX8_step_89 rfl (lv_at hl 0 rfl) ?_
        refine lv_aload_n hx hb dX8_step_90 rfl (lv_at hl 0 rfl) ?_
        refine va_get (D := (dC, dI)) (ci := 9) (v := .int (st10 1 2)) (C := RX8) (T := TX8) (N := 15) hx hb hts ii_X8_step_X8 hown hK hP 1 (xw_is (r := 1) (by omega) (xc_fix (r := 1) (by omega))) rfl 2 (by decide) (hts _ mm_X8_step_7) (fun _ hh => hh) rfl dX8_step_91 ?_
        refine zz_top (v := (nI n11)) (by show st10 1 2 = _; rw [en11]) ?_
        refine va_put (D := (dC, dI)) (ci := 9) (v := .int (nI n11)) (ty := .int) (C := RX8) (T := TX8) (N := 15) hx hb hts ii_X8_step_X8 tyX8 tyX8_ok nmX8 hown hK hP (xD hN _ _ _ _ _ _) hS 1 (xw_is (r := 1) (by omega) (xc_fix (r := 1) (by omega))) rfl 5 (by decide) (hts _ mm_X8_step_6) (fun _ hh => hh) rfl (by decide +kernel) rfl rfl (Nat.le_of_ble_eq_true rfl) dX8_step_94 (fun H locs hP _ hS => ?_)
        have hP : va_P (dC, dI) vwCl (xw A C nb (up2 st10 1 5 (nI n11)) sl4 so5) H := by rw [← xset (r := 1) (k := 5) (v := (nI n11)) (xc_fix (r := 1) (by omega))]; exact hP
        obtain ⟨st49, est49⟩ : ∃ y, y = up2 st10 1 5 (nI n11) := ⟨_, rfl⟩
        have hG : XG [1, 2, 3, 4, 5, 6, 7, 8, 9, 10, 11, 12, 13, 14, 15] st st49 := by rw [est49]; exact hG.up (xn (n := n11) (b := 941) (by decide : xrg 1 5 = 941) (by omega)) (xpn (c := 0) (by decide : xcl 1 5 = 0) (by decide))
        rw [← est49] at hP
        refine lv_aload_n hx hb dX8_step_97 rfl (lv_at hl 0 rfl) ?_
        refine lv_iconst (v := 4) hx hb dX8_step_98 (by decide) ?_
        refine va_put (D := (dC, dI)) (ci := 9) (v := .int 4) (ty := .int) (C := RX8) (T := TX8) (N := 15) hx hb hts ii_X8_step_X8 tyX8 tyX8_ok nmX8 hown hK hP (xD hN _ _ _ _ _ _) hS 1 (xw_is (r := 1) (by omega) (xc_fix (r := 1) (by omega))) rfl 4 (by decide) (hts _ mm_X8_step_8) (fun _ hh => hh) rfl (by decide +kernel) rfl rfl (Nat.le_of_ble_eq_true rfl) dX8_step_99 (fun H locs hP _ hS => ?_)
        have hP : va_P (dC, dI) vwCl (xw A C nb (up2 st49 1 4 4) sl4 so5) H := by rw [← xset (r := 1) (k := 4) (v := 4) (xc_fix (r := 1) (by omega))]; exact hP
        obtain ⟨st50, est50⟩ : ∃ y, y = up2 st49 1 4 4 := ⟨_, rfl⟩
        have hG : XG [1, 2, 3, 4, 5, 6, 7, 8, 9, 10, 11, 12, 13, 14, 15] st st50 := by rw [est50]; exact hG.up (xz (r := 1) (k := 4) (by decide : xrg 1 4 = 0)) (xpn (c := 0) (by decide : xcl 1 4 = 0) (by decide))
        rw [← est50] at hP
        refine lv_goto (tgt := 235) hx hb dX8_step_102 (by decide) ?_
        exact W.vret hx hb hr (fun t ht hW => ⟨⟨(st50, sl4, so5), rfl, ⟨hG, hL, hO, trivial⟩, xB.of ht hP⟩, hS.F ht⟩) hS.2.2 dX8_step_235
  · have c1 : ¬ n9 ≤ g6 := fun hh => c1 ((nI_leI (a := n9) (b := g6) (by omega) (by omega)).mpr hh)
    refine lv_aload_n hx hb dX8_step_18 rfl (lv_at hl 0 rfl) ?_
    refine va_get (D := (dC, dI)) (ci := 9) (v := .ref (A 2)) (C := RX8) (T := TX8) (N := 15) hx hb hts ii_X8_step_X8 hown hK hP 1 (xw_is (r := 1) (by omega) (xc_fix (r := 1) (by omega))) rfl 0 (by decide) (hts _ mm_X8_step_5) (fun _ hh => hh) rfl dX8_step_19 ?_
    refine lv_aload_n hx hb dX8_step_22 rfl (lv_at hl 0 rfl) ?_
    refine va_get (D := (dC, dI)) (ci := 9) (v := .int (st3 1 3)) (C := RX8) (T := TX8) (N := 15) hx hb hts ii_X8_step_X8 hown hK hP 1 (xw_is (r := 1) (by omega) (xc_fix (r := 1) (by omega))) rfl 3 (by decide) (hts _ mm_X8_step_3) (fun _ hh => hh) rfl dX8_step_23 ?_
    refine zz_top (v := (nI g6)) (by show st3 1 3 = _; rw [eg6]) ?_
    refine va_bald hx hb hK hP 2 2 (xw_is (r := 2) (by omega) (xc_fix (r := 2) (by omega))) (xt_is (r := 2) (by omega) rfl) (i := (nI g6)) (vp_in_nI (by omega) (by decide)) dX8_step_26 ?_
    obtain ⟨z51, ez51⟩ : ∃ y : Int32, st3 2 g6 = y := ⟨_, rfl⟩
    refine zz_top (v := z51) (by rw [nI_clamp (by omega)]; exact ez51) ?_
    refine lv_bipush (v := 32) hx hb dX8_step_27 (by decide) ?_
    refine lv_icmp_eq (tgt := 46) hx hb dX8_step_29 (by decide) (fun c13 => ?_) (fun c13 => ?_)
    · refine lv_aload_n hx hb dX8_step_46 rfl (lv_at hl 0 rfl) ?_
      refine lv_dup hx hb dX8_step_47 rfl ?_
      refine va_get (D := (dC, dI)) (ci := 9) (v := .int (st3 1 3)) (C := RX8) (T := TX8) (N := 15) hx hb hts ii_X8_step_X8 hown hK hP 1 (xw_is (r := 1) (by omega) (xc_fix (r := 1) (by omega))) rfl 3 (by decide) (hts _ mm_X8_step_3) (fun _ hh => hh) rfl dX8_step_48 ?_
      refine zz_top (v := (nI g6)) (by show st3 1 3 = _; rw [eg6]) ?_
      refine lv_iconst (v := 1) hx hb dX8_step_51 (by decide) ?_
      refine lv_iadd hx hb dX8_step_52 ?_
      refine zz_top (v := nI (g6 + 1)) (nI_add g6 1) ?_
      refine va_put (D := (dC, dI)) (ci := 9) (v := .int (nI (g6 + 1))) (ty := .int) (C := RX8) (T := TX8) (N := 15) hx hb hts ii_X8_step_X8 tyX8 tyX8_ok nmX8 hown hK hP (xD hN _ _ _ _ _ _) hS 1 (xw_is (r := 1) (by omega) (xc_fix (r := 1) (by omega))) rfl 3 (by decide) (hts _ mm_X8_step_3) (fun _ hh => hh) rfl (by decide +kernel) rfl rfl (Nat.le_of_ble_eq_true rfl) dX8_step_53 (fun H locs hP _ hS => ?_)
      have hP : va_P (dC, dI) vwCl (xw A C nb (up2 st3 1 3 (nI (g6 + 1))) sl4 so5) H := by rw [← xset (r := 1) (k := 3) (v := (nI (g6 + 1))) (xc_fix (r := 1) (by omega))]; exact hP
      obtain ⟨st52, est52⟩ : ∃ y, y = up2 st3 1 3 (nI (g6 + 1)) := ⟨_, rfl⟩
      have hG : XG [1, 2, 3, 4, 5, 6, 7, 8, 9, 10, 11, 12, 13, 14, 15] st st52 := by rw [est52]; exact hG.up (xn (n := (g6 + 1)) (b := 941) (by decide : xrg 1 3 = 941) (by omega)) (xpn (c := 0) (by decide : xcl 1 3 = 0) (by decide))
      rw [← est52] at hP
      refine lv_goto (tgt := 7) hx hb dX8_step_56 (by decide) ?_
      exact ih8 (941 - (g6 + 1)) _ _ _ _ (by omega) ⟨st52, sl4, so5, (g6 + 1), rfl, by omega, by rw [est52, up2_same], hP, hG, hO, hL, hS, lv_sub hl [0] rfl, rfl⟩
    · refine lv_aload_n hx hb dX8_step_32 rfl (lv_at hl 0 rfl) ?_
      refine va_get (D := (dC, dI)) (ci := 9) (v := .ref (A 2)) (C := RX8) (T := TX8) (N := 15) hx hb hts ii_X8_step_X8 hown hK hP 1 (xw_is (r := 1) (by omega) (xc_fix (r := 1) (by omega))) rfl 0 (by decide) (hts _ mm_X8_step_5) (fun _ hh => hh) rfl dX8_step_33 ?_
      refine lv_aload_n hx hb dX8_step_36 rfl (lv_at hl 0 rfl) ?_
      refine va_get (D := (dC, dI)) (ci := 9) (v := .int (st3 1 3)) (C := RX8) (T := TX8) (N := 15) hx hb hts ii_X8_step_X8 hown hK hP 1 (xw_is (r := 1) (by omega) (xc_fix (r := 1) (by omega))) rfl 3 (by decide) (hts _ mm_X8_step_3) (fun _ hh => hh) rfl dX8_step_37 ?_
      refine zz_top (v := (nI g6)) (by show st3 1 3 = _; rw [eg6]) ?_
      refine va_bald hx hb hK hP 2 2 (xw_is (r := 2) (by omega) (xc_fix (r := 2) (by omega))) (xt_is (r := 2) (by omega) rfl) (i := (nI g6)) (vp_in_nI (by omega) (by decide)) dX8_step_40 ?_
      refine zz_top (v := z51) (by rw [nI_clamp (by omega)]; show st3 2 g6 = _; rw [ez51]) ?_
      refine lv_bipush (v := 10) hx hb dX8_step_41 (by decide) ?_
      refine lv_icmp_ne (tgt := 59) hx hb dX8_step_43 (by decide) (fun c14 => ?_) (fun c14 => ?_)
      · refine lv_aload_n hx hb dX8_step_59 rfl (lv_at hl 0 rfl) ?_
        refine lv_aload_n hx hb dX8_step_60 rfl (lv_at hl 0 rfl) ?_
        refine va_get (D := (dC, dI)) (ci := 9) (v := .int (st3 1 3)) (C := RX8) (T := TX8) (N := 15) hx hb hts ii_X8_step_X8 hown hK hP 1 (xw_is (r := 1) (by omega) (xc_fix (r := 1) (by omega))) rfl 3 (by decide) (hts _ mm_X8_step_3) (fun _ hh => hh) rfl dX8_step_61 ?_
        refine zz_top (v := (nI g6)) (by show st3 1 3 = _; rw [eg6]) ?_
        refine va_put (D := (dC, dI)) (ci := 9) (v := .int (nI g6)) (ty := .int) (C := RX8) (T := TX8) (N := 15) hx hb hts ii_X8_step_X8 tyX8 tyX8_ok nmX8 hown hK hP (xD hN _ _ _ _ _ _) hS 1 (xw_is (r := 1) (by omega) (xc_fix (r := 1) (by omega))) rfl 5 (by decide) (hts _ mm_X8_step_6) (fun _ hh => hh) rfl (by decide +kernel) rfl rfl (Nat.le_of_ble_eq_true rfl) dX8_step_64 (fun H locs hP _ hS => ?_)
        have hP : va_P (dC, dI) vwCl (xw A C nb (up2 st3 1 5 (nI g6)) sl4 so5) H := by rw [← xset (r := 1) (k := 5) (v := (nI g6)) (xc_fix (r := 1) (by omega))]; exact hP
        obtain ⟨st53, est53⟩ : ∃ y, y = up2 st3 1 5 (nI g6) := ⟨_, rfl⟩
        have hG : XG [1, 2, 3, 4, 5, 6, 7, 8, 9, 10, 11, 12, 13, 14, 15] st st53 := by rw [est53]; exact hG.up (xn (n := g6) (b := 941) (by decide : xrg 1 5 = 941) (by omega)) (xpn (c := 0) (by decide : xcl 1 5 = 0) (by decide))
        rw [← est53] at hP
        refine lv_aload_n hx hb dX8_step_67 rfl (lv_at hl 0 rfl) ?_
        refine va_get (D := (dC, dI)) (ci := 9) (v := .int (st53 1 1)) (C := RX8) (T := TX8) (N := 15) hx hb hts ii_X8_step_X8 hown hK hP 1 (xw_is (r := 1) (by omega) (xc_fix (r := 1) (by omega))) rfl 1 (by decide) (hts _ mm_X8_step_4) (fun _ hh => hh) rfl dX8_step_68 ?_
        refine zz_top (v := (nI n9)) (by show st53 1 1 = _; rw [est53, up2_ne (r := 1) (k := 5) (a := 1) (j := 1) _ _ (by omega), en9]) ?_
        refine lv_aload_n hx hb dX8_step_71 rfl (lv_at hl 0 rfl) ?_
        refine va_get (D := (dC, dI)) (ci := 9) (v := .int (st53 1 2)) (C := RX8) (T := TX8) (N := 15) hx hb hts ii_X8_step_X8 hown hK hP 1 (xw_is (r := 1) (by omega) (xc_fix (r := 1) (by omega))) rfl 2 (by decide) (hts _ mm_X8_step_7) (fun _ hh => hh) rfl dX8_step_72 ?_
        obtain ⟨n54, hn54, en54⟩ := hG.1.at (r := 1) (k := 2) (b := 941) (by decide : xrg 1 2 = 941) (by decide)
        refine zz_top (v := nI n54) (by exact en54) ?_
        refine zz_join (pcJ := 105) (fun stk H locs ls => va_P (dC, dI) vwCl (xw A C nb st53 sl4 so5) H ∧ va_S (XA A s.heap.size) s.heap H locs ∧ lv_has ls 1 [(0, .ref (A 1))] ∧ stk = []) ?_ (fun kj55 => ?_)
        · rintro stk H locs ls ⟨hP, hS, hl, rfl⟩
          refine lv_aload_n hx hb dX8_step_105 rfl (lv_at hl 0 rfl) ?_
          refine va_get (D := (dC, dI)) (ci := 9) (v := .int (st53 1 3)) (C := RX8) (T := TX8) (N := 15) hx hb hts ii_X8_step_X8 hown hK hP 1 (xw_is (r := 1) (by omega) (xc_fix (r := 1) (by omega))) rfl 3 (by decide) (hts _ mm_X8_step_3) (fun _ hh => hh) rfl dX8_step_106 ?_
          refine zz_top (v := (nI g6)) (by show st53 1 3 = _; rw [est53, up2_ne (r := 1) (k := 5) (a := 1) (j := 3) _ _ (by omega), eg6]) ?_
          refine lv_aload_n hx hb dX8_step_109 rfl (lv_at hl 0 rfl) ?_
          refine va_get (D := (dC, dI)) (ci := 9) (v := .int (st53 1 1)) (C := RX8) (T := TX8) (N := 15) hx hb hts ii_X8_step_X8 hown hK hP 1 (xw_is (r := 1) (by omega) (xc_fix (r := 1) (by omega))) rfl 1 (by decide) (hts _ mm_X8_step_4) (fun _ hh => hh) rfl dX8_step_110 ?_
          refine zz_top (v := (nI n9)) (by show st53 1 1 = _; rw [est53, up2_ne (r := 1) (k := 5) (a := 1) (j := 1) _ _ (by omega), en9]) ?_
          refine lv_icmp_lt (tgt := 124) hx hb dX8_step_113 (by decide) (fun c15 => ?_) (fun c15 => ?_)
          · have c15 : g6 < n9 := (nI_ltI (a := g6) (b := n9) (by omega) (by omega)).mp c15
            refine lv_aload_n hx hb dX8_step_124 rfl (lv_at hl 0 rfl) ?_
            refine va_get (D := (dC, dI)) (ci := 9) (v := .ref (A 2)) (C := RX8) (T := TX8) (N := 15) hx hb hts ii_X8_step_X8 hown hK hP 1 (xw_is (r := 1) (by omega) (xc_fix (r := 1) (by omega))) rfl 0 (by decide) (hts _ mm_X8_step_5) (fun _ hh => hh) rfl dX8_step_125 ?_
            refine lv_aload_n hx hb dX8_step_128 rfl (lv_at hl 0 rfl) ?_
            refine va_get (D := (dC, dI)) (ci := 9) (v := .int (st53 1 3)) (C := RX8) (T := TX8) (N := 15) hx hb hts ii_X8_step_X8 hown hK hP 1 (xw_is (r := 1) (by omega) (xc_fix (r := 1) (by omega))) rfl 3 (by decide) (hts _ mm_X8_step_3) (fun _ hh => hh) rfl dX8_step_129 ?_
            refine zz_top (v := (nI g6)) (by show st53 1 3 = _; rw [est53, up2_ne (r := 1) (k := 5) (a := 1) (j := 3) _ _ (by omega), eg6]) ?_
            refine va_bald hx hb hK hP 2 2 (xw_is (r := 2) (by omega) (xc_fix (r := 2) (by omega))) (xt_is (r := 2) (by omega) rfl) (i := (nI g6)) (vp_in_nI (by omega) (by decide)) dX8_step_132 ?_
            refine zz_top (v := z51) (by rw [nI_clamp (by omega)]; show st53 2 g6 = _; rw [est53, up2_ne (r := 1) (k := 5) (a := 2) (j := g6) _ _ (by omega), ez51]) ?_
            refine va_calli (va_runS (As := [.int z51]) (rest := []) ⟨hx, hb, hml, hown, hts⟩ (x_X8_isLetter l dC dI ad E hEE A C nb _ hN st53 sl4 so5 z51  hG.1) (va_cwS 1 hts gX8_step_X8_isLetter rfl rfl rfl (by decide +kernel) ⟨Nat.le_of_ble_eq_true rfl, Nat.le_of_ble_eq_true rfl⟩) ⟨fun a U g mk q => ⟨q.1, xPre.blind hEE q.2⟩, fun U hU hW => ⟨rfl, xPre.of hEE hP hK hE hS hU hW⟩⟩ rfl rfl hl.1 rfl (lv_room (Nat.le_of_ble_eq_true rfl)) dX8_step_133 ⟨Nat.le_of_ble_eq_true rfl, Nat.le_of_ble_eq_true rfl⟩) hS (fun q _ h => XA.le hS.1 q h) (XA.le hS.1) (fun r56 x t H locs ht hvm hw hB _ _ hS => ?_)
            have hP := xB.at ht hB
            clear hB ht hvm
            obtain ⟨rfl, hw⟩ := hw
            have hP : va_P (dC, dI) vwCl (xw A C nb st53 sl4 so5) _ := hP
            rcases hw with rfl | rfl
            · refine zz_join (pcJ := 154) (fun stk H locs ls => va_P (dC, dI) vwCl (xw A C nb st53 sl4 so5) H ∧ va_S (XA A s.heap.size) s.heap H locs ∧ lv_has ls 1 [(0, .ref (A 1))] ∧ stk = []) ?_ (fun kj57 => ?_)
              · rintro stk H locs ls ⟨hP, hS, hl, rfl⟩
                refine lv_aload_n hx hb dX8_step_154 rfl (lv_at hl 0 rfl) ?_
                refine va_callv (va_runV (As := []) (rest := []) ⟨hx, hb, hml, hown, hts⟩ (x_X8_stepOverRun l dC dI ad E hEE A C nb _ hN st53 sl4 so5  hG.1) (cwV 0 hts gX8_step_X8_stepOverRun rfl rfl rfl (by decide +kernel) ⟨Nat.le_of_ble_eq_true rfl, Nat.le_of_ble_eq_true rfl⟩) ⟨fun a U g mk q => ⟨q.1, xPre.blind hEE q.2⟩, va_recv hK hP (ci := 9) (q0 := 1) rfl (xw_is (r := 1) (by omega) (xc_fix (r := 1) (by omega))), fun U hU hW => ⟨rfl, xPre.of hEE hP hK hE hS hU hW⟩⟩ rfl rfl hl.1 rfl (lv_room (Nat.le_of_ble_eq_true rfl)) dX8_step_155 ⟨Nat.le_of_ble_eq_true rfl, Nat.le_of_ble_eq_true rfl⟩) hS (fun q _ h => XA.le hS.1 q h) (XA.le hS.1) (fun x t H locs ht hvm hw hB _ _ hS => ?_)
                have hP := xB.at ht hB
                clear hB ht hvm
                obtain ⟨st59, sl60, so61⟩ := x
                obtain ⟨hGst59, hLGst59, hOst59, hw⟩ := hw
                dsimp only at hGst59 hLGst59 hOst59 hw
                have hL : LGq sl sl60 := hL.tr hLGst59
                replace hOst59 := hOst59.symm
                subst hOst59
                have hP : va_P (dC, dI) vwCl (xw A C nb st59 sl60 so5) _ := hP
                have hG : XG [1, 2, 3, 4, 5, 6, 7, 8, 9, 10, 11, 12, 13, 14, 15] st st59 := hG.tr hGst59 (by decide)
                clear hw
                refine lv_aload_n hx hb dX8_step_158 rfl (lv_at hl 0 rfl) ?_
                refine lv_aload_n hx hb dX8_step_159 rfl (lv_at hl 0 rfl) ?_
                refine va_get (D := (dC, dI)) (ci := 9) (v := .int (st59 1 4)) (C := RX8) (T := TX8) (N := 15) hx hb hts ii_X8_step_X8 hown hK hP 1 (xw_is (r := 1) (by omega) (xc_fix (r := 1) (by omega))) rfl 4 (by decide) (hts _ mm_X8_step_8) (fun _ hh => hh) rfl dX8_step_160 ?_
                obtain ⟨z62, ez62⟩ : ∃ y : Int32, st59 1 4 = y := ⟨_, rfl⟩
                refine zz_top (v := z62) (by exact ez62) ?_
                refine lv_if_ne (tgt := 184) hx hb dX8_step_163 (by decide) (fun c16 => ?_) (fun c16 => ?_)
                · refine va_gets (v := .ref (ad 25)) hx hb (EV.word hEv (i := 25) (by decide)) hS hown (hts _ mm_X8_step_1) (fun _ hh => hh) dX8_step_184 ?_
                  refine va_put (D := (dC, dI)) (ci := 9) (v := .ref (ad 25)) (ty := .object "OffTheLead$Word") (C := RX8) (T := TX8) (N := 15) hx hb hts ii_X8_step_X8 tyX8 tyX8_ok nmX8 hown hK hP (xD hN _ _ _ _ _ _) hS 1 (xw_is (r := 1) (by omega) (xc_fix (r := 1) (by omega))) rfl 7 (by decide) (hts _ mm_X8_step_2) (fun _ hh => hh) rfl (by decide +kernel) rfl rfl (Nat.le_of_ble_eq_true rfl) dX8_step_187 (fun H locs hP _ hS => ?_)
                  have hP : va_P (dC, dI) vwCl (xw A C nb st59 sl60 (upO so5 1 7 (some (ad 25)))) H := by rw [← xsetO (r := 1) (k := 7) (v := (some (ad 25))) (xc_fix (r := 1) (by omega))]; exact hP
                  obtain ⟨so63, eso63⟩ : ∃ y, y = upO so5 1 7 (some (ad 25)) := ⟨_, rfl⟩
                  have hO : OG ad [2, 3, 4] so so63 := by rw [eso63]; exact hO.up (isW.of (by omega)) (fun _ _ => ⟨_, by omega, rfl⟩) (by decide)
                  rw [← eso63] at hP
                  refine lv_goto (tgt := 235) hx hb dX8_step_190 (by decide) ?_
                  exact W.vret hx hb hr (fun t ht hW => ⟨⟨(st59, sl60, so63), rfl, ⟨hG, hL, hO, trivial⟩, xB.of ht hP⟩, hS.F ht⟩) hS.2.2 dX8_step_235
                · refine lv_aload_n hx hb dX8_step_166 rfl (lv_at hl 0 rfl) ?_
                  refine va_get (D := (dC, dI)) (ci := 9) (v := .ref (A 2)) (C := RX8) (T := TX8) (N := 15) hx hb hts ii_X8_step_X8 hown hK hP 1 (xw_is (r := 1) (by omega) (xc_fix (r := 1) (by omega))) rfl 0 (by decide) (hts _ mm_X8_step_5) (fun _ hh => hh) rfl dX8_step_167 ?_
                  refine lv_aload_n hx hb dX8_step_170 rfl (lv_at hl 0 rfl) ?_
                  refine va_get (D := (dC, dI)) (ci := 9) (v := .int (st59 1 5)) (C := RX8) (T := TX8) (N := 15) hx hb hts ii_X8_step_X8 hown hK hP 1 (xw_is (r := 1) (by omega) (xc_fix (r := 1) (by omega))) rfl 5 (by decide) (hts _ mm_X8_step_6) (fun _ hh => hh) rfl dX8_step_171 ?_
                  obtain ⟨n64, hn64, en64⟩ := hG.1.at (r := 1) (k := 5) (b := 941) (by decide : xrg 1 5 = 941) (by decide)
                  refine zz_top (v := nI n64) (by exact en64) ?_
                  refine lv_aload_n hx hb dX8_step_174 rfl (lv_at hl 0 rfl) ?_
                  refine va_get (D := (dC, dI)) (ci := 9) (v := .int (st59 1 3)) (C := RX8) (T := TX8) (N := 15) hx hb hts ii_X8_step_X8 hown hK hP 1 (xw_is (r := 1) (by omega) (xc_fix (r := 1) (by omega))) rfl 3 (by decide) (hts _ mm_X8_step_3) (fun _ hh => hh) rfl dX8_step_175 ?_
                  obtain ⟨n65, hn65, en65⟩ := hG.1.at (r := 1) (k := 3) (b := 941) (by decide : xrg 1 3 = 941) (by decide)
                  refine zz_top (v := nI n65) (by exact en65) ?_
                  refine va_callr (va_runS (As := [.ref (A 2), .int (nI n64), .int (nI n65)]) (rest := [.ref (A 1)]) ⟨hx, hb, hml, hown, hts⟩ (x_X10_of l dC dI ad E hEE A C nb _ hN st59 sl60 so5 n64 n65 (by omega) (by omega) hG.1) (va_cwS 3 hts gX8_step_X10_of rfl rfl rfl (by decide +kernel) ⟨Nat.le_of_ble_eq_true rfl, Nat.le_of_ble_eq_true rfl⟩) ⟨fun a U g mk q => ⟨q.1, xPre.blind hEE q.2⟩, fun U hU hW => ⟨rfl, xPre.of hEE hP hK hE hS hU hW⟩⟩ rfl rfl hl.1 rfl (lv_room (Nat.le_of_ble_eq_true rfl)) dX8_step_178 ⟨Nat.le_of_ble_eq_true rfl, Nat.le_of_ble_eq_true rfl⟩) hS (fun q _ h => XA.le hS.1 q h) (XA.le hS.1) (fun x r66 t H locs ht hvm hw hB _ _ hS => ?_)
                  obtain ⟨hw, hB⟩ := hB
                  have hP := xB.at ht hB
                  clear hB ht hvm
                  obtain ⟨rfl, hw⟩ := hw
                  have hP : va_P (dC, dI) vwCl (xw A C nb st59 sl60 so5) _ := hP
                  obtain ⟨n67, rfl, hf68⟩ := hw
                  refine lv_goto (tgt := 187) hx hb dX8_step_181 (by decide) ?_
                  refine va_put (D := (dC, dI)) (ci := 9) (v := .ref (ad n67)) (ty := .object "OffTheLead$Word") (C := RX8) (T := TX8) (N := 15) hx hb hts ii_X8_step_X8 tyX8 tyX8_ok nmX8 hown hK hP (xD hN _ _ _ _ _ _) hS 1 (xw_is (r := 1) (by omega) (xc_fix (r := 1) (by omega))) rfl 7 (by decide) (hts _ mm_X8_step_2) (fun _ hh => hh) rfl (by decide +kernel) rfl rfl (Nat.le_of_ble_eq_true rfl) dX8_step_187 (fun H locs hP _ hS => ?_)
                  have hP : va_P (dC, dI) vwCl (xw A C nb st59 sl60 (upO so5 1 7 (some (ad n67)))) H := by rw [← xsetO (r := 1) (k := 7) (v := (some (ad n67))) (xc_fix (r := 1) (by omega))]; exact hP
                  obtain ⟨so69, eso69⟩ : ∃ y, y = upO so5 1 7 (some (ad n67)) := ⟨_, rfl⟩
                  have hO : OG ad [2, 3, 4] so so69 := by rw [eso69]; exact hO.up (isW.of (by omega)) (fun _ _ => ⟨_, by omega, rfl⟩) (by decide)
                  rw [← eso69] at hP
                  refine lv_goto (tgt := 235) hx hb dX8_step_190 (by decide) ?_
                  exact W.vret hx hb hr (fun t ht hW => ⟨⟨(st59, sl60, so69), rfl, ⟨hG, hL, hO, trivial⟩, xB.of ht hP⟩, hS.F ht⟩) hS.2.2 dX8_step_235
              refine lv_if_ne (tgt := 154) hx hb dX8_step_136 (by decide) (fun _ => ?_) (fun cc => absurd cc (by decide))
              exact kj57 _ _ _ _ ⟨hP, hS, lv_sub hl [0] rfl, rfl⟩
            · refine zz_join (pcJ := 154) (fun stk H locs ls => va_P (dC, dI) vwCl (xw A C nb st53 sl4 so5) H ∧ va_S (XA A s.heap.size) s.heap H locs ∧ lv_has ls 1 [(0, .ref (A 1))] ∧ stk = []) ?_ (fun kj70 => ?_)
              · rintro stk H locs ls ⟨hP, hS, hl, rfl⟩
                refine lv_aload_n hx hb dX8_step_154 rfl (lv_at hl 0 rfl) ?_
                refine va_callv (va_runV (As := []) (rest := []) ⟨hx, hb, hml, hown, hts⟩ (x_X8_stepOverRun l dC dI ad E hEE A C nb _ hN st53 sl4 so5  hG.1) (cwV 0 hts gX8_step_X8_stepOverRun rfl rfl rfl (by decide +kernel) ⟨Nat.le_of_ble_eq_true rfl, Nat.le_of_ble_eq_true rfl⟩) ⟨fun a U g mk q => ⟨q.1, xPre.blind hEE q.2⟩, va_recv hK hP (ci := 9) (q0 := 1) rfl (xw_is (r := 1) (by omega) (xc_fix (r := 1) (by omega))), fun U hU hW => ⟨rfl, xPre.of hEE hP hK hE hS hU hW⟩⟩ rfl rfl hl.1 rfl (lv_room (Nat.le_of_ble_eq_true rfl)) dX8_step_155 ⟨Nat.le_of_ble_eq_true rfl, Nat.le_of_ble_eq_true rfl⟩) hS (fun q _ h => XA.le hS.1 q h) (XA.le hS.1) (fun x t H locs ht hvm hw hB _ _ hS => ?_)
                have hP := xB.at ht hB
                clear hB ht hvm
                obtain ⟨st72, sl73, so74⟩ := x
                obtain ⟨hGst72, hLGst72, hOst72, hw⟩ := hw
                dsimp only at hGst72 hLGst72 hOst72 hw
                have hL : LGq sl sl73 := hL.tr hLGst72
                replace hOst72 := hOst72.symm
                subst hOst72
                have hP : va_P (dC, dI) vwCl (xw A C nb st72 sl73 so5) _ := hP
                have hG : XG [1, 2, 3, 4, 5, 6, 7, 8, 9, 10, 11, 12, 13, 14, 15] st st72 := hG.tr hGst72 (by decide)
                clear hw
                refine lv_aload_n hx hb dX8_step_158 rfl (lv_at hl 0 rfl) ?_
                refine lv_aload_n hx hb dX8_step_159 rfl (lv_at hl 0 rfl) ?_
                refine va_get (D := (dC, dI)) (ci := 9) (v := .int (st72 1 4)) (C := RX8) (T := TX8) (N := 15) hx hb hts ii_X8_step_X8 hown hK hP 1 (xw_is (r := 1) (by omega) (xc_fix (r := 1) (by omega))) rfl 4 (by decide) (hts _ mm_X8_step_8) (fun _ hh => hh) rfl dX8_step_160 ?_
                obtain ⟨z75, ez75⟩ : ∃ y : Int32, st72 1 4 = y := ⟨_, rfl⟩
                refine zz_top (v := z75) (by exact ez75) ?_
                refine lv_if_ne (tgt := 184) hx hb dX8_step_163 (by decide) (fun c18 => ?_) (fun c18 => ?_)
                · refine va_gets (v := .ref (ad 25)) hx hb (EV.word hEv (i := 25) (by decide)) hS hown (hts _ mm_X8_step_1) (fun _ hh => hh) dX8_step_184 ?_
                  refine va_put (D := (dC, dI)) (ci := 9) (v := .ref (ad 25)) (ty := .object "OffTheLead$Word") (C := RX8) (T := TX8) (N := 15) hx hb hts ii_X8_step_X8 tyX8 tyX8_ok nmX8 hown hK hP (xD hN _ _ _ _ _ _) hS 1 (xw_is (r := 1) (by omega) (xc_fix (r := 1) (by omega))) rfl 7 (by decide) (hts _ mm_X8_step_2) (fun _ hh => hh) rfl (by decide +kernel) rfl rfl (Nat.le_of_ble_eq_true rfl) dX8_step_187 (fun H locs hP _ hS => ?_)
                  have hP : va_P (dC, dI) vwCl (xw A C nb st72 sl73 (upO so5 1 7 (some (ad 25)))) H := by rw [← xsetO (r := 1) (k := 7) (v := (some (ad 25))) (xc_fix (r := 1) (by omega))]; exact hP
                  obtain ⟨so76, eso76⟩ : ∃ y, y = upO so5 1 7 (some (ad 25)) := ⟨_, rfl⟩
                  have hO : OG ad [2, 3, 4] so so76 := by rw [eso76]; exact hO.up (isW.of (by omega)) (fun _ _ => ⟨_, by omega, rfl⟩) (by decide)
                  rw [← eso76] at hP
                  refine lv_goto (tgt := 235) hx hb dX8_step_190 (by decide) ?_
                  exact W.vret hx hb hr (fun t ht hW => ⟨⟨(st72, sl73, so76), rfl, ⟨hG, hL, hO, trivial⟩, xB.of ht hP⟩, hS.F ht⟩) hS.2.2 dX8_step_235
                · refine lv_aload_n hx hb dX8_step_166 rfl (lv_at hl 0 rfl) ?_
                  refine va_get (D := (dC, dI)) (ci := 9) (v := .ref (A 2)) (C := RX8) (T := TX8) (N := 15) hx hb hts ii_X8_step_X8 hown hK hP 1 (xw_is (r := 1) (by omega) (xc_fix (r := 1) (by omega))) rfl 0 (by decide) (hts _ mm_X8_step_5) (fun _ hh => hh) rfl dX8_step_167 ?_
                  refine lv_aload_n hx hb dX8_step_170 rfl (lv_at hl 0 rfl) ?_
                  refine va_get (D := (dC, dI)) (ci := 9) (v := .int (st72 1 5)) (C := RX8) (T := TX8) (N := 15) hx hb hts ii_X8_step_X8 hown hK hP 1 (xw_is (r := 1) (by omega) (xc_fix (r := 1) (by omega))) rfl 5 (by decide) (hts _ mm_X8_step_6) (fun _ hh => hh) rfl dX8_step_171 ?_
                  obtain ⟨n77, hn77, en77⟩ := hG.1.at (r := 1) (k := 5) (b := 941) (by decide : xrg 1 5 = 941) (by decide)
                  refine zz_top (v := nI n77) (by exact en77) ?_
                  refine lv_aload_n hx hb dX8_step_174 rfl (lv_at hl 0 rfl) ?_
                  refine va_get (D := (dC, dI)) (ci := 9) (v := .int (st72 1 3)) (C := RX8) (T := TX8) (N := 15) hx hb hts ii_X8_step_X8 hown hK hP 1 (xw_is (r := 1) (by omega) (xc_fix (r := 1) (by omega))) rfl 3 (by decide) (hts _ mm_X8_step_3) (fun _ hh => hh) rfl dX8_step_175 ?_
                  obtain ⟨n78, hn78, en78⟩ := hG.1.at (r := 1) (k := 3) (b := 941) (by decide : xrg 1 3 = 941) (by decide)
                  refine zz_top (v := nI n78) (by exact en78) ?_
                  refine va_callr (va_runS (As := [.ref (A 2), .int (nI n77), .int (nI n78)]) (rest := [.ref (A 1)]) ⟨hx, hb, hml, hown, hts⟩ (x_X10_of l dC dI ad E hEE A C nb _ hN st72 sl73 so5 n77 n78 (by omega) (by omega) hG.1) (va_cwS 3 hts gX8_step_X10_of rfl rfl rfl (by decide +kernel) ⟨Nat.le_of_ble_eq_true rfl, Nat.le_of_ble_eq_true rfl⟩) ⟨fun a U g mk q => ⟨q.1, xPre.blind hEE q.2⟩, fun U hU hW => ⟨rfl, xPre.of hEE hP hK hE hS hU hW⟩⟩ rfl rfl hl.1 rfl (lv_room (Nat.le_of_ble_eq_true rfl)) dX8_step_178 ⟨Nat.le_of_ble_eq_true rfl, Nat.le_of_ble_eq_true rfl⟩) hS (fun q _ h => XA.le hS.1 q h) (XA.le hS.1) (fun x r79 t H locs ht hvm hw hB _ _ hS => ?_)
                  obtain ⟨hw, hB⟩ := hB
                  have hP := xB.at ht hB
                  clear hB ht hvm
                  obtain ⟨rfl, hw⟩ := hw
                  have hP : va_P (dC, dI) vwCl (xw A C nb st72 sl73 so5) _ := hP
                  obtain ⟨n80, rfl, hf81⟩ := hw
                  refine lv_goto (tgt := 187) hx hb dX8_step_181 (by decide) ?_
                  refine va_put (D := (dC, dI)) (ci := 9) (v := .ref (ad n80)) (ty := .object "OffTheLead$Word") (C := RX8) (T := TX8) (N := 15) hx hb hts ii_X8_step_X8 tyX8 tyX8_ok nmX8 hown hK hP (xD hN _ _ _ _ _ _) hS 1 (xw_is (r := 1) (by omega) (xc_fix (r := 1) (by omega))) rfl 7 (by decide) (hts _ mm_X8_step_2) (fun _ hh => hh) rfl (by decide +kernel) rfl rfl (Nat.le_of_ble_eq_true rfl) dX8_step_187 (fun H locs hP _ hS => ?_)
                  have hP : va_P (dC, dI) vwCl (xw A C nb st72 sl73 (upO so5 1 7 (some (ad n80)))) H := by rw [← xsetO (r := 1) (k := 7) (v := (some (ad n80))) (xc_fix (r := 1) (by omega))]; exact hP
                  obtain ⟨so82, eso82⟩ : ∃ y, y = upO so5 1 7 (some (ad n80)) := ⟨_, rfl⟩
                  have hO : OG ad [2, 3, 4] so so82 := by rw [eso82]; exact hO.up (isW.of (by omega)) (fun _ _ => ⟨_, by omega, rfl⟩) (by decide)
                  rw [← eso82] at hP
                  refine lv_goto (tgt := 235) hx hb dX8_step_190 (by decide) ?_
                  exact W.vret hx hb hr (fun t ht hW => ⟨⟨(st72, sl73, so82), rfl, ⟨hG, hL, hO, trivial⟩, xB.of ht hP⟩, hS.F ht⟩) hS.2.2 dX8_step_235
              refine lv_if_ne (tgt := 154) hx hb dX8_step_136 (by decide) (fun cc => absurd (by decide) cc) (fun _ => ?_)
              refine lv_aload_n hx hb dX8_step_139 rfl (lv_at hl 0 rfl) ?_
              refine va_get (D := (dC, dI)) (ci := 9) (v := .ref (A 2)) (C := RX8) (T := TX8) (N := 15) hx hb hts ii_X8_step_X8 hown hK hP 1 (xw_is (r := 1) (by omega) (xc_fix (r := 1) (by omega))) rfl 0 (by decide) (hts _ mm_X8_step_5) (fun _ hh => hh) rfl dX8_step_140 ?_
              refine lv_aload_n hx hb dX8_step_143 rfl (lv_at hl 0 rfl) ?_
              refine va_get (D := (dC, dI)) (ci := 9) (v := .int (st53 1 3)) (C := RX8) (T := TX8) (N := 15) hx hb hts ii_X8_step_X8 hown hK hP 1 (xw_is (r := 1) (by omega) (xc_fix (r := 1) (by omega))) rfl 3 (by decide) (hts _ mm_X8_step_3) (fun _ hh => hh) rfl dX8_step_144 ?_
              refine zz_top (v := (nI g6)) (by show st53 1 3 = _; rw [est53, up2_ne (r := 1) (k := 5) (a := 1) (j := 3) _ _ (by omega), eg6]) ?_
              refine va_bald hx hb hK hP 2 2 (xw_is (r := 2) (by omega) (xc_fix (r := 2) (by omega))) (xt_is (r := 2) (by omega) rfl) (i := (nI g6)) (vp_in_nI (by omega) (by decide)) dX8_step_147 ?_
              refine zz_top (v := z51) (by rw [nI_clamp (by omega)]; show st53 2 g6 = _; rw [est53, up2_ne (r := 1) (k := 5) (a := 2) (j := g6) _ _ (by omega), ez51]) ?_
              refine va_calli (va_runS (As := [.int z51]) (rest := []) ⟨hx, hb, hml, hown, hts⟩ (x_X8_isDigit l dC dI ad E hEE A C nb _ hN st53 sl4 so5 z51  hG.1) (va_cwS 1 hts gX8_step_X8_isDigit rfl rfl rfl (by decide +kernel) ⟨Nat.le_of_ble_eq_true rfl, Nat.le_of_ble_eq_true rfl⟩) ⟨fun a U g mk q => ⟨q.1, xPre.blind hEE q.2⟩, fun U hU hW => ⟨rfl, xPre.of hEE hP hK hE hS hU hW⟩⟩ rfl rfl hl.1 rfl (lv_room (Nat.le_of_ble_eq_true rfl)) dX8_step_148 ⟨Nat.le_of_ble_eq_true rfl, Nat.le_of_ble_eq_true rfl⟩) hS (fun q _ h => XA.le hS.1 q h) (XA.le hS.1) (fun r83 x t H locs ht hvm hw hB _ _ hS => ?_)
              have hP := xB.at ht hB
              clear hB ht hvm
              obtain ⟨rfl, hw⟩ := hw
              have hP : va_P (dC, dI) vwCl (xw A C nb st53 sl4 so5) _ := hP
              rcases hw with rfl | rfl
              · refine lv_if_eq (tgt := 193) hx hb dX8_step_151 (by decide) (fun cc => absurd cc (by decide)) (fun _ => ?_)
                exact kj70 _ _ _ _ ⟨hP, hS, lv_sub hl [0] rfl, rfl⟩
              · refine lv_if_eq (tgt := 193) hx hb dX8_step_151 (by decide) (fun _ => ?_) (fun cc => absurd (by decide) cc)
                refine lv_aload_n hx hb dX8_step_193 rfl (lv_at hl 0 rfl) ?_
                refine lv_aload_n hx hb dX8_step_194 rfl (lv_at hl 0 rfl) ?_
                refine va_get (D := (dC, dI)) (ci := 9) (v := .ref (A 2)) (C := RX8) (T := TX8) (N := 15) hx hb hts ii_X8_step_X8 hown hK hP 1 (xw_is (r := 1) (by omega) (xc_fix (r := 1) (by omega))) rfl 0 (by decide) (hts _ mm_X8_step_5) (fun _ hh => hh) rfl dX8_step_195 ?_
                refine lv_aload_n hx hb dX8_step_198 rfl (lv_at hl 0 rfl) ?_
                refine va_get (D := (dC, dI)) (ci := 9) (v := .int (st53 1 3)) (C := RX8) (T := TX8) (N := 15) hx hb hts ii_X8_step_X8 hown hK hP 1 (xw_is (r := 1) (by omega) (xc_fix (r := 1) (by omega))) rfl 3 (by decide) (hts _ mm_X8_step_3) (fun _ hh => hh) rfl dX8_step_199 ?_
                refine zz_top (v := (nI g6)) (by show st53 1 3 = _; rw [est53, up2_ne (r := 1) (k := 5) (a := 1) (j := 3) _ _ (by omega), eg6]) ?_
                refine va_bald hx hb hK hP 2 2 (xw_is (r := 2) (by omega) (xc_fix (r := 2) (by omega))) (xt_is (r := 2) (by omega) rfl) (i := (nI g6)) (vp_in_nI (by omega) (by decide)) dX8_step_202 ?_
                refine zz_top (v := z51) (by rw [nI_clamp (by omega)]; show st53 2 g6 = _; rw [est53, up2_ne (r := 1) (k := 5) (a := 2) (j := g6) _ _ (by omega), ez51]) ?_
                refine va_put (D := (dC, dI)) (ci := 9) (v := .int z51) (ty := .int) (C := RX8) (T := TX8) (N := 15) hx hb hts ii_X8_step_X8 tyX8 tyX8_ok nmX8 hown hK hP (xD hN _ _ _ _ _ _) hS 1 (xw_is (r := 1) (by omega) (xc_fix (r := 1) (by omega))) rfl 6 (by decide) (hts _ mm_X8_step_9) (fun _ hh => hh) rfl (by decide +kernel) rfl rfl (Nat.le_of_ble_eq_true rfl) dX8_step_203 (fun H locs hP _ hS => ?_)
                have hP : va_P (dC, dI) vwCl (xw A C nb (up2 st53 1 6 z51) sl4 so5) H := by rw [← xset (r := 1) (k := 6) (v := z51) (xc_fix (r := 1) (by omega))]; exact hP
                obtain ⟨st84, est84⟩ : ∃ y, y = up2 st53 1 6 z51 := ⟨_, rfl⟩
                have hG : XG [1, 2, 3, 4, 5, 6, 7, 8, 9, 10, 11, 12, 13, 14, 15] st st84 := by rw [est84]; exact hG.up (xz (r := 1) (k := 6) (by decide : xrg 1 6 = 0)) (xpn (c := 0) (by decide : xcl 1 6 = 0) (by decide))
                rw [← est84] at hP
                refine lv_aload_n hx hb dX8_step_206 rfl (lv_at hl 0 rfl) ?_
                refine lv_aload_n hx hb dX8_step_207 rfl (lv_at hl 0 rfl) ?_
                refine va_get (D := (dC, dI)) (ci := 9) (v := .int (st84 1 6)) (C := RX8) (T := TX8) (N := 15) hx hb hts ii_X8_step_X8 hown hK hP 1 (xw_is (r := 1) (by omega) (xc_fix (r := 1) (by omega))) rfl 6 (by decide) (hts _ mm_X8_step_9) (fun _ hh => hh) rfl dX8_step_208 ?_
                refine zz_top (v := z51) (by show st84 1 6 = _; rw [est84, up2_same]) ?_
                refine va_calli (va_runS (As := [.int z51]) (rest := [.ref (A 1)]) ⟨hx, hb, hml, hown, hts⟩ (x_X8_isMark l dC dI ad E hEE A C nb _ hN st84 sl4 so5 z51  hG.1) (va_cwS 1 hts gX8_step_X8_isMark rfl rfl rfl (by decide +kernel) ⟨Nat.le_of_ble_eq_true rfl, Nat.le_of_ble_eq_true rfl⟩) ⟨fun a U g mk q => ⟨q.1, xPre.blind hEE q.2⟩, fun U hU hW => ⟨rfl, xPre.of hEE hP hK hE hS hU hW⟩⟩ rfl rfl hl.1 rfl (lv_room (Nat.le_of_ble_eq_true rfl)) dX8_step_211 ⟨Nat.le_of_ble_eq_true rfl, Nat.le_of_ble_eq_true rfl⟩) hS (fun q _ h => XA.le hS.1 q h) (XA.le hS.1) (fun r85 x t H locs ht hvm hw hB _ _ hS => ?_)
                have hP := xB.at ht hB
                clear hB ht hvm
                obtain ⟨rfl, hw⟩ := hw
                have hP : va_P (dC, dI) vwCl (xw A C nb st84 sl4 so5) _ := hP
                rcases hw with rfl | rfl
                · refine lv_if_eq (tgt := 221) hx hb dX8_step_214 (by decide) (fun cc => absurd cc (by decide)) (fun _ => ?_)
                  refine lv_iconst (v := 2) hx hb dX8_step_217 (by decide) ?_
                  refine lv_goto (tgt := 222) hx hb dX8_step_218 (by decide) ?_
                  refine va_put (D := (dC, dI)) (ci := 9) (v := .int 2) (ty := .int) (C := RX8) (T := TX8) (N := 15) hx hb hts ii_X8_step_X8 tyX8 tyX8_ok nmX8 hown hK hP (xD hN _ _ _ _ _ _) hS 1 (xw_is (r := 1) (by omega) (xc_fix (r := 1) (by omega))) rfl 4 (by decide) (hts _ mm_X8_step_8) (fun _ hh => hh) rfl (by decide +kernel) rfl rfl (Nat.le_of_ble_eq_true rfl) dX8_step_222 (fun H locs hP _ hS => ?_)
                  have hP : va_P (dC, dI) vwCl (xw A C nb (up2 st84 1 4 2) sl4 so5) H := by rw [← xset (r := 1) (k := 4) (v := 2) (xc_fix (r := 1) (by omega))]; exact hP
                  obtain ⟨st86, est86⟩ : ∃ y, y = up2 st84 1 4 2 := ⟨_, rfl⟩
                  have hG : XG [1, 2, 3, 4, 5, 6, 7, 8, 9, 10, 11, 12, 13, 14, 15] st st86 := by rw [est86]; exact hG.up (xz (r := 1) (k := 4) (by decide : xrg 1 4 = 0)) (xpn (c := 0) (by decide : xcl 1 4 = 0) (by decide))
                  rw [← est86] at hP
                  refine lv_aload_n hx hb dX8_step_225 rfl (lv_at hl 0 rfl) ?_
                  refine lv_dup hx hb dX8_step_226 rfl ?_
                  refine va_get (D := (dC, dI)) (ci := 9) (v := .int (st86 1 3)) (C := RX8) (T := TX8) (N := 15) hx hb hts ii_X8_step_X8 hown hK hP 1 (xw_is (r := 1) (by omega) (xc_fix (r := 1) (by omega))) rfl 3 (by decide) (hts _ mm_X8_step_3) (fun _ hh => hh) rfl dX8_step_227 ?_
                  refine zz_top (v := (nI g6)) (by show st86 1 3 = _; rw [est86, up2_ne (r := 1) (k := 4) (a := 1) (j := 3) _ _ (by omega), est84, up2_ne (r := 1) (k := 6) (a := 1) (j := 3) _ _ (by omega), est53, up2_ne (r := 1) (k := 5) (a := 1) (j := 3) _ _ (by omega), eg6]) ?_
                  refine lv_iconst (v := 1) hx hb dX8_step_230 (by decide) ?_
                  refine lv_iadd hx hb dX8_step_231 ?_
                  refine zz_top (v := nI (g6 + 1)) (nI_add g6 1) ?_
                  refine va_put (D := (dC, dI)) (ci := 9) (v := .int (nI (g6 + 1))) (ty := .int) (C := RX8) (T := TX8) (N := 15) hx hb hts ii_X8_step_X8 tyX8 tyX8_ok nmX8 hown hK hP (xD hN _ _ _ _ _ _) hS 1 (xw_is (r := 1) (by omega) (xc_fix (r := 1) (by omega))) rfl 3 (by decide) (hts _ mm_X8_step_3) (fun _ hh => hh) rfl (by decide +kernel) rfl rfl (Nat.le_of_ble_eq_true rfl) dX8_step_232 (fun H locs hP _ hS => ?_)
                  have hP : va_P (dC, dI) vwCl (xw A C nb (up2 st86 1 3 (nI (g6 + 1))) sl4 so5) H := by rw [← xset (r := 1) (k := 3) (v := (nI (g6 + 1))) (xc_fix (r := 1) (by omega))]; exact hP
                  obtain ⟨st87, est87⟩ : ∃ y, y = up2 st86 1 3 (nI (g6 + 1)) := ⟨_, rfl⟩
                  have hG : XG [1, 2, 3, 4, 5, 6, 7, 8, 9, 10, 11, 12, 13, 14, 15] st st87 := by rw [est87]; exact hG.up (xn (n := (g6 + 1)) (b := 941) (by decide : xrg 1 3 = 941) (by omega)) (xpn (c := 0) (by decide : xcl 1 3 = 0) (by decide))
                  rw [← est87] at hP
                  exact W.vret hx hb hr (fun t ht hW => ⟨⟨(st87, sl4, so5), rfl, ⟨hG, hL, hO, trivial⟩, xB.of ht hP⟩, hS.F ht⟩) hS.2.2 dX8_step_235
                · refine lv_if_eq (tgt := 221) hx hb dX8_step_214 (by decide) (fun _ => ?_) (fun cc => absurd (by decide) cc)
                  refine lv_iconst (v := 4) hx hb dX8_step_221 (by decide) ?_
                  refine va_put (D := (dC, dI)) (ci := 9) (v := .int 4) (ty := .int) (C := RX8) (T := TX8) (N := 15) hx hb hts ii_X8_step_X8 tyX8 tyX8_ok nmX8 hown hK hP (xD hN _ _ _ _ _ _) hS 1 (xw_is (r := 1) (by omega) (xc_fix (r := 1) (by omega))) rfl 4 (by decide) (hts _ mm_X8_step_8) (fun _ hh => hh) rfl (by decide +kernel) rfl rfl (Nat.le_of_ble_eq_true rfl) dX8_step_222 (fun H locs hP _ hS => ?_)
                  have hP : va_P (dC, dI) vwCl (xw A C nb (up2 st84 1 4 4) sl4 so5) H := by rw [← xset (r := 1) (k := 4) (v := 4) (xc_fix (r := 1) (by omega))]; exact hP
                  obtain ⟨st88, est88⟩ : ∃ y, y = up2 st84 1 4 4 := ⟨_, rfl⟩
                  have hG : XG [1, 2, 3, 4, 5, 6, 7, 8, 9, 10, 11, 12, 13, 14, 15] st st88 := by rw [est88]; exact hG.up (xz (r := 1) (k := 4) (by decide : xrg 1 4 = 0)) (xpn (c := 0) (by decide : xcl 1 4 = 0) (by decide))
                  rw [← est88] at hP
                  refine lv_aload_n hx hb dX8_step_225 rfl (lv_at hl 0 rfl) ?_
                  refine lv_dup hx hb dX8_step_226 rfl ?_
                  refine va_get (D := (dC, dI)) (ci := 9) (v := .int (st88 1 3)) (C := RX8) (T := TX8) (N := 15) hx hb hts ii_X8_step_X8 hown hK hP 1 (xw_is (r := 1) (by omega) (xc_fix (r := 1) (by omega))) rfl 3 (by decide) (hts _ mm_X8_step_3) (fun _ hh => hh) rfl dX8_step_227 ?_
                  refine zz_top (v := (nI g6)) (by show st88 1 3 = _; rw [est88, up2_ne (r := 1) (k := 4) (a := 1) (j := 3) _ _ (by omega), est84, up2_ne (r := 1) (k := 6) (a := 1) (j := 3) _ _ (by omega), est53, up2_ne (r := 1) (k := 5) (a := 1) (j := 3) _ _ (by omega), eg6]) ?_
                  refine lv_iconst (v := 1) hx hb dX8_step_230 (by decide) ?_
                  refine lv_iadd hx hb dX8_step_231 ?_
                  refine zz_top (v := nI (g6 + 1)) (nI_add g6 1) ?_
                  refine va_put (D := (dC, dI)) (ci := 9) (v := .int (nI (g6 + 1))) (ty := .int) (C := RX8) (T := TX8) (N := 15) hx hb hts ii_X8_step_X8 tyX8 tyX8_ok nmX8 hown hK hP (xD hN _ _ _ _ _ _) hS 1 (xw_is (r := 1) (by omega) (xc_fix (r := 1) (by omega))) rfl 3 (by decide) (hts _ mm_X8_step_3) (fun _ hh => hh) rfl (by decide +kernel) rfl rfl (Nat.le_of_ble_eq_true rfl) dX8_step_232 (fun H locs hP _ hS => ?_)
                  have hP : va_P (dC, dI) vwCl (xw A C nb (up2 st88 1 3 (nI (g6 + 1))) sl4 so5) H := by rw [← xset (r := 1) (k := 3) (v := (nI (g6 + 1))) (xc_fix (r := 1) (by omega))]; exact hP
                  obtain ⟨st89, est89⟩ : ∃ y, y = up2 st88 1 3 (nI (g6 + 1)) := ⟨_, rfl⟩
                  have hG : XG [1, 2, 3, 4, 5, 6, 7, 8, 9, 10, 11, 12, 13, 14, 15] st st89 := by rw [est89]; exact hG.up (xn (n := (g6 + 1)) (b := 941) (by decide : xrg 1 3 = 941) (by omega)) (xpn (c := 0) (by decide : xcl 1 3 = 0) (by decide))
                  rw [← est89] at hP
                  exact W.vret hx hb hr (fun t ht hW => ⟨⟨(st89, sl4, so5), rfl, ⟨hG, hL, hO, trivial⟩, xB.of ht hP⟩, hS.F ht⟩) hS.2.2 dX8_step_235
          · have c15 : ¬ g6 < n9 := fun hh => c15 ((nI_ltI (a := g6) (b := n9) (by omega) (by omega)).mpr hh)
            refine lv_aload_n hx hb dX8_step_116 rfl (lv_at hl 0 rfl) ?_
            refine lv_iconst (v := 3) hx hb dX8_step_117 (by decide) ?_
            refine va_put (D := (dC, dI)) (ci := 9) (v := .int 3) (ty := .int) (C := RX8) (T := TX8) (N := 15) hx hb hts ii_X8_step_X8 tyX8 tyX8_ok nmX8 hown hK hP (xD hN _ _ _ _ _ _) hS 1 (xw_is (r := 1) (by omega) (xc_fix (r := 1) (by omega))) rfl 4 (by decide) (hts _ mm_X8_step_8) (fun _ hh => hh) rfl (by decide +kernel) rfl rfl (Nat.le_of_ble_eq_true rfl) dX8_step_118 (fun H locs hP _ hS => ?_)
            have hP : va_P (dC, dI) vwCl (xw A C nb (up2 st53 1 4 3) sl4 so5) H := by rw [← xset (r := 1) (k := 4) (v := 3) (xc_fix (r := 1) (by omega))]; exact hP
            obtain ⟨st90, est90⟩ : ∃ y, y = up2 st53 1 4 3 := ⟨_, rfl⟩
            have hG : XG [1, 2, 3, 4, 5, 6, 7, 8, 9, 10, 11, 12, 13, 14, 15] st st90 := by rw [est90]; exact hG.up (xz (r := 1) (k := 4) (by decide : xrg 1 4 = 0)) (xpn (c := 0) (by decide : xcl 1 4 = 0) (by decide))
            rw [← est90] at hP
            refine lv_goto (tgt := 235) hx hb dX8_step_121 (by decide) ?_
            exact W.vret hx hb hr (fun t ht hW => ⟨⟨(st90, sl4, so5), rfl, ⟨hG, hL, hO, trivial⟩, xB.of ht hP⟩, hS.F ht⟩) hS.2.2 dX8_step_235
        refine lv_icmp_le (tgt := 105) hx hb dX8_step_75 (by decide) (fun c24 => ?_) (fun c24 => ?_)
        · have c24 : n9 ≤ n54 := (nI_leI (a := n9) (b := n54) (by omega) (by omega)).mp c24
          exact kj55 _ _ _ _ ⟨hP, hS, lv_sub hl [0] rfl, rfl⟩
        · have c24 : ¬ n9 ≤ n54 := fun hh => c24 ((nI_leI (a := n9) (b := n54) (by omega) (by omega)).mpr hh)
          refine lv_aload_n hx hb dX8_step_78 rfl (lv_at hl 0 rfl) ?_
          refine va_get (D := (dC, dI)) (ci := 9) (v := .int (st53 1 3)) (C := RX8) (T := TX8) (N := 15) hx hb hts ii_X8_step_X8 hown hK hP 1 (xw_is (r := 1) (by omega) (xc_fix (r := 1) (by omega))) rfl 3 (by decide) (hts _ mm_X8_step_3) (fun _ hh => hh) rfl dX8_step_79 ?_
          refine zz_top (v := (nI g6)) (by show st53 1 3 = _; rw [est53, up2_ne (r := 1) (k := 5) (a := 1) (j := 3) _ _ (by omega), eg6]) ?_
          refine lv_aload_n hx hb dX8_step_82 rfl (lv_at hl 0 rfl) ?_
          refine va_get (D := (dC, dI)) (ci := 9) (v := .int (st53 1 2)) (C := RX8) (T := TX8) (N := 15) hx hb hts ii_X8_step_X8 hown hK hP 1 (xw_is (r := 1) (by omega) (xc_fix (r := 1) (by omega))) rfl 2 (by decide) (hts _ mm_X8_step_7) (fun _ hh => hh) rfl dX8_step_83 ?_
          refine zz_top (v := (nI n54)) (by show st53 1 2 = _; rw [en54]) ?_
          refine lv_icmp_lt (tgt := 105) hx hb dX8_step_86 (by decide) (fun c25 => ?_) (fun c25 => ?_)
          · have c25 : g6 < n54 := (nI_ltI (a := g6) (b := n54) (by omega) (by omega)).mp c25
            exact kj55 _ _ _ _ ⟨hP, hS, lv_sub hl [0] rfl, rfl⟩
          · have c25 : ¬ g6 < n54 := fun hh => c25 ((nI_ltI (a := g6) (b := n54) (by omega) (by omega)).mpr hh)
            refine lv_aload_n hx hb dX8_step_89 rfl (lv_at hl 0 rfl) ?_
            refine lv_aload_n hx hb dX8_step_90 rfl (lv_at hl 0 rfl) ?_
            refine va_get (D := (dC, dI)) (ci := 9) (v := .int (st53 1 2)) (C := RX8) (T := TX8) (N := 15) hx hb hts ii_X8_step_X8 hown hK hP 1 (xw_is (r := 1) (by omega) (xc_fix (r := 1) (by omega))) rfl 2 (by decide) (hts _ mm_X8_step_7) (fun _ hh => hh) rfl dX8_step_91 ?_
            refine zz_top (v := (nI n54)) (by show st53 1 2 = _; rw [en54]) ?_
            refine va_put (D := (dC, dI)) (ci := 9) (v := .int (nI n54)) (ty := .int) (C := RX8) (T := TX8) (N := 15) hx hb hts ii_X8_step_X8 tyX8 tyX8_ok nmX8 hown hK hP (xD hN _ _ _ _ _ _) hS 1 (xw_is (r := 1) (by omega) (xc_fix (r := 1) (by omega))) rfl 5 (by decide) (hts _ mm_X8_step_6) (fun _ hh => hh) rfl (by decide +kernel) rfl rfl (Nat.le_of_ble_eq_true rfl) dX8_step_94 (fun H locs hP _ hS => ?_)
            have hP : va_P (dC, dI) vwCl (xw A C nb (up2 st53 1 5 (nI n54)) sl4 so5) H := by rw [← xset (r := 1) (k := 5) (v := (nI n54)) (xc_fix (r := 1) (by omega))]; exact hP
            obtain ⟨st91, est91⟩ : ∃ y, y = up2 st53 1 5 (nI n54) := ⟨_, rfl⟩
            have hG : XG [1, 2, 3, 4, 5, 6, 7, 8, 9, 10, 11, 12, 13, 14, 15] st st91 := by rw [est91]; exact hG.up (xn (n := n54) (b := 941) (by decide : xrg 1 5 = 941) (by omega)) (xpn (c := 0) (by decide : xcl 1 5 = 0) (by decide))
            rw [← est91] at hP
            refine lv_aload_n hx hb dX8_step_97 rfl (lv_at hl 0 rfl) ?_
            refine lv_iconst (v := 4) hx hb dX8_step_98 (by decide) ?_
            refine va_put (D := (dC, dI)) (ci := 9) (v := .int 4) (ty := .int) (C := RX8) (T := TX8) (N := 15) hx hb hts ii_X8_step_X8 tyX8 tyX8_ok nmX8 hown hK hP (xD hN _ _ _ _ _ _) hS 1 (xw_is (r := 1) (by omega) (xc_fix (r := 1) (by omega))) rfl 4 (by decide) (hts _ mm_X8_step_8) (fun _ hh => hh) rfl (by decide +kernel) rfl rfl (Nat.le_of_ble_eq_true rfl) dX8_step_99 (fun H locs hP _ hS => ?_)
            have hP : va_P (dC, dI) vwCl (xw A C nb (up2 st91 1 4 4) sl4 so5) H := by rw [← xset (r := 1) (k := 4) (v := 4) (xc_fix (r := 1) (by omega))]; exact hP
            obtain ⟨st92, est92⟩ : ∃ y, y = up2 st91 1 4 4 := ⟨_, rfl⟩
            have hG : XG [1, 2, 3, 4, 5, 6, 7, 8, 9, 10, 11, 12, 13, 14, 15] st st92 := by rw [est92]; exact hG.up (xz (r := 1) (k := 4) (by decide : xrg 1 4 = 0)) (xpn (c := 0) (by decide : xcl 1 4 = 0) (by decide))
            rw [← est92] at hP
            refine lv_goto (tgt := 235) hx hb dX8_step_102 (by decide) ?_
            exact W.vret hx hb hr (fun t ht hW => ⟨⟨(st92, sl4, so5), rfl, ⟨hG, hL, hO, trivial⟩, xB.of ht hP⟩, hS.F ht⟩) hS.2.2 dX8_step_235
      · refine lv_aload_n hx hb dX8_step_46 rfl (lv_at hl 0 rfl) ?_
        refine lv_dup hx hb dX8_step_47 rfl ?_
        refine va_get (D := (dC, dI)) (ci := 9) (v := .int (st3 1 3)) (C := RX8) (T := TX8) (N := 15) hx hb hts ii_X8_step_X8 hown hK hP 1 (xw_is (r := 1) (by omega) (xc_fix (r := 1) (by omega))) rfl 3 (by decide) (hts _ mm_X8_step_3) (fun _ hh => hh) rfl dX8_step_48 ?_
        refine zz_top (v := (nI g6)) (by show st3 1 3 = _; rw [eg6]) ?_
        refine lv_iconst (v := 1) hx hb dX8_step_51 (by decide) ?_
        refine lv_iadd hx hb dX8_step_52 ?_
        refine zz_top (v := nI (g6 + 1)) (nI_add g6 1) ?_
        refine va_put (D := (dC, dI)) (ci := 9) (v := .int (nI (g6 + 1))) (ty := .int) (C := RX8) (T := TX8) (N := 15) hx hb hts ii_X8_step_X8 tyX8 tyX8_ok nmX8 hown hK hP (xD hN _ _ _ _ _ _) hS 1 (xw_is (r := 1) (by omega) (xc_fix (r := 1) (by omega))) rfl 3 (by decide) (hts _ mm_X8_step_3) (fun _ hh => hh) rfl (by decide +kernel) rfl rfl (Nat.le_of_ble_eq_true rfl) dX8_step_53 (fun H locs hP _ hS => ?_)
        have hP : va_P (dC, dI) vwCl (xw A C nb (up2 st3 1 3 (nI (g6 + 1))) sl4 so5) H := by rw [← xset (r := 1) (k := 3) (v := (nI (g6 + 1))) (xc_fix (r := 1) (by omega))]; exact hP
        obtain ⟨st93, est93⟩ : ∃ y, y = up2 st3 1 3 (nI (g6 + 1)) := ⟨_, rfl⟩
        have hG : XG [1, 2, 3, 4, 5, 6, 7, 8, 9, 10, 11, 12, 13, 14, 15] st st93 := by rw [est93]; exact hG.up (xn (n := (g6 + 1)) (b := 941) (by decide : xrg 1 3 = 941) (by omega)) (xpn (c := 0) (by decide : xcl 1 3 = 0) (by decide))
        rw [← est93] at hP
        refine lv_goto (tgt := 7) hx hb dX8_step_56 (by decide) ?_
        exact ih8 (941 - (g6 + 1)) _ _ _ _ (by omega) ⟨st93, sl4, so5, (g6 + 1), rfl, by omega, by rw [est93, up2_same], hP, hG, hO, hL, hS, lv_sub hl [0] rfl, rfl⟩
set_option maxHeartbeats 4000000 in
set_option maxRecDepth 100000 in
theorem x_X8_open (l : Launch) (dC : Nat → ClassId) (dI : Nat → Nat → Nat) (ad : Nat → Nat) (E : EP) (hEE : EC ad E) (A : Nat → Nat) (C : Nat → ClassId) (nb sz : Nat) (hN : XN A) (st : Nat → Nat → Int32) (sl : Nat → Nat → Int64) (so : Nat → XR) (va : Nat) (hva : va < 941) (hI : XI st) (hOI : OI ad so) : Met l yX8_open wsX8_open ({ frames := 6, cells := 0, slots := 0, locals := 130 }) (va_Pc [.ref (A 1), .int (nI va)] (xPre E dC dI A C nb sz st sl so)) (va_Qv (fun (x : XT) => XG [1, 2, 3, 4, 5, 6, 7, 8, 9, 11, 12, 13, 14, 15] st x.1 ∧ LGq sl x.2.1 ∧ OG ad [2, 3, 4] so x.2.2 ∧ (x.1 1 13 = 0)) (xB dC dI A C nb) (XA A sz)) 0 0 (XA A sz) := by
  refine Met.ofW (cc := cX8_open) (maxL := 2) (ret := none) (by decide) rfl ?_
  intro p e s m args below meth c s₁ B hml hv
  obtain ⟨rfl, hsz, hP, hK, hE⟩ := hv
  have hx := B.exec
  have hb := B.bytes
  have hr := B.returns
  have hts := atoms_spec (ws := wsX8_open) B.pre
  have hown : s.vm.findClass RX8 = some m.cls := findClass_of_methodNamed B.named
  subst hsz
  have hEv := hEE.1 _ _ _ hE
  have hS : va_S (XA A s.heap.size) s.heap s.heap [] := va_S.rf
  have hG : XG [1, 2, 3, 4, 5, 6, 7, 8, 9, 11, 12, 13, 14, 15] st st := XG.rf hI
  have hO : OG ad [2, 3, 4] so so := OG.rf hOI
  have hl := lv_entry ([.ref (A 1), .int (nI va)]) (n := 2) (Nat.le_of_ble_eq_true rfl)
  rw [lg_entry_eq]
  generalize (lg_sl ([.ref (A 1), .int (nI va)]) ++ List.replicate (2 - (lg_sl ([.ref (A 1), .int (nI va)])).length) Slot.unset).toArray = ls at hl ⊢
  have hl : lv_has ls 2 [(0, .ref (A 1)), (1, .int (nI va))] := hl
  have hL : LGq sl sl := LGq.rf
  refine lv_aload_n hx hb dX8_open_0 rfl (lv_at hl 0 rfl) ?_
  refine lv_iload_n hx hb dX8_open_1 rfl (lv_at hl 1 rfl) ?_
  refine va_put (D := (dC, dI)) (ci := 9) (v := .int (nI va)) (ty := .int) (C := RX8) (T := TX8) (N := 15) hx hb hts ii_X8_open_X8 tyX8 tyX8_ok nmX8 hown hK hP (xD hN _ _ _ _ _ _) hS 1 (xw_is (r := 1) (by omega) (xc_fix (r := 1) (by omega))) rfl 2 (by decide) (hts _ mm_X8_open_1) (fun _ hh => hh) rfl (by decide +kernel) rfl rfl (Nat.le_of_ble_eq_true rfl) dX8_open_2 (fun H locs hP _ hS => ?_)
  have hP : va_P (dC, dI) vwCl (xw A C nb (up2 st 1 2 (nI va)) sl so) H := by rw [← xset (r := 1) (k := 2) (v := (nI va)) (xc_fix (r := 1) (by omega))]; exact hP
  obtain ⟨st1, est1⟩ : ∃ y, y = up2 st 1 2 (nI va) := ⟨_, rfl⟩
  have hG : XG [1, 2, 3, 4, 5, 6, 7, 8, 9, 11, 12, 13, 14, 15] st st1 := by rw [est1]; exact hG.up (xn (n := va) (b := 941) (by decide : xrg 1 2 = 941) (by omega)) (xpn (c := 0) (by decide : xcl 1 2 = 0) (by decide))
  rw [← est1] at hP
  refine lv_aload_n hx hb dX8_open_5 rfl (lv_at hl 0 rfl) ?_
  refine lv_iconst (v := 0) hx hb dX8_open_6 (by decide) ?_
  refine va_put (D := (dC, dI)) (ci := 9) (v := .int 0) (ty := .int) (C := RX8) (T := TX8) (N := 15) hx hb hts ii_X8_open_X8 tyX8 tyX8_ok nmX8 hown hK hP (xD hN _ _ _ _ _ _) hS 1 (xw_is (r := 1) (by omega) (xc_fix (r := 1) (by omega))) rfl 3 (by decide) (hts _ mm_X8_open_2) (fun _ hh => hh) rfl (by decide +kernel) rfl rfl (Nat.le_of_ble_eq_true rfl) dX8_open_7 (fun H locs hP _ hS => ?_)
  have hP : va_P (dC, dI) vwCl (xw A C nb (up2 st1 1 3 0) sl so) H := by rw [← xset (r := 1) (k := 3) (v := 0) (xc_fix (r := 1) (by omega))]; exact hP
  obtain ⟨st2, est2⟩ : ∃ y, y = up2 st1 1 3 0 := ⟨_, rfl⟩
  have hG : XG [1, 2, 3, 4, 5, 6, 7, 8, 9, 11, 12, 13, 14, 15] st st2 := by rw [est2]; exact hG.up (xn (n := 0) (b := 941) (by decide : xrg 1 3 = 941) (by omega)) (xpn (c := 0) (by decide : xcl 1 3 = 0) (by decide))
  rw [← est2] at hP
  refine lv_aload_n hx hb dX8_open_10 rfl (lv_at hl 0 rfl) ?_
  refine lv_iconst (v := 0) hx hb dX8_open_11 (by decide) ?_
  refine va_put (D := (dC, dI)) (ci := 9) (v := .int 0) (ty := .int) (C := RX8) (T := TX8) (N := 15) hx hb hts ii_X8_open_X8 tyX8 tyX8_ok nmX8 hown hK hP (xD hN _ _ _ _ _ _) hS 1 (xw_is (r := 1) (by omega) (xc_fix (r := 1) (by omega))) rfl 13 (by decide) (hts _ mm_X8_open_3) (fun _ hh => hh) rfl (by decide +kernel) rfl rfl (Nat.le_of_ble_eq_true rfl) dX8_open_12 (fun H locs hP _ hS => ?_)
  have hP : va_P (dC, dI) vwCl (xw A C nb (up2 st2 1 13 0) sl so) H := by rw [← xset (r := 1) (k := 13) (v := 0) (xc_fix (r := 1) (by omega))]; exact hP
  obtain ⟨st3, est3⟩ : ∃ y, y = up2 st2 1 13 0 := ⟨_, rfl⟩
  have hG : XG [1, 2, 3, 4, 5, 6, 7, 8, 9, 11, 12, 13, 14, 15] st st3 := by rw [est3]; exact hG.up (xz (r := 1) (k := 13) (by decide : xrg 1 13 = 0)) (xpn (c := 10) (by decide : xcl 1 13 = 10) (by decide))
  rw [← est3] at hP
  refine lv_aload_n hx hb dX8_open_15 rfl (lv_at hl 0 rfl) ?_
  refine lv_iconst (v := 0) hx hb dX8_open_16 (by decide) ?_
  refine va_put (D := (dC, dI)) (ci := 9) (v := .int 0) (ty := .int) (C := RX8) (T := TX8) (N := 15) hx hb hts ii_X8_open_X8 tyX8 tyX8_ok nmX8 hown hK hP (xD hN _ _ _ _ _ _) hS 1 (xw_is (r := 1) (by omega) (xc_fix (r := 1) (by omega))) rfl 14 (by decide) (hts _ mm_X8_open_4) (fun _ hh => hh) rfl (by decide +kernel) rfl rfl (Nat.le_of_ble_eq_true rfl) dX8_open_17 (fun H locs hP _ hS => ?_)
  have hP : va_P (dC, dI) vwCl (xw A C nb (up2 st3 1 14 0) sl so) H := by rw [← xset (r := 1) (k := 14) (v := 0) (xc_fix (r := 1) (by omega))]; exact hP
  obtain ⟨st4, est4⟩ : ∃ y, y = up2 st3 1 14 0 := ⟨_, rfl⟩
  have hG : XG [1, 2, 3, 4, 5, 6, 7, 8, 9, 11, 12, 13, 14, 15] st st4 := by rw [est4]; exact hG.up (xz (r := 1) (k := 14) (by decide : xrg 1 14 = 0)) (xpn (c := 0) (by decide : xcl 1 14 = 0) (by decide))
  rw [← est4] at hP
  refine lv_aload_n hx hb dX8_open_20 rfl (lv_at hl 0 rfl) ?_
  refine va_callv (va_runV (As := []) (rest := []) ⟨hx, hb, hml, hown, hts⟩ (x_X8_step l dC dI ad E hEE A C nb _ hN st4 sl so  hG.1 hO.1) (cwV 0 hts gX8_open_X8_step rfl rfl rfl (by decide +kernel) ⟨Nat.le_of_ble_eq_true rfl, Nat.le_of_ble_eq_true rfl⟩) ⟨fun a U g mk q => ⟨q.1, xPre.blind hEE q.2⟩, va_recv hK hP (ci := 9) (q0 := 1) rfl (xw_is (r := 1) (by omega) (xc_fix (r := 1) (by omega))), fun U hU hW => ⟨rfl, xPre.of hEE hP hK hE hS hU hW⟩⟩ rfl rfl hl.1 rfl (lv_room (Nat.le_of_ble_eq_true rfl)) dX8_open_21 ⟨Nat.le_of_ble_eq_true rfl, Nat.le_of_ble_eq_true rfl⟩) hS (fun q _ h => XA.le hS.1 q h) (XA.le hS.1) (fun x t H locs ht hvm hw hB _ _ hS => ?_)
  have hP := xB.at ht hB
  clear hB ht hvm
  obtain ⟨st6, sl7, so8⟩ := x
  obtain ⟨hGst6, hLGst6, hOst6, hw⟩ := hw
  dsimp only at hGst6 hLGst6 hOst6 hw
  have hL : LGq sl sl7 := hL.tr hLGst6
  have hO : OG ad [2, 3, 4] so so8 := hO.tr hOst6 (by decide)
  have hP : va_P (dC, dI) vwCl (xw A C nb st6 sl7 so8) _ := hP
  have hG : XG [1, 2, 3, 4, 5, 6, 7, 8, 9, 11, 12, 13, 14, 15] st st6 := hG.tr hGst6 (by decide)
  clear hw
  exact W.vret hx hb hr (fun t ht hW => ⟨⟨(st6, sl7, so8), rfl, ⟨hG, hL, hO, by show st6 1 13 = _; rw [hGst6.2 1 13 (by rw [(by decide : xcl 1 13 = 10)]; decide), est4, up2_ne (r := 1) (k := 14) (a := 1) (j := 13) _ _ (by omega), est3, up2_same]⟩, xB.of ht hP⟩, hS.F ht⟩) hS.2.2 dX8_open_24
set_option maxHeartbeats 4000000 in
set_option maxRecDepth 100000 in
theorem x_X8_takeMark (l : Launch) (dC : Nat → ClassId) (dI : Nat → Nat → Nat) (ad : Nat → Nat) (E : EP) (hEE : EC ad E) (A : Nat → Nat) (C : Nat → ClassId) (nb sz : Nat) (hN : XN A) (st : Nat → Nat → Int32) (sl : Nat → Nat → Int64) (so : Nat → XR) (va : Int32) (hI : XI st) (hOI : OI ad so) : Met l yX8_takeMark wsX8_takeMark ({ frames := 6, cells := 0, slots := 0, locals := 130 }) (va_Pc [.ref (A 1), .int va] (xPre E dC dI A C nb sz st sl so)) (va_Qi (fun (r : Int32) (x : XT) => XG [1, 2, 3, 4, 5, 6, 7, 8, 9, 11, 12, 13, 14, 15] st x.1 ∧ LGq sl x.2.1 ∧ OG ad [2, 3, 4] so x.2.2 ∧ ((r = 1) ∨ (r = 0 ∧ ¬ x.1 1 13 = 0))) (xB dC dI A C nb) (XA A sz)) 0 0 (XA A sz) := by
  refine Met.ofW (cc := cX8_takeMark) (maxL := 2) (ret := (some .boolean)) (by decide) rfl ?_
  intro p e s m args below meth c s₁ B hml hv
  obtain ⟨rfl, hsz, hP, hK, hE⟩ := hv
  have hx := B.exec
  have hb := B.bytes
  have hr := B.returns
  have hts := atoms_spec (ws := wsX8_takeMark) B.pre
  have hown : s.vm.findClass RX8 = some m.cls := findClass_of_methodNamed B.named
  subst hsz
  have hEv := hEE.1 _ _ _ hE
  have hS : va_S (XA A s.heap.size) s.heap s.heap [] := va_S.rf
  have hG : XG [1, 2, 3, 4, 5, 6, 7, 8, 9, 11, 12, 13, 14, 15] st st := XG.rf hI
  have hO : OG ad [2, 3, 4] so so := OG.rf hOI
  have hl := lv_entry ([.ref (A 1), .int va]) (n := 2) (Nat.le_of_ble_eq_true rfl)
  rw [lg_entry_eq]
  generalize (lg_sl ([.ref (A 1), .int va]) ++ List.replicate (2 - (lg_sl ([.ref (A 1), .int va])).length) Slot.unset).toArray = ls at hl ⊢
  have hl : lv_has ls 2 [(0, .ref (A 1)), (1, .int va)] := hl
  have hL : LGq sl sl := LGq.rf
  refine lv_aload_n hx hb dX8_takeMark_0 rfl (lv_at hl 0 rfl) ?_
  refine lv_iload_n hx hb dX8_takeMark_1 rfl (lv_at hl 1 rfl) ?_
  refine va_calli (va_runV (As := [.int va]) (rest := []) ⟨hx, hb, hml, hown, hts⟩ (x_X8_looksAtMark l dC dI ad E hEE A C nb _ hN st sl so va  hG.1) (cwV 1 hts gX8_takeMark_X8_looksAtMark rfl rfl rfl (by decide +kernel) ⟨Nat.le_of_ble_eq_true rfl, Nat.le_of_ble_eq_true rfl⟩) ⟨fun a U g mk q => ⟨q.1, xPre.blind hEE q.2⟩, va_recv hK hP (ci := 9) (q0 := 1) rfl (xw_is (r := 1) (by omega) (xc_fix (r := 1) (by omega))), fun U hU hW => ⟨rfl, xPre.of hEE hP hK hE hS hU hW⟩⟩ rfl rfl hl.1 rfl (lv_room (Nat.le_of_ble_eq_true rfl)) dX8_takeMark_2 ⟨Nat.le_of_ble_eq_true rfl, Nat.le_of_ble_eq_true rfl⟩) hS (fun q _ h => XA.le hS.1 q h) (XA.le hS.1) (fun r1 x t H locs ht hvm hw hB _ _ hS => ?_)
  have hP := xB.at ht hB
  clear hB ht hvm
  obtain ⟨rfl, hw⟩ := hw
  have hP : va_P (dC, dI) vwCl (xw A C nb st sl so) _ := hP
  rcases hw with rfl | rfl
  · refine lv_if_ne (tgt := 14) hx hb dX8_takeMark_5 (by decide) (fun _ => ?_) (fun cc => absurd cc (by decide))
    refine lv_aload_n hx hb dX8_takeMark_14 rfl (lv_at hl 0 rfl) ?_
    refine va_callv (va_runV (As := []) (rest := []) ⟨hx, hb, hml, hown, hts⟩ (x_X8_step l dC dI ad E hEE A C nb _ hN st sl so  hG.1 hO.1) (cwV 0 hts gX8_takeMark_X8_step rfl rfl rfl (by decide +kernel) ⟨Nat.le_of_ble_eq_true rfl, Nat.le_of_ble_eq_true rfl⟩) ⟨fun a U g mk q => ⟨q.1, xPre.blind hEE q.2⟩, va_recv hK hP (ci := 9) (q0 := 1) rfl (xw_is (r := 1) (by omega) (xc_fix (r := 1) (by omega))), fun U hU hW => ⟨rfl, xPre.of hEE hP hK hE hS hU hW⟩⟩ rfl rfl hl.1 rfl (lv_room (Nat.le_of_ble_eq_true rfl)) dX8_takeMark_15 ⟨Nat.le_of_ble_eq_true rfl, Nat.le_of_ble_eq_true rfl⟩) hS (fun q _ h => XA.le hS.1 q h) (XA.le hS.1) (fun x t H locs ht hvm hw hB _ _ hS => ?_)
    have hP := xB.at ht hB
    clear hB ht hvm
    obtain ⟨st3, sl4, so5⟩ := x
    obtain ⟨hGst3, hLGst3, hOst3, hw⟩ := hw
    dsimp only at hGst3 hLGst3 hOst3 hw
    have hL : LGq sl sl4 := hL.tr hLGst3
    have hO : OG ad [2, 3, 4] so so5 := hO.tr hOst3 (by decide)
    have hP : va_P (dC, dI) vwCl (xw A C nb st3 sl4 so5) _ := hP
    have hG : XG [1, 2, 3, 4, 5, 6, 7, 8, 9, 11, 12, 13, 14, 15] st st3 := hG.tr hGst3 (by decide)
    clear hw
    refine lv_iconst (v := 1) hx hb dX8_takeMark_18 (by decide) ?_
    exact W.zret (v := 1) hx hb hr rfl (fun t ht hW => ⟨⟨1, (st3, sl4, so5), rfl, ⟨hG, hL, hO, Or.inl (rfl)⟩, xB.of ht hP⟩, hS.F ht⟩) hS.2.2 dX8_takeMark_19
  · refine lv_if_ne (tgt := 14) hx hb dX8_takeMark_5 (by decide) (fun cc => absurd (by decide) cc) (fun _ => ?_)
    refine lv_aload_n hx hb dX8_takeMark_8 rfl (lv_at hl 0 rfl) ?_
    refine lv_iconst (v := 1) hx hb dX8_takeMark_9 (by decide) ?_
    refine va_calli (va_runV (As := [.int 1]) (rest := []) ⟨hx, hb, hml, hown, hts⟩ (x_X8_refuse l dC dI ad E hEE A C nb _ hN st sl so 1  hG.1) (cwV 1 hts gX8_takeMark_X8_refuse rfl rfl rfl (by decide +kernel) ⟨Nat.le_of_ble_eq_true rfl, Nat.le_of_ble_eq_true rfl⟩) ⟨fun a U g mk q => ⟨q.1, xPre.blind hEE q.2⟩, va_recv hK hP (ci := 9) (q0 := 1) rfl (xw_is (r := 1) (by omega) (xc_fix (r := 1) (by omega))), fun U hU hW => ⟨rfl, xPre.of hEE hP hK hE hS hU hW⟩⟩ rfl rfl hl.1 rfl (lv_room (Nat.le_of_ble_eq_true rfl)) dX8_takeMark_10 ⟨Nat.le_of_ble_eq_true rfl, Nat.le_of_ble_eq_true rfl⟩) hS (fun q _ h => XA.le hS.1 q h) (XA.le hS.1) (fun r6 x t H locs ht hvm hw hB _ _ hS => ?_)
    have hP := xB.at ht hB
    clear hB ht hvm
    obtain ⟨st7, sl8, so9⟩ := x
    obtain ⟨hGst7, hLGst7, hOst7, hw⟩ := hw
    dsimp only at hGst7 hLGst7 hOst7 hw
    have hL : LGq sl sl8 := hL.tr hLGst7
    replace hOst7 := hOst7.symm
    subst hOst7
    have hP : va_P (dC, dI) vwCl (xw A C nb st7 sl8 so) _ := hP
    have hG : XG [1, 2, 3, 4, 5, 6, 7, 8, 9, 11, 12, 13, 14, 15] st st7 := hG.tr hGst7 (by decide)
    obtain ⟨rfl, hf10⟩ := hw
    exact W.zret (v := 0) hx hb hr rfl (fun t ht hW => ⟨⟨0, (st7, sl8, so), rfl, ⟨hG, hL, hO, Or.inr (⟨rfl, by show ¬ st7 1 13 = 0; rw [hf10]; decide⟩)⟩, xB.of ht hP⟩, hS.F ht⟩) hS.2.2 dX8_takeMark_13
set_option maxHeartbeats 4000000 in
set_option maxRecDepth 100000 in
theorem x_X8_takeNumber (l : Launch) (dC : Nat → ClassId) (dI : Nat → Nat → Nat) (ad : Nat → Nat) (E : EP) (hEE : EC ad E) (A : Nat → Nat) (C : Nat → ClassId) (nb sz : Nat) (hN : XN A) (st : Nat → Nat → Int32) (sl : Nat → Nat → Int64) (so : Nat → XR) (va : Int32) (vb : Int32) (hI : XI st) (hOI : OI ad so) : Met l yX8_takeNumber wsX8_takeNumber ({ frames := 6, cells := 0, slots := 0, locals := 130 }) (va_Pc [.ref (A 1), .int va, .int vb] (xPre E dC dI A C nb sz st sl so)) (va_Qi (fun (r : Int32) (x : XT) => XG [1, 2, 3, 4, 5, 6, 7, 8, 9, 12, 13, 14, 15] st x.1 ∧ LGq sl x.2.1 ∧ OG ad [2, 3, 4] so x.2.2 ∧ ((r = 1) ∨ (r = 0 ∧ ¬ x.1 1 13 = 0))) (xB dC dI A C nb) (XA A sz)) 0 0 (XA A sz) := by
  refine Met.ofW (cc := cX8_takeNumber) (maxL := 3) (ret := (some .boolean)) (by decide) rfl ?_
  intro p e s m args below meth c s₁ B hml hv
  obtain ⟨rfl, hsz, hP, hK, hE⟩ := hv
  have hx := B.exec
  have hb := B.bytes
  have hr := B.returns
  have hts := atoms_spec (ws := wsX8_takeNumber) B.pre
  have hown : s.vm.findClass RX8 = some m.cls := findClass_of_methodNamed B.named
  subst hsz
  have hEv := hEE.1 _ _ _ hE
  have hS : va_S (XA A s.heap.size) s.heap s.heap [] := va_S.rf
  have hG : XG [1, 2, 3, 4, 5, 6, 7, 8, 9, 12, 13, 14, 15] st st := XG.rf hI
  have hO : OG ad [2, 3, 4] so so := OG.rf hOI
  have hl := lv_entry ([.ref (A 1), .int va, .int vb]) (n := 3) (Nat.le_of_ble_eq_true rfl)
  rw [lg_entry_eq]
  generalize (lg_sl ([.ref (A 1), .int va, .int vb]) ++ List.replicate (3 - (lg_sl ([.ref (A 1), .int va, .int vb])).length) Slot.unset).toArray = ls at hl ⊢
  have hl : lv_has ls 3 [(0, .ref (A 1)), (1, .int va), (2, .int vb)] := hl
  have hL : LGq sl sl := LGq.rf
  refine lv_aload_n hx hb dX8_takeNumber_0 rfl (lv_at hl 0 rfl) ?_
  refine va_get (D := (dC, dI)) (ci := 9) (v := .int (st 1 4)) (C := RX8) (T := TX8) (N := 15) hx hb hts ii_X8_takeNumber_X8 hown hK hP 1 (xw_is (r := 1) (by omega) (xc_fix (r := 1) (by omega))) rfl 4 (by decide) (hts _ mm_X8_takeNumber_1) (fun _ hh => hh) rfl dX8_takeNumber_1 ?_
  obtain ⟨z1, ez1⟩ : ∃ y : Int32, st 1 4 = y := ⟨_, rfl⟩
  refine zz_top (v := z1) (by exact ez1) ?_
  refine lv_iconst (v := 1) hx hb dX8_takeNumber_4 (by decide) ?_
  refine lv_icmp_eq (tgt := 14) hx hb dX8_takeNumber_5 (by decide) (fun c1 => ?_) (fun c1 => ?_)
  · refine lv_aload_n hx hb dX8_takeNumber_14 rfl (lv_at hl 0 rfl) ?_
    refine va_get (D := (dC, dI)) (ci := 9) (v := .int (st 1 6)) (C := RX8) (T := TX8) (N := 15) hx hb hts ii_X8_takeNumber_X8 hown hK hP 1 (xw_is (r := 1) (by omega) (xc_fix (r := 1) (by omega))) rfl 6 (by decide) (hts _ mm_X8_takeNumber_2) (fun _ hh => hh) rfl dX8_takeNumber_15 ?_
    obtain ⟨z2, ez2⟩ : ∃ y : Int32, st 1 6 = y := ⟨_, rfl⟩
    refine zz_top (v := z2) (by exact ez2) ?_
    refine lv_iload_n hx hb dX8_takeNumber_18 rfl (lv_at hl 1 rfl) ?_
    refine lv_icmp_lt (tgt := 30) hx hb dX8_takeNumber_19 (by decide) (fun c2 => ?_) (fun c2 => ?_)
    · refine lv_aload_n hx hb dX8_takeNumber_30 rfl (lv_at hl 0 rfl) ?_
      refine lv_iconst (v := 2) hx hb dX8_takeNumber_31 (by decide) ?_
      refine va_calli (va_runV (As := [.int 2]) (rest := []) ⟨hx, hb, hml, hown, hts⟩ (x_X8_refuse l dC dI ad E hEE A C nb _ hN st sl so 2  hG.1) (cwV 1 hts gX8_takeNumber_X8_refuse rfl rfl rfl (by decide +kernel) ⟨Nat.le_of_ble_eq_true rfl, Nat.le_of_ble_eq_true rfl⟩) ⟨fun a U g mk q => ⟨q.1, xPre.blind hEE q.2⟩, va_recv hK hP (ci := 9) (q0 := 1) rfl (xw_is (r := 1) (by omega) (xc_fix (r := 1) (by omega))), fun U hU hW => ⟨rfl, xPre.of hEE hP hK hE hS hU hW⟩⟩ rfl rfl hl.1 rfl (lv_room (Nat.le_of_ble_eq_true rfl)) dX8_takeNumber_32 ⟨Nat.le_of_ble_eq_true rfl, Nat.le_of_ble_eq_true rfl⟩) hS (fun q _ h => XA.le hS.1 q h) (XA.le hS.1) (fun r3 x t H locs ht hvm hw hB _ _ hS => ?_)
      have hP := xB.at ht hB
      clear hB ht hvm
      obtain ⟨st4, sl5, so6⟩ := x
      obtain ⟨hGst4, hLGst4, hOst4, hw⟩ := hw
      dsimp only at hGst4 hLGst4 hOst4 hw
      have hL : LGq sl sl5 := hL.tr hLGst4
      replace hOst4 := hOst4.symm
      subst hOst4
      have hP : va_P (dC, dI) vwCl (xw A C nb st4 sl5 so) _ := hP
      have hG : XG [1, 2, 3, 4, 5, 6, 7, 8, 9, 12, 13, 14, 15] st st4 := hG.tr hGst4 (by decide)
      obtain ⟨rfl, hf7⟩ := hw
      exact W.zret (v := 0) hx hb hr rfl (fun t ht hW => ⟨⟨0, (st4, sl5, so), rfl, ⟨hG, hL, hO, Or.inr (⟨rfl, by show ¬ st4 1 13 = 0; rw [hf7]; decide⟩)⟩, xB.of ht hP⟩, hS.F ht⟩) hS.2.2 dX8_takeNumber_35
    · refine lv_aload_n hx hb dX8_takeNumber_22 rfl (lv_at hl 0 rfl) ?_
      refine va_get (D := (dC, dI)) (ci := 9) (v := .int (st 1 6)) (C := RX8) (T := TX8) (N := 15) hx hb hts ii_X8_takeNumber_X8 hown hK hP 1 (xw_is (r := 1) (by omega) (xc_fix (r := 1) (by omega))) rfl 6 (by decide) (hts _ mm_X8_takeNumber_2) (fun _ hh => hh) rfl dX8_takeNumber_23 ?_
      refine zz_top (v := z2) (by show st 1 6 = _; rw [ez2]) ?_
      refine lv_iload_n hx hb dX8_takeNumber_26 rfl (lv_at hl 2 rfl) ?_
      refine lv_icmp_le (tgt := 36) hx hb dX8_takeNumber_27 (by decide) (fun c3 => ?_) (fun c3 => ?_)
      · refine lv_aload_n hx hb dX8_takeNumber_36 rfl (lv_at hl 0 rfl) ?_
        refine lv_aload_n hx hb dX8_takeNumber_37 rfl (lv_at hl 0 rfl) ?_
        refine va_get (D := (dC, dI)) (ci := 9) (v := .int (st 1 6)) (C := RX8) (T := TX8) (N := 15) hx hb hts ii_X8_takeNumber_X8 hown hK hP 1 (xw_is (r := 1) (by omega) (xc_fix (r := 1) (by omega))) rfl 6 (by decide) (hts _ mm_X8_takeNumber_2) (fun _ hh => hh) rfl dX8_takeNumber_38 ?_
        refine zz_top (v := z2) (by show st 1 6 = _; rw [ez2]) ?_
        refine va_put (D := (dC, dI)) (ci := 9) (v := .int z2) (ty := .int) (C := RX8) (T := TX8) (N := 15) hx hb hts ii_X8_takeNumber_X8 tyX8 tyX8_ok nmX8 hown hK hP (xD hN _ _ _ _ _ _) hS 1 (xw_is (r := 1) (by omega) (xc_fix (r := 1) (by omega))) rfl 9 (by decide) (hts _ mm_X8_takeNumber_3) (fun _ hh => hh) rfl (by decide +kernel) rfl rfl (Nat.le_of_ble_eq_true rfl) dX8_takeNumber_41 (fun H locs hP _ hS => ?_)
        have hP : va_P (dC, dI) vwCl (xw A C nb (up2 st 1 9 z2) sl so) H := by rw [← xset (r := 1) (k := 9) (v := z2) (xc_fix (r := 1) (by omega))]; exact hP
        obtain ⟨st8, est8⟩ : ∃ y, y = up2 st 1 9 z2 := ⟨_, rfl⟩
        have hG : XG [1, 2, 3, 4, 5, 6, 7, 8, 9, 12, 13, 14, 15] st st8 := by rw [est8]; exact hG.up (xz (r := 1) (k := 9) (by decide : xrg 1 9 = 0)) (xpn (c := 11) (by decide : xcl 1 9 = 11) (by decide))
        rw [← est8] at hP
        refine lv_aload_n hx hb dX8_takeNumber_44 rfl (lv_at hl 0 rfl) ?_
        refine va_callv (va_runV (As := []) (rest := []) ⟨hx, hb, hml, hown, hts⟩ (x_X8_step l dC dI ad E hEE A C nb _ hN st8 sl so  hG.1 hO.1) (cwV 0 hts gX8_takeNumber_X8_step rfl rfl rfl (by decide +kernel) ⟨Nat.le_of_ble_eq_true rfl, Nat.le_of_ble_eq_true rfl⟩) ⟨fun a U g mk q => ⟨q.1, xPre.blind hEE q.2⟩, va_recv hK hP (ci := 9) (q0 := 1) rfl (xw_is (r := 1) (by omega) (xc_fix (r := 1) (by omega))), fun U hU hW => ⟨rfl, xPre.of hEE hP hK hE hS hU hW⟩⟩ rfl rfl hl.1 rfl (lv_room (Nat.le_of_ble_eq_true rfl)) dX8_takeNumber_45 ⟨Nat.le_of_ble_eq_true rfl, Nat.le_of_ble_eq_true rfl⟩) hS (fun q _ h => XA.le hS.1 q h) (XA.le hS.1) (fun x t H locs ht hvm hw hB _ _ hS => ?_)
        have hP := xB.at ht hB
        clear hB ht hvm
        obtain ⟨st10, sl11, so12⟩ := x
        obtain ⟨hGst10, hLGst10, hOst10, hw⟩ := hw
        dsimp only at hGst10 hLGst10 hOst10 hw
        have hL : LGq sl sl11 := hL.tr hLGst10
        have hO : OG ad [2, 3, 4] so so12 := hO.tr hOst10 (by decide)
        have hP : va_P (dC, dI) vwCl (xw A C nb st10 sl11 so12) _ := hP
        have hG : XG [1, 2, 3, 4, 5, 6, 7, 8, 9, 12, 13, 14, 15] st st10 := hG.tr hGst10 (by decide)
        clear hw
        refine lv_iconst (v := 1) hx hb dX8_takeNumber_48 (by decide) ?_
        exact W.zret (v := 1) hx hb hr rfl (fun t ht hW => ⟨⟨1, (st10, sl11, so12), rfl, ⟨hG, hL, hO, Or.inl (rfl)⟩, xB.of ht hP⟩, hS.F ht⟩) hS.2.2 dX8_takeNumber_49
      · refine lv_aload_n hx hb dX8_takeNumber_30 rfl (lv_at hl 0 rfl) ?_
        refine lv_iconst (v := 2) hx hb dX8_takeNumber_31 (by decide) ?_
        refine va_calli (va_runV (As := [.int 2]) (rest := []) ⟨hx, hb, hml, hown, hts⟩ (x_X8_refuse l dC dI ad E hEE A C nb _ hN st sl so 2  hG.1) (cwV 1 hts gX8_takeNumber_X8_refuse rfl rfl rfl (by decide +kernel) ⟨Nat.le_of_ble_eq_true rfl, Nat.le_of_ble_eq_true rfl⟩) ⟨fun a U g mk q => ⟨q.1, xPre.blind hEE q.2⟩, va_recv hK hP (ci := 9) (q0 := 1) rfl (xw_is (r := 1) (by omega) (xc_fix (r := 1) (by omega))), fun U hU hW => ⟨rfl, xPre.of hEE hP hK hE hS hU hW⟩⟩ rfl rfl hl.1 rfl (lv_room (Nat.le_of_ble_eq_true rfl)) dX8_takeNumber_32 ⟨Nat.le_of_ble_eq_true rfl, Nat.le_of_ble_eq_true rfl⟩) hS (fun q _ h => XA.le hS.1 q h) (XA.le hS.1) (fun r13 x t H locs ht hvm hw hB _ _ hS => ?_)
        have hP := xB.at ht hB
        clear hB ht hvm
        obtain ⟨st14, sl15, so16⟩ := x
        obtain ⟨hGst14, hLGst14, hOst14, hw⟩ := hw
        dsimp only at hGst14 hLGst14 hOst14 hw
        have hL : LGq sl sl15 := hL.tr hLGst14
        replace hOst14 := hOst14.symm
        subst hOst14
        have hP : va_P (dC, dI) vwCl (xw A C nb st14 sl15 so) _ := hP
        have hG : XG [1, 2, 3, 4, 5, 6, 7, 8, 9, 12, 13, 14, 15] st st14 := hG.tr hGst14 (by decide)
        obtain ⟨rfl, hf17⟩ := hw
        exact W.zret (v := 0) hx hb hr rfl (fun t ht hW => ⟨⟨0, (st14, sl15, so), rfl, ⟨hG, hL, hO, Or.inr (⟨rfl, by show ¬ st14 1 13 = 0; rw [hf17]; decide⟩)⟩, xB.of ht hP⟩, hS.F ht⟩) hS.2.2 dX8_takeNumber_35
  · refine lv_aload_n hx hb dX8_takeNumber_8 rfl (lv_at hl 0 rfl) ?_
    refine lv_iconst (v := 1) hx hb dX8_takeNumber_9 (by decide) ?_
    refine va_calli (va_runV (As := [.int 1]) (rest := []) ⟨hx, hb, hml, hown, hts⟩ (x_X8_refuse l dC dI ad E hEE A C nb _ hN st sl so 1  hG.1) (cwV 1 hts gX8_takeNumber_X8_refuse rfl rfl rfl (by decide +kernel) ⟨Nat.le_of_ble_eq_true rfl, Nat.le_of_ble_eq_true rfl⟩) ⟨fun a U g mk q => ⟨q.1, xPre.blind hEE q.2⟩, va_recv hK hP (ci := 9) (q0 := 1) rfl (xw_is (r := 1) (by omega) (xc_fix (r := 1) (by omega))), fun U hU hW => ⟨rfl, xPre.of hEE hP hK hE hS hU hW⟩⟩ rfl rfl hl.1 rfl (lv_room (Nat.le_of_ble_eq_true rfl)) dX8_takeNumber_10 ⟨Nat.le_of_ble_eq_true rfl, Nat.le_of_ble_eq_true rfl⟩) hS (fun q _ h => XA.le hS.1 q h) (XA.le hS.1) (fun r18 x t H locs ht hvm hw hB _ _ hS => ?_)
    have hP := xB.at ht hB
    clear hB ht hvm
    obtain ⟨st19, sl20, so21⟩ := x
    obtain ⟨hGst19, hLGst19, hOst19, hw⟩ := hw
    dsimp only at hGst19 hLGst19 hOst19 hw
    have hL : LGq sl sl20 := hL.tr hLGst19
    replace hOst19 := hOst19.symm
    subst hOst19
    have hP : va_P (dC, dI) vwCl (xw A C nb st19 sl20 so) _ := hP
    have hG : XG [1, 2, 3, 4, 5, 6, 7, 8, 9, 12, 13, 14, 15] st st19 := hG.tr hGst19 (by decide)
    obtain ⟨rfl, hf22⟩ := hw
    exact W.zret (v := 0) hx hb hr rfl (fun t ht hW => ⟨⟨0, (st19, sl20, so), rfl, ⟨hG, hL, hO, Or.inr (⟨rfl, by show ¬ st19 1 13 = 0; rw [hf22]; decide⟩)⟩, xB.of ht hP⟩, hS.F ht⟩) hS.2.2 dX8_takeNumber_13
set_option maxHeartbeats 4000000 in
set_option maxRecDepth 100000 in
theorem x_X8_takeHours (l : Launch) (dC : Nat → ClassId) (dI : Nat → Nat → Nat) (ad : Nat → Nat) (E : EP) (hEE : EC ad E) (A : Nat → Nat) (C : Nat → ClassId) (nb sz : Nat) (hN : XN A) (st : Nat → Nat → Int32) (sl : Nat → Nat → Int64) (so : Nat → XR) (hI : XI st) (hOI : OI ad so) : Met l yX8_takeHours wsX8_takeHours ({ frames := 7, cells := 0, slots := 0, locals := 152 }) (va_Pc [.ref (A 1)] (xPre E dC dI A C nb sz st sl so)) (va_Qi (fun (r : Int32) (x : XT) => XG [1, 2, 3, 4, 5, 6, 7, 8, 9, 12, 13, 14, 15] st x.1 ∧ LGq sl x.2.1 ∧ OG ad [2, 3, 4] so x.2.2 ∧ ((r = 1) ∨ (r = 0 ∧ ¬ x.1 1 13 = 0))) (xB dC dI A C nb) (XA A sz)) 0 0 (XA A sz) := by
  refine Met.ofW (cc := cX8_takeHours) (maxL := 1) (ret := (some .boolean)) (by decide) rfl ?_
  intro p e s m args below meth c s₁ B hml hv
  obtain ⟨rfl, hsz, hP, hK, hE⟩ := hv
  have hx := B.exec
  have hb := B.bytes
  have hr := B.returns
  have hts := atoms_spec (ws := wsX8_takeHours) B.pre
  have hown : s.vm.findClass RX8 = some m.cls := findClass_of_methodNamed B.named
  subst hsz
  have hEv := hEE.1 _ _ _ hE
  have hS : va_S (XA A s.heap.size) s.heap s.heap [] := va_S.rf
  have hG : XG [1, 2, 3, 4, 5, 6, 7, 8, 9, 12, 13, 14, 15] st st := XG.rf hI
  have hO : OG ad [2, 3, 4] so so := OG.rf hOI
  have hl := lv_entry ([.ref (A 1)]) (n := 1) (Nat.le_of_ble_eq_true rfl)
  rw [lg_entry_eq]
  generalize (lg_sl ([.ref (A 1)]) ++ List.replicate (1 - (lg_sl ([.ref (A 1)])).length) Slot.unset).toArray = ls at hl ⊢
  have hl : lv_has ls 1 [(0, .ref (A 1))] := hl
  have hL : LGq sl sl := LGq.rf
  refine lv_aload_n hx hb dX8_takeHours_0 rfl (lv_at hl 0 rfl) ?_
  refine lv_iconst (v := 0) hx hb dX8_takeHours_1 (by decide) ?_
  refine lv_bipush (v := 23) hx hb dX8_takeHours_2 (by decide) ?_
  refine va_calli (va_runV (As := [.int 0, .int 23]) (rest := []) ⟨hx, hb, hml, hown, hts⟩ (x_X8_takeNumber l dC dI ad E hEE A C nb _ hN st sl so 0 23  hG.1 hO.1) (cwV 2 hts gX8_takeHours_X8_takeNumber rfl rfl rfl (by decide +kernel) ⟨Nat.le_of_ble_eq_true rfl, Nat.le_of_ble_eq_true rfl⟩) ⟨fun a U g mk q => ⟨q.1, xPre.blind hEE q.2⟩, va_recv hK hP (ci := 9) (q0 := 1) rfl (xw_is (r := 1) (by omega) (xc_fix (r := 1) (by omega))), fun U hU hW => ⟨rfl, xPre.of hEE hP hK hE hS hU hW⟩⟩ rfl rfl hl.1 rfl (lv_room (Nat.le_of_ble_eq_true rfl)) dX8_takeHours_4 ⟨Nat.le_of_ble_eq_true rfl, Nat.le_of_ble_eq_true rfl⟩) hS (fun q _ h => XA.le hS.1 q h) (XA.le hS.1) (fun r1 x t H locs ht hvm hw hB _ _ hS => ?_)
  have hP := xB.at ht hB
  clear hB ht hvm
  obtain ⟨st2, sl3, so4⟩ := x
  obtain ⟨hGst2, hLGst2, hOst2, hw⟩ := hw
  dsimp only at hGst2 hLGst2 hOst2 hw
  have hL : LGq sl sl3 := hL.tr hLGst2
  have hO : OG ad [2, 3, 4] so so4 := hO.tr hOst2 (by decide)
  have hP : va_P (dC, dI) vwCl (xw A C nb st2 sl3 so4) _ := hP
  have hG : XG [1, 2, 3, 4, 5, 6, 7, 8, 9, 12, 13, 14, 15] st st2 := hG.tr hGst2 (by decide)
  rcases hw with rfl | ⟨rfl, hf5⟩
  · refine lv_if_ne (tgt := 12) hx hb dX8_takeHours_7 (by decide) (fun _ => ?_) (fun cc => absurd cc (by decide))
    refine lv_aload_n hx hb dX8_takeHours_12 rfl (lv_at hl 0 rfl) ?_
    refine lv_aload_n hx hb dX8_takeHours_13 rfl (lv_at hl 0 rfl) ?_
    refine va_get (D := (dC, dI)) (ci := 9) (v := .int (st2 1 9)) (C := RX8) (T := TX8) (N := 15) hx hb hts ii_X8_takeHours_X8 hown hK hP 1 (xw_is (r := 1) (by omega) (xc_fix (r := 1) (by omega))) rfl 9 (by decide) (hts _ mm_X8_takeHours_1) (fun _ hh => hh) rfl dX8_takeHours_14 ?_
    obtain ⟨z6, ez6⟩ : ∃ y : Int32, st2 1 9 = y := ⟨_, rfl⟩
    refine zz_top (v := z6) (by exact ez6) ?_
    refine va_put (D := (dC, dI)) (ci := 9) (v := .int z6) (ty := .int) (C := RX8) (T := TX8) (N := 15) hx hb hts ii_X8_takeHours_X8 tyX8 tyX8_ok nmX8 hown hK hP (xD hN _ _ _ _ _ _) hS 1 (xw_is (r := 1) (by omega) (xc_fix (r := 1) (by omega))) rfl 11 (by decide) (hts _ mm_X8_takeHours_2) (fun _ hh => hh) rfl (by decide +kernel) rfl rfl (Nat.le_of_ble_eq_true rfl) dX8_takeHours_17 (fun H locs hP _ hS => ?_)
    have hP : va_P (dC, dI) vwCl (xw A C nb (up2 st2 1 11 z6) sl3 so4) H := by rw [← xset (r := 1) (k := 11) (v := z6) (xc_fix (r := 1) (by omega))]; exact hP
    obtain ⟨st7, est7⟩ : ∃ y, y = up2 st2 1 11 z6 := ⟨_, rfl⟩
    have hG : XG [1, 2, 3, 4, 5, 6, 7, 8, 9, 12, 13, 14, 15] st st7 := by rw [est7]; exact hG.up (xz (r := 1) (k := 11) (by decide : xrg 1 11 = 0)) (xpn (c := 0) (by decide : xcl 1 11 = 0) (by decide))
    rw [← est7] at hP
    refine lv_aload_n hx hb dX8_takeHours_20 rfl (lv_at hl 0 rfl) ?_
    refine lv_aload_n hx hb dX8_takeHours_21 rfl (lv_at hl 0 rfl) ?_
    refine va_get (D := (dC, dI)) (ci := 9) (v := .int (st7 1 11)) (C := RX8) (T := TX8) (N := 15) hx hb hts ii_X8_takeHours_X8 hown hK hP 1 (xw_is (r := 1) (by omega) (xc_fix (r := 1) (by omega))) rfl 11 (by decide) (hts _ mm_X8_takeHours_2) (fun _ hh => hh) rfl dX8_takeHours_22 ?_
    refine zz_top (v := z6) (by show st7 1 11 = _; rw [est7, up2_same]) ?_
    refine lv_bipush (v := 23) hx hb dX8_takeHours_25 (by decide) ?_
    refine va_calli (va_runV (As := [.int z6, .int 23]) (rest := []) ⟨hx, hb, hml, hown, hts⟩ (x_X8_takeNumber l dC dI ad E hEE A C nb _ hN st7 sl3 so4 z6 23  hG.1 hO.1) (cwV 2 hts gX8_takeHours_X8_takeNumber rfl rfl rfl (by decide +kernel) ⟨Nat.le_of_ble_eq_true rfl, Nat.le_of_ble_eq_true rfl⟩) ⟨fun a U g mk q => ⟨q.1, xPre.blind hEE q.2⟩, va_recv hK hP (ci := 9) (q0 := 1) rfl (xw_is (r := 1) (by omega) (xc_fix (r := 1) (by omega))), fun U hU hW => ⟨rfl, xPre.of hEE hP hK hE hS hU hW⟩⟩ rfl rfl hl.1 rfl (lv_room (Nat.le_of_ble_eq_true rfl)) dX8_takeHours_27 ⟨Nat.le_of_ble_eq_true rfl, Nat.le_of_ble_eq_true rfl⟩) hS (fun q _ h => XA.le hS.1 q h) (XA.le hS.1) (fun r8 x t H locs ht hvm hw hB _ _ hS => ?_)
    have hP := xB.at ht hB
    clear hB ht hvm
    obtain ⟨st9, sl10, so11⟩ := x
    obtain ⟨hGst9, hLGst9, hOst9, hw⟩ := hw
    dsimp only at hGst9 hLGst9 hOst9 hw
    have hL : LGq sl sl10 := hL.tr hLGst9
    have hO : OG ad [2, 3, 4] so so11 := hO.tr hOst9 (by decide)
    have hP : va_P (dC, dI) vwCl (xw A C nb st9 sl10 so11) _ := hP
    have hG : XG [1, 2, 3, 4, 5, 6, 7, 8, 9, 12, 13, 14, 15] st st9 := hG.tr hGst9 (by decide)
    rcases hw with rfl | ⟨rfl, hf12⟩
    · refine lv_if_ne (tgt := 35) hx hb dX8_takeHours_30 (by decide) (fun _ => ?_) (fun cc => absurd cc (by decide))
      refine lv_aload_n hx hb dX8_takeHours_35 rfl (lv_at hl 0 rfl) ?_
      refine lv_aload_n hx hb dX8_takeHours_36 rfl (lv_at hl 0 rfl) ?_
      refine va_get (D := (dC, dI)) (ci := 9) (v := .int (st9 1 9)) (C := RX8) (T := TX8) (N := 15) hx hb hts ii_X8_takeHours_X8 hown hK hP 1 (xw_is (r := 1) (by omega) (xc_fix (r := 1) (by omega))) rfl 9 (by decide) (hts _ mm_X8_takeHours_1) (fun _ hh => hh) rfl dX8_takeHours_37 ?_
      obtain ⟨z13, ez13⟩ : ∃ y : Int32, st9 1 9 = y := ⟨_, rfl⟩
      refine zz_top (v := z13) (by exact ez13) ?_
      refine va_put (D := (dC, dI)) (ci := 9) (v := .int z13) (ty := .int) (C := RX8) (T := TX8) (N := 15) hx hb hts ii_X8_takeHours_X8 tyX8 tyX8_ok nmX8 hown hK hP (xD hN _ _ _ _ _ _) hS 1 (xw_is (r := 1) (by omega) (xc_fix (r := 1) (by omega))) rfl 12 (by decide) (hts _ mm_X8_takeHours_3) (fun _ hh => hh) rfl (by decide +kernel) rfl rfl (Nat.le_of_ble_eq_true rfl) dX8_takeHours_40 (fun H locs hP _ hS => ?_)
      have hP : va_P (dC, dI) vwCl (xw A C nb (up2 st9 1 12 z13) sl10 so11) H := by rw [← xset (r := 1) (k := 12) (v := z13) (xc_fix (r := 1) (by omega))]; exact hP
      obtain ⟨st14, est14⟩ : ∃ y, y = up2 st9 1 12 z13 := ⟨_, rfl⟩
      have hG : XG [1, 2, 3, 4, 5, 6, 7, 8, 9, 12, 13, 14, 15] st st14 := by rw [est14]; exact hG.up (xz (r := 1) (k := 12) (by decide : xrg 1 12 = 0)) (xpn (c := 0) (by decide : xcl 1 12 = 0) (by decide))
      rw [← est14] at hP
      refine lv_iconst (v := 1) hx hb dX8_takeHours_43 (by decide) ?_
      exact W.zret (v := 1) hx hb hr rfl (fun t ht hW => ⟨⟨1, (st14, sl10, so11), rfl, ⟨hG, hL, hO, Or.inl (rfl)⟩, xB.of ht hP⟩, hS.F ht⟩) hS.2.2 dX8_takeHours_44
    · refine lv_if_ne (tgt := 35) hx hb dX8_takeHours_30 (by decide) (fun cc => absurd (by decide) cc) (fun _ => ?_)
      refine lv_iconst (v := 0) hx hb dX8_takeHours_33 (by decide) ?_
      exact W.zret (v := 0) hx hb hr rfl (fun t ht hW => ⟨⟨0, (st9, sl10, so11), rfl, ⟨hG, hL, hO, Or.inr (⟨rfl, by show ¬ st9 1 13 = 0; exact hf12⟩)⟩, xB.of ht hP⟩, hS.F ht⟩) hS.2.2 dX8_takeHours_34
  · refine lv_if_ne (tgt := 12) hx hb dX8_takeHours_7 (by decide) (fun cc => absurd (by decide) cc) (fun _ => ?_)
    refine lv_iconst (v := 0) hx hb dX8_takeHours_10 (by decide) ?_
    exact W.zret (v := 0) hx hb hr rfl (fun t ht hW => ⟨⟨0, (st2, sl3, so4), rfl, ⟨hG, hL, hO, Or.inr (⟨rfl, by show ¬ st2 1 13 = 0; exact hf5⟩)⟩, xB.of ht hP⟩, hS.F ht⟩) hS.2.2 dX8_takeHours_11
