set_option maxHeartbeats 4000000 in
set_option maxRecDepth 100000 in
theorem e_X11_person (l : Launch) (hst : l.stackTraces = false) (dC : Nat → ClassId) (dI : Nat → Nat → Nat) (ad : Nat → Nat) (E : EP) (hEE : EC ad E) (hEE2 : ∀ A U H, E A U H → EX A U H) (A : Nat → Nat) (C : Nat → ClassId) (nb sz : Nat) (hN : XN A) (st : Nat → Nat → Int32) (sl : Nat → Nat → Int64) (so : Nat → XR) (va vb : Int32) (hI : XI st) : vx_Met l yX11_person wsX11_person ({ frames := 6, cells := 1, slots := 6, locals := 87 }) (va_Pc [.ref (A 0), .int va, .int vb] (xPre E dC dI A C nb sz st sl so)) (va_Qi (fun (_ : Int32) (x : XT) => x = (st, sl, so)) (xB dC dI A C nb) (XA A sz)) (vx_X (fun _ : Unit => True) (fun (E9 : String) (_ : Unit) (t : State) => E9 = "java/util/NoSuchElementException" ∧ xB dC dI A C nb (st, sl, so) t) (XA A sz)) 1 6 (XA A sz) := by
  refine vx_ofW (cc := cX11_person) (maxL := 4) (ret := (some .int)) (by decide) rfl ?_
  intro p e s m args below meth c s₁ B hml htab hv
  obtain ⟨rfl, hsz, hP, hK, hE⟩ := hv
  have hx := B.exec
  have hb := B.bytes
  have hr := B.returns
  have hts := atoms_spec (ws := wsX11_person) B.pre
  have hown : s.vm.findClass RX11 = some m.cls := findClass_of_methodNamed B.named
  have hlocks := B.notSynchronized
  subst hsz
  have hEv := hEE.1 _ _ _ hE
  have hEX := hEE2 _ _ _ hE
  have hS : va_S (XA A s.heap.size) s.heap s.heap [] := va_S.rf
  have hG : XG [1, 2, 3, 4, 5, 6, 7, 8, 9, 10, 11, 12, 13, 14, 15] st st := XG.rf hI
  have hl := lv_entry ([.ref (A 0), .int va, .int vb]) (n := 4) (Nat.le_of_ble_eq_true rfl)
  rw [lg_entry_eq]
  generalize (lg_sl ([.ref (A 0), .int va, .int vb]) ++ List.replicate (4 - (lg_sl ([.ref (A 0), .int va, .int vb])).length) Slot.unset).toArray = ls at hl ⊢
  have hl : lv_has ls 4 [(0, .ref (A 0)), (1, .int va), (2, .int vb)] := hl
  refine lv_aload_n hx hb dX11_person_0 rfl (lv_at hl 0 rfl) ?_
  refine va_get (D := (dC, dI)) (ci := 10) (v := .ref (A (36 + 20 * 0))) (C := RX11) (T := TX11) (N := 19) hx hb hts ii_X11_person_X11 hown hK hP 0 (xw_is (r := 0) (by omega) (xc_fix (r := 0) (by omega))) rfl 1 (by decide) (hts _ mm_X11_person_3) (fun _ hh => hh) rfl dX11_person_1 ?_
  refine lv_iload_n hx hb dX11_person_4 rfl (lv_at hl 1 rfl) ?_
  refine va_calli (va_runV (As := [.int va]) (rest := []) ⟨hx, hb, hml, hown, hts⟩ (x_X4_hasPerson l dC dI ad E hEE A C nb _ hN st sl so 0 va (by omega) hG.1) (cwV 1 hts gX11_person_X4_hasPerson rfl rfl rfl (by decide +kernel) ⟨Nat.le_of_ble_eq_true rfl, Nat.le_of_ble_eq_true rfl⟩) ⟨fun a U g mk q => ⟨q.1, xPre.blind hEE q.2⟩, va_recv hK hP (ci := 5) (q0 := (36 + 20 * 0)) rfl (xw_is (r := (36 + 20 * 0)) (by omega) (xc_pk (i := 0) (o := 0) (by omega) (by omega))), fun U hU hW => ⟨rfl, xPre.of hEE hP hK hE hS hU hW⟩⟩ rfl rfl hl.1 rfl (lv_room (Nat.le_of_ble_eq_true rfl)) dX11_person_5 ⟨Nat.le_of_ble_eq_true rfl, Nat.le_of_ble_eq_true rfl⟩) hS (fun q _ h => XA.le hS.1 q h) (XA.le hS.1) (fun r1 x t H locs ht hvm hw hB _ _ hS => ?_)
  have hP := xB.at ht hB
  clear hB ht hvm
  obtain ⟨rfl, hw⟩ := hw
  have hP : va_P (dC, dI) vwCl (xw A C nb st sl so) _ := hP
  rcases hw with ⟨n2, rfl, hf3, rfl⟩ | rfl
  · refine lv_if_ne (tgt := 19) hx hb dX11_person_8 (by decide) (fun _ => ?_) (fun cc => absurd cc (by decide))
    refine lv_aload_n hx hb dX11_person_19 rfl (lv_at hl 0 rfl) ?_
    refine va_get (D := (dC, dI)) (ci := 10) (v := .ref (A (36 + 20 * 0))) (C := RX11) (T := TX11) (N := 19) hx hb hts ii_X11_person_X11 hown hK hP 0 (xw_is (r := 0) (by omega) (xc_fix (r := 0) (by omega))) rfl 1 (by decide) (hts _ mm_X11_person_3) (fun _ hh => hh) rfl dX11_person_20 ?_
    refine va_getN (host := "OffTheLead") (D := (dC, dI)) (ci := 5) (v := .ref (A (36 + 20 * 0 + 4))) (C := RX4) (T := TX4) (N := 12) hx hb hts ii_X11_person_X4 hown hK hP (36 + 20 * 0) (xw_is (r := (36 + 20 * 0)) (by omega) (xc_pk (i := 0) (o := 0) (by omega) (by omega))) rfl 3 (by decide) (va_Nw.use rfl (nf_X11_140 hEv)) (fun _ hh => hh) rfl dX11_person_23 ?_
    refine lv_iload_n hx hb dX11_person_26 rfl (lv_at hl 1 rfl) ?_
    refine va_aldq hx hb hK hP (36 + 20 * 0 + 4) (36 + 20 * 0 + 4) (xw_is (r := (36 + 20 * 0 + 4)) (by omega) (xc_pk (i := 0) (o := 4) (by omega) (by omega))) (xt_is (r := (36 + 20 * 0 + 4)) (by omega) ((xty_pk (i := 0) (o := 4) (by omega)).trans rfl)) (i := (nI n2)) (vp_in_nI (by omega) (by decide)) dX11_person_27 ?_
    refine zz_topq (r := some (A (36 + 20 * 0 + (6 + n2)))) (by rw [nI_clamp (by omega)]; exact congrArg some (congrArg A (by omega))) ?_
    refine lv_astore_n (lv' := [(3, .ref (A (36 + 20 * 0 + (6 + n2)))), (0, .ref (A 0)), (1, .int (nI n2)), (2, .int vb)]) hx hb dX11_person_28 rfl hl (by decide) rfl (fun ls hl => ?_)
    refine lv_iload_n hx hb dX11_person_29 rfl (lv_at hl 3 rfl) ?_
    by_cases cw4 : vb = 0
    · subst cw4
      refine lv_tableIn (tgt := 80) hx hb dX11_person_30 (by decide) (by decide) rfl (by decide) ?_
      refine lv_aload_n hx hb dX11_person_80 rfl (lv_at hl 0 rfl) ?_
      refine va_getN (host := "OffTheLead") (D := (dC, dI)) (ci := 7) (v := .int (st (36 + 20 * 0 + (6 + n2)) 1)) (C := RX6) (T := TX6) (N := 9) hx hb hts ii_X11_person_X6 hown hK hP (36 + 20 * 0 + (6 + n2)) (xw_is (r := (36 + 20 * 0 + (6 + n2))) (by omega) (xc_person (i := 0) (p := n2) (by omega) (by omega))) rfl 1 (by decide) (va_Nw.use rfl (nf_X11_144 hEv)) (fun _ hh => hh) rfl dX11_person_81 ?_
      obtain ⟨n5, hn5, en5⟩ := hG.1.at (r := (36 + 20 * 0 + (6 + n2))) (k := 1) (b := 5) ((xrg_pe (i := 0) (p := n2) (by omega)).trans (by decide)) (by decide)
      refine zz_top (v := nI n5) (by exact en5) ?_
      refine vx_ret ?_
      refine W.widen (k := 1) (n := 6) (Nat.le_of_ble_eq_true rfl) (Nat.le_of_ble_eq_true rfl) ?_
      exact W.iret (v := (nI n5)) hx hb hr (fun t ht hW => ⟨⟨(nI n5), (st, sl, so), rfl, rfl, xB.of ht hP⟩, hS.F ht⟩) hS.2.2 dX11_person_84
    by_cases cw6 : vb = 1
    · subst cw6
      refine lv_tableIn (tgt := 85) hx hb dX11_person_30 (by decide) (by decide) rfl (by decide) ?_
      refine lv_aload_n hx hb dX11_person_85 rfl (lv_at hl 0 rfl) ?_
      refine va_getN (host := "OffTheLead") (D := (dC, dI)) (ci := 7) (v := .int (st (36 + 20 * 0 + (6 + n2)) 2)) (C := RX6) (T := TX6) (N := 9) hx hb hts ii_X11_person_X6 hown hK hP (36 + 20 * 0 + (6 + n2)) (xw_is (r := (36 + 20 * 0 + (6 + n2))) (by omega) (xc_person (i := 0) (p := n2) (by omega) (by omega))) rfl 2 (by decide) (va_Nw.use rfl (nf_X11_149 hEv)) (fun _ hh => hh) rfl dX11_person_86 ?_
      obtain ⟨z7, ez7⟩ : ∃ y : Int32, st (36 + 20 * 0 + (6 + n2)) 2 = y := ⟨_, rfl⟩
      refine zz_top (v := z7) (by exact ez7) ?_
      refine vx_ret ?_
      refine W.widen (k := 1) (n := 6) (Nat.le_of_ble_eq_true rfl) (Nat.le_of_ble_eq_true rfl) ?_
      exact W.iret (v := z7) hx hb hr (fun t ht hW => ⟨⟨z7, (st, sl, so), rfl, rfl, xB.of ht hP⟩, hS.F ht⟩) hS.2.2 dX11_person_89
    by_cases cw8 : vb = 2
    · subst cw8
      refine lv_tableIn (tgt := 90) hx hb dX11_person_30 (by decide) (by decide) rfl (by decide) ?_
      refine lv_aload_n hx hb dX11_person_90 rfl (lv_at hl 0 rfl) ?_
      refine va_getN (host := "OffTheLead") (D := (dC, dI)) (ci := 7) (v := .int (st (36 + 20 * 0 + (6 + n2)) 3)) (C := RX6) (T := TX6) (N := 9) hx hb hts ii_X11_person_X6 hown hK hP (36 + 20 * 0 + (6 + n2)) (xw_is (r := (36 + 20 * 0 + (6 + n2))) (by omega) (xc_person (i := 0) (p := n2) (by omega) (by omega))) rfl 3 (by decide) (va_Nw.use rfl (nf_X11_152 hEv)) (fun _ hh => hh) rfl dX11_person_91 ?_
      obtain ⟨z9, ez9⟩ : ∃ y : Int32, st (36 + 20 * 0 + (6 + n2)) 3 = y := ⟨_, rfl⟩
      refine zz_top (v := z9) (by exact ez9) ?_
      refine vx_ret ?_
      refine W.widen (k := 1) (n := 6) (Nat.le_of_ble_eq_true rfl) (Nat.le_of_ble_eq_true rfl) ?_
      exact W.iret (v := z9) hx hb hr (fun t ht hW => ⟨⟨z9, (st, sl, so), rfl, rfl, xB.of ht hP⟩, hS.F ht⟩) hS.2.2 dX11_person_94
    by_cases cw10 : vb = 3
    · subst cw10
      refine lv_tableIn (tgt := 95) hx hb dX11_person_30 (by decide) (by decide) rfl (by decide) ?_
      refine lv_aload_n hx hb dX11_person_95 rfl (lv_at hl 0 rfl) ?_
      refine va_getN (host := "OffTheLead") (D := (dC, dI)) (ci := 7) (v := .int (st (36 + 20 * 0 + (6 + n2)) 4)) (C := RX6) (T := TX6) (N := 9) hx hb hts ii_X11_person_X6 hown hK hP (36 + 20 * 0 + (6 + n2)) (xw_is (r := (36 + 20 * 0 + (6 + n2))) (by omega) (xc_person (i := 0) (p := n2) (by omega) (by omega))) rfl 4 (by decide) (va_Nw.use rfl (nf_X11_155 hEv)) (fun _ hh => hh) rfl dX11_person_96 ?_
      obtain ⟨z11, ez11⟩ : ∃ y : Int32, st (36 + 20 * 0 + (6 + n2)) 4 = y := ⟨_, rfl⟩
      refine zz_top (v := z11) (by exact ez11) ?_
      refine vx_ret ?_
      refine W.widen (k := 1) (n := 6) (Nat.le_of_ble_eq_true rfl) (Nat.le_of_ble_eq_true rfl) ?_
      exact W.iret (v := z11) hx hb hr (fun t ht hW => ⟨⟨z11, (st, sl, so), rfl, rfl, xB.of ht hP⟩, hS.F ht⟩) hS.2.2 dX11_person_99
    by_cases cw12 : vb = 4
    · subst cw12
      refine lv_tableIn (tgt := 100) hx hb dX11_person_30 (by decide) (by decide) rfl (by decide) ?_
      refine lv_aload_n hx hb dX11_person_100 rfl (lv_at hl 0 rfl) ?_
      refine va_getN (host := "OffTheLead") (D := (dC, dI)) (ci := 7) (v := .int (st (36 + 20 * 0 + (6 + n2)) 5)) (C := RX6) (T := TX6) (N := 9) hx hb hts ii_X11_person_X6 hown hK hP (36 + 20 * 0 + (6 + n2)) (xw_is (r := (36 + 20 * 0 + (6 + n2))) (by omega) (xc_person (i := 0) (p := n2) (by omega) (by omega))) rfl 5 (by decide) (va_Nw.use rfl (nf_X11_158 hEv)) (fun _ hh => hh) rfl dX11_person_101 ?_
      obtain ⟨z13, ez13⟩ : ∃ y : Int32, st (36 + 20 * 0 + (6 + n2)) 5 = y := ⟨_, rfl⟩
      refine zz_top (v := z13) (by exact ez13) ?_
      refine vx_ret ?_
      refine W.widen (k := 1) (n := 6) (Nat.le_of_ble_eq_true rfl) (Nat.le_of_ble_eq_true rfl) ?_
      exact W.iret (v := z13) hx hb hr (fun t ht hW => ⟨⟨z13, (st, sl, so), rfl, rfl, xB.of ht hP⟩, hS.F ht⟩) hS.2.2 dX11_person_104
    by_cases cw14 : vb = 5
    · subst cw14
      refine lv_tableIn (tgt := 105) hx hb dX11_person_30 (by decide) (by decide) rfl (by decide) ?_
      refine lv_aload_n hx hb dX11_person_105 rfl (lv_at hl 0 rfl) ?_
      refine va_getN (host := "OffTheLead") (D := (dC, dI)) (ci := 7) (v := .int (st (36 + 20 * 0 + (6 + n2)) 6)) (C := RX6) (T := TX6) (N := 9) hx hb hts ii_X11_person_X6 hown hK hP (36 + 20 * 0 + (6 + n2)) (xw_is (r := (36 + 20 * 0 + (6 + n2))) (by omega) (xc_person (i := 0) (p := n2) (by omega) (by omega))) rfl 6 (by decide) (va_Nw.use rfl (nf_X11_161 hEv)) (fun _ hh => hh) rfl dX11_person_106 ?_
      obtain ⟨z15, ez15⟩ : ∃ y : Int32, st (36 + 20 * 0 + (6 + n2)) 6 = y := ⟨_, rfl⟩
      refine zz_top (v := z15) (by exact ez15) ?_
      refine vx_ret ?_
      refine W.widen (k := 1) (n := 6) (Nat.le_of_ble_eq_true rfl) (Nat.le_of_ble_eq_true rfl) ?_
      exact W.iret (v := z15) hx hb hr (fun t ht hW => ⟨⟨z15, (st, sl, so), rfl, rfl, xB.of ht hP⟩, hS.F ht⟩) hS.2.2 dX11_person_109
    by_cases cw16 : vb = 6
    · subst cw16
      refine lv_tableIn (tgt := 110) hx hb dX11_person_30 (by decide) (by decide) rfl (by decide) ?_
      refine lv_aload_n hx hb dX11_person_110 rfl (lv_at hl 0 rfl) ?_
      refine va_getN (host := "OffTheLead") (D := (dC, dI)) (ci := 7) (v := .int (st (36 + 20 * 0 + (6 + n2)) 7)) (C := RX6) (T := TX6) (N := 9) hx hb hts ii_X11_person_X6 hown hK hP (36 + 20 * 0 + (6 + n2)) (xw_is (r := (36 + 20 * 0 + (6 + n2))) (by omega) (xc_person (i := 0) (p := n2) (by omega) (by omega))) rfl 7 (by decide) (va_Nw.use rfl (nf_X11_164 hEv)) (fun _ hh => hh) rfl dX11_person_111 ?_
      obtain ⟨z17, ez17⟩ : ∃ y : Int32, st (36 + 20 * 0 + (6 + n2)) 7 = y := ⟨_, rfl⟩
      refine zz_top (v := z17) (by exact ez17) ?_
      refine vx_ret ?_
      refine W.widen (k := 1) (n := 6) (Nat.le_of_ble_eq_true rfl) (Nat.le_of_ble_eq_true rfl) ?_
      exact W.iret (v := z17) hx hb hr (fun t ht hW => ⟨⟨z17, (st, sl, so), rfl, rfl, xB.of ht hP⟩, hS.F ht⟩) hS.2.2 dX11_person_114
    by_cases cw18 : vb = 7
    · subst cw18
      refine lv_tableIn (tgt := 115) hx hb dX11_person_30 (by decide) (by decide) rfl (by decide) ?_
      refine lv_aload_n hx hb dX11_person_115 rfl (lv_at hl 0 rfl) ?_
      refine va_getN (host := "OffTheLead") (D := (dC, dI)) (ci := 7) (v := .int (st (36 + 20 * 0 + (6 + n2)) 8)) (C := RX6) (T := TX6) (N := 9) hx hb hts ii_X11_person_X6 hown hK hP (36 + 20 * 0 + (6 + n2)) (xw_is (r := (36 + 20 * 0 + (6 + n2))) (by omega) (xc_person (i := 0) (p := n2) (by omega) (by omega))) rfl 8 (by decide) (va_Nw.use rfl (nf_X11_167 hEv)) (fun _ hh => hh) rfl dX11_person_116 ?_
      obtain ⟨z19, ez19⟩ : ∃ y : Int32, st (36 + 20 * 0 + (6 + n2)) 8 = y := ⟨_, rfl⟩
      refine zz_top (v := z19) (by exact ez19) ?_
      refine vx_ret ?_
      refine W.widen (k := 1) (n := 6) (Nat.le_of_ble_eq_true rfl) (Nat.le_of_ble_eq_true rfl) ?_
      exact W.iret (v := z19) hx hb hr (fun t ht hW => ⟨⟨z19, (st, sl, so), rfl, rfl, xB.of ht hP⟩, hS.F ht⟩) hS.2.2 dX11_person_119
    by_cases cw20 : vb = 8
    · subst cw20
      refine lv_tableIn (tgt := 120) hx hb dX11_person_30 (by decide) (by decide) rfl (by decide) ?_
      refine lv_aload_n hx hb dX11_person_120 rfl (lv_at hl 1 rfl) ?_
      refine va_get (D := (dC, dI)) (ci := 10) (v := .ref (A (36 + 20 * 0))) (C := RX11) (T := TX11) (N := 19) hx hb hts ii_X11_person_X11 hown hK hP 0 (xw_is (r := 0) (by omega) (xc_fix (r := 0) (by omega))) rfl 1 (by decide) (hts _ mm_X11_person_3) (fun _ hh => hh) rfl dX11_person_121 ?_
      refine lv_iload_n hx hb dX11_person_124 rfl (lv_at hl 2 rfl) ?_
      refine lv_aload_n hx hb dX11_person_125 rfl (lv_at hl 0 rfl) ?_
      refine va_getN (host := "OffTheLead") (D := (dC, dI)) (ci := 7) (v := .int (st (36 + 20 * 0 + (6 + n2)) 1)) (C := RX6) (T := TX6) (N := 9) hx hb hts ii_X11_person_X6 hown hK hP (36 + 20 * 0 + (6 + n2)) (xw_is (r := (36 + 20 * 0 + (6 + n2))) (by omega) (xc_person (i := 0) (p := n2) (by omega) (by omega))) rfl 1 (by decide) (va_Nw.use rfl (nf_X11_144 hEv)) (fun _ hh => hh) rfl dX11_person_126 ?_
      obtain ⟨n21, hn21, en21⟩ := hG.1.at (r := (36 + 20 * 0 + (6 + n2))) (k := 1) (b := 5) ((xrg_pe (i := 0) (p := n2) (by omega)).trans (by decide)) (by decide)
      refine zz_top (v := nI n21) (by exact en21) ?_
      refine va_calli (va_runV (As := [.int (nI n2), .int (nI n21)]) (rest := []) ⟨hx, hb, hml, hown, hts⟩ (x_X4_goodOf l dC dI ad E hEE A C nb _ hN st sl so 0 n2 n21 (by omega) (by omega) (by omega) hG.1) (cwV 2 hts gX11_person_X4_goodOf rfl rfl rfl (by decide +kernel) ⟨Nat.le_of_ble_eq_true rfl, Nat.le_of_ble_eq_true rfl⟩) ⟨fun a U g mk q => ⟨q.1, xPre.blind hEE q.2⟩, va_recv hK hP (ci := 5) (q0 := (36 + 20 * 0)) rfl (xw_is (r := (36 + 20 * 0)) (by omega) (xc_pk (i := 0) (o := 0) (by omega) (by omega))), fun U hU hW => ⟨rfl, xPre.of hEE hP hK hE hS hU hW⟩⟩ rfl rfl hl.1 rfl (lv_room (Nat.le_of_ble_eq_true rfl)) dX11_person_129 ⟨Nat.le_of_ble_eq_true rfl, Nat.le_of_ble_eq_true rfl⟩) hS (fun q _ h => XA.le hS.1 q h) (XA.le hS.1) (fun r22 x t H locs ht hvm hw hB _ _ hS => ?_)
      have hP := xB.at ht hB
      clear hB ht hvm
      obtain ⟨rfl, hw⟩ := hw
      have hP : va_P (dC, dI) vwCl (xw A C nb st sl so) _ := hP
      clear hw
      refine vx_ret ?_
      refine W.widen (k := 1) (n := 6) (Nat.le_of_ble_eq_true rfl) (Nat.le_of_ble_eq_true rfl) ?_
      exact W.iret (v := r22) hx hb hr (fun t ht hW => ⟨⟨r22, (st, sl, so), rfl, rfl, xB.of ht hP⟩, hS.F ht⟩) hS.2.2 dX11_person_132
    refine lv_tableOut (tgt := 133) hx hb dX11_person_30 (by clear hP hK hS hG hx hb hr hts hown; simp only [Int32.lt_iff_toInt_lt, ← Int32.toInt_inj, Int32.reduceToInt] at cw4 cw6 cw8 cw10 cw12 cw14 cw16 cw18 cw20 ⊢; omega) (by decide) ?_
    exact vx_throw0 (own := RX11) (cls := "java/util/NoSuchElementException") (names := ["java/lang/RuntimeException", "java/lang/Exception"]) (ik := 137) (ic := 139) (A := XA A s.heap.size) hx hb hst hown (by decide) (by decide) (hts _ mm_X11_person_1) (hts _ mm_X11_person_2) (vx_hat (fun w hw => hts w (vg_X11_person w hw)) vx_bad (vx_c (va_Nw.use rfl hEX.1.1) (vx_c (va_Nw.use rfl hEX.1.2.1) (vx_c (va_Nw.use rfl hEX.1.2.2.1) (vx_c (va_Nw.use rfl hEX.1.2.2.2) vx_n))))) vx_allot hEX.2.1 hEX.2.2 hS (by rw [hml]; exact hl.1) dX11_person_133 dX11_person_136 dX11_person_137 dX11_person_140 (fun x hx => (htab x hx).elim) (Nat.le_of_ble_eq_true rfl) (Nat.le_of_ble_eq_true rfl) (Nat.le_of_ble_eq_true rfl) (Nat.le_of_ble_eq_true rfl) hlocks (fun t hvm hz hk => ⟨(), trivial, ⟨rfl, hP.kept (fun k9 q9 h9 => hk q9.1 ((hP k9 q9 h9).lt))⟩, Nat.le_trans hS.1 hz, fun q hq hn => (hk q (Nat.lt_of_lt_of_le hq hS.1)).trans (hS.2.1 q hq hn)⟩) hS.2.2 (Nat.le_of_ble_eq_true rfl) (Nat.le_of_ble_eq_true rfl)
  · refine lv_if_ne (tgt := 19) hx hb dX11_person_8 (by decide) (fun cc => absurd (by decide) cc) (fun _ => ?_)
    exact vx_throw0 (own := RX11) (cls := "java/util/NoSuchElementException") (names := ["java/lang/RuntimeException", "java/lang/Exception"]) (ik := 137) (ic := 139) (A := XA A s.heap.size) hx hb hst hown (by decide) (by decide) (hts _ mm_X11_person_1) (hts _ mm_X11_person_2) (vx_hat (fun w hw => hts w (vg_X11_person w hw)) vx_bad (vx_c (va_Nw.use rfl hEX.1.1) (vx_c (va_Nw.use rfl hEX.1.2.1) (vx_c (va_Nw.use rfl hEX.1.2.2.1) (vx_c (va_Nw.use rfl hEX.1.2.2.2) vx_n))))) vx_allot hEX.2.1 hEX.2.2 hS (by rw [hml]; exact hl.1) dX11_person_11 dX11_person_14 dX11_person_15 dX11_person_18 (fun x hx => (htab x hx).elim) (Nat.le_of_ble_eq_true rfl) (Nat.le_of_ble_eq_true rfl) (Nat.le_of_ble_eq_true rfl) (Nat.le_of_ble_eq_true rfl) hlocks (fun t hvm hz hk => ⟨(), trivial, ⟨rfl, hP.kept (fun k9 q9 h9 => hk q9.1 ((hP k9 q9 h9).lt))⟩, Nat.le_trans hS.1 hz, fun q hq hn => (hk q (Nat.lt_of_lt_of_le hq hS.1)).trans (hS.2.1 q hq hn)⟩) hS.2.2 (Nat.le_of_ble_eq_true rfl) (Nat.le_of_ble_eq_true rfl)
set_option maxHeartbeats 4000000 in
set_option maxRecDepth 100000 in
theorem l_L_person (l : Launch) (hst : l.stackTraces = false) (dC : Nat → ClassId) (dI : Nat → Nat → Nat) (ad : Nat → Nat) (E : EP) (hEE : EC ad E) (hEE2 : ∀ A U H, E A U H → EX A U H) (A : Nat → Nat) (C : Nat → ClassId) (nb sz : Nat) (hN : XN A) (st : Nat → Nat → Int32) (sl : Nat → Nat → Int64) (so : Nat → XR) (o : Nat) (yo : ClassId) (g : Nat → Int64) (va vb : Int32) (hI : XI st) (ho : ∀ k, k < 296 → A k ≠ o) : Met l yL_person wsL_person ({ frames := 7, cells := 1, slots := 6, locals := 110 }) (va_Pc [.ref (A 0), .int va, .int vb, .ref o] (lPre E dC dI A C nb sz st sl so o yo g)) (va_Qi (fun (_ : Int32) (_ : Nat → Int64) => True) (fun (g2 : Nat → Int64) (t : State) => xB dC dI A C nb (st, sl, so) t ∧ va_P (dC, dI) vwCl [(o, .inl (yo, 1, .inr (.inl g2)))] t.heap) (lA A o sz)) 1 6 (lA A o sz) := by
  refine va_MetW (cc := cL_person) (maxL := 5) (ret := some .int) (hh := [(0, 10, 13, 13)]) (by decide) rfl ?_
  intro p e s m args below meth c s₁ B hml hv
  obtain ⟨rfl, hsz, hP, hPo, hK, hKo, hE⟩ := hv
  have hx := B.exec
  have hb := B.bytes
  have hr := B.returns
  have hts := atoms_spec (ws := wsL_person) B.pre
  have hown : s.vm.findClass RL = some m.cls := findClass_of_methodNamed B.named
  have hlocks := B.notSynchronized
  have htab := vx_table (x := yL_person) B (hts _ List.mem_cons_self)
  subst hsz
  have hEX := hEE2 _ _ _ hE
  have hS : va_S (lA A o s.heap.size) s.heap s.heap [] := va_S.rf
  have hl := lv_entry ([.ref (A 0), .int va, .int vb, .ref o]) (n := 5) (Nat.le_of_ble_eq_true rfl)
  rw [lg_entry_eq]
  generalize (lg_sl ([.ref (A 0), .int va, .int vb, .ref o]) ++ List.replicate (5 - (lg_sl ([.ref (A 0), .int va, .int vb, .ref o])).length) Slot.unset).toArray = ls at hl ⊢
  have hl : lv_has ls 5 [(0, .ref (A 0)), (1, .int va), (2, .int vb), (3, .ref o)] := hl
  refine lv_aload_n hx hb dL_person_0 rfl (lv_at hl 3 rfl) ?_
  refine lv_iconst (v := 0) hx hb dL_person_1 (by decide) ?_
  refine lv_aload_n hx hb dL_person_2 rfl (lv_at hl 0 rfl) ?_
  refine lv_iload_n hx hb dL_person_3 rfl (lv_at hl 1 rfl) ?_
  refine lv_iload_n hx hb dL_person_4 rfl (lv_at hl 2 rfl) ?_
  have hol : o < s.heap.size := (hPo 0 _ rfl).lt
  refine vx_calli (vx_runV (As := [.int va, .int vb]) (rest := [.int 0, .ref o]) ⟨hx, hb, hml, hown, hts⟩ (e_X11_person l hst dC dI ad E hEE hEE2 A C nb s.heap.size hN st sl so va vb hI) (cwV 2 hts gL_person_X11_person rfl rfl rfl (by decide +kernel) ⟨Nat.le_of_ble_eq_true rfl, Nat.le_of_ble_eq_true rfl⟩) ⟨fun a U g mk q => ⟨q.1, xPre.blind hEE q.2⟩, va_recv hK hP (ci := 10) (q0 := 0) rfl (xw_is (r := 0) (by omega) (xc_fix (r := 0) (by omega))), fun U hU hW => ⟨rfl, xPre.ofg hEE hP hK hE hS (fun q h => Or.inl h) hU hW⟩⟩ rfl rfl hl.1 rfl (lv_room (Nat.le_of_ble_eq_true rfl)) dL_person_5 ⟨Nat.le_of_ble_eq_true rfl, Nat.le_of_ble_eq_true rfl⟩) hS (fun q _ h => Or.inl h) (fun q h => Or.inl h) (fun q _ h => Or.inl h) (fun E9 ce q9 u t H1 locs ht hvm hpx hBX hz1 hk1 hS hq9 hce hcl => ?_) (fun r u t H1 locs ht hvm hw hB hz1 hk1 hS => ?_)
  · obtain ⟨rfl, hBX⟩ := hBX
    have hPo : va_P (dC, dI) vwCl [(o, .inl (yo, 1, .inr (.inl g)))] H1 := hPo.kept (lkept ho hol hk1)
    have hP := xB.at ht hBX
    refine vx_catch (own := RL) (name := "java/util/NoSuchElementException") hown [] (⟨0, 10, 13, 13⟩ : ExceptionTableEntry) [] (htab.trans rfl) (fun z hz => nomatch hz) (by decide) (by decide) (hts _ mm_L_person_1) (va_Nw.use rfl hEX.1.2.2.2) hq9 hce hcl ?_
    refine lv_astore (lv' := [(4, .ref q9), (0, .ref (A 0)), (1, .int va), (2, .int vb), (3, .ref o)]) hx hb dL_person_13 hl (by decide) rfl (fun ls hl => ?_)
    refine lv_iconst (v := 1) hx hb dL_person_15 (by decide) ?_
    exact W.iret (v := 1) hx hb hr (fun t ht hW => ⟨⟨1, g, rfl, trivial, xB.of ht hP, by rw [ht]; exact hPo⟩, hS.F ht⟩) hS.2.2 dL_person_16
  · subst hw
    have hPo : va_P (dC, dI) vwCl [(o, .inl (yo, 1, .inr (.inl g)))] H1 := hPo.kept (lkept ho hol hk1)
    have hP := xB.at ht hB
    refine lv_i2l hx hb dL_person_8 rfl ?_
    refine va_last hx hb (hK.app hKo) (hP.app hPo) (lDx hN ho _ _ _ _ _ _ _) hS 296 296 (lcat_at xw_len) (lcat_at xt_len) (i := 0) (zz_in (by decide)) dL_person_9 (fun H2 locs hP2 _ hS => ?_)
    rw [lcat_set xw_len] at hP2
    have hP := lcat_l hP2
    have hPo := lcat_r xw_len hP2
    refine lv_goto (tgt := 17) hx hb dL_person_10 (by decide) ?_
    refine lv_iconst (v := 0) hx hb dL_person_17 (by decide) ?_
    exact W.iret (v := 0) hx hb hr (fun t ht hW => ⟨⟨0, _, rfl, trivial, xB.of ht hP, by rw [ht]; exact hPo⟩, hS.F ht⟩) hS.2.2 dL_person_18
set_option maxHeartbeats 4000000 in
set_option maxRecDepth 100000 in
theorem e_X11_dog (l : Launch) (hst : l.stackTraces = false) (dC : Nat → ClassId) (dI : Nat → Nat → Nat) (ad : Nat → Nat) (E : EP) (hEE : EC ad E) (hEE2 : ∀ A U H, E A U H → EX A U H) (A : Nat → Nat) (C : Nat → ClassId) (nb sz : Nat) (hN : XN A) (st : Nat → Nat → Int32) (sl : Nat → Nat → Int64) (so : Nat → XR) (va vb : Int32) (hI : XI st) : vx_Met l yX11_dog wsX11_dog ({ frames := 6, cells := 1, slots := 6, locals := 81 }) (va_Pc [.ref (A 0), .int va, .int vb] (xPre E dC dI A C nb sz st sl so)) (va_Qi (fun (_ : Int32) (x : XT) => x = (st, sl, so)) (xB dC dI A C nb) (XA A sz)) (vx_X (fun _ : Unit => True) (fun (E9 : String) (_ : Unit) (t : State) => E9 = "java/util/NoSuchElementException" ∧ xB dC dI A C nb (st, sl, so) t) (XA A sz)) 1 6 (XA A sz) := by
  refine vx_ofW (cc := cX11_dog) (maxL := 4) (ret := (some .int)) (by decide) rfl ?_
  intro p e s m args below meth c s₁ B hml htab hv
  obtain ⟨rfl, hsz, hP, hK, hE⟩ := hv
  have hx := B.exec
  have hb := B.bytes
  have hr := B.returns
  have hts := atoms_spec (ws := wsX11_dog) B.pre
  have hown : s.vm.findClass RX11 = some m.cls := findClass_of_methodNamed B.named
  have hlocks := B.notSynchronized
  subst hsz
  have hEv := hEE.1 _ _ _ hE
  have hEX := hEE2 _ _ _ hE
  have hS : va_S (XA A s.heap.size) s.heap s.heap [] := va_S.rf
  have hG : XG [1, 2, 3, 4, 5, 6, 7, 8, 9, 10, 11, 12, 13, 14, 15] st st := XG.rf hI
  have hl := lv_entry ([.ref (A 0), .int va, .int vb]) (n := 4) (Nat.le_of_ble_eq_true rfl)
  rw [lg_entry_eq]
  generalize (lg_sl ([.ref (A 0), .int va, .int vb]) ++ List.replicate (4 - (lg_sl ([.ref (A 0), .int va, .int vb])).length) Slot.unset).toArray = ls at hl ⊢
  have hl : lv_has ls 4 [(0, .ref (A 0)), (1, .int va), (2, .int vb)] := hl
  refine lv_aload_n hx hb dX11_dog_0 rfl (lv_at hl 0 rfl) ?_
  refine va_get (D := (dC, dI)) (ci := 10) (v := .ref (A (36 + 20 * 0))) (C := RX11) (T := TX11) (N := 19) hx hb hts ii_X11_dog_X11 hown hK hP 0 (xw_is (r := 0) (by omega) (xc_fix (r := 0) (by omega))) rfl 1 (by decide) (hts _ mm_X11_dog_3) (fun _ hh => hh) rfl dX11_dog_1 ?_
  refine lv_iload_n hx hb dX11_dog_4 rfl (lv_at hl 1 rfl) ?_
  refine va_calli (va_runV (As := [.int va]) (rest := []) ⟨hx, hb, hml, hown, hts⟩ (x_X4_hasDog l dC dI ad E hEE A C nb _ hN st sl so 0 va (by omega) hG.1) (cwV 1 hts gX11_dog_X4_hasDog rfl rfl rfl (by decide +kernel) ⟨Nat.le_of_ble_eq_true rfl, Nat.le_of_ble_eq_true rfl⟩) ⟨fun a U g mk q => ⟨q.1, xPre.blind hEE q.2⟩, va_recv hK hP (ci := 5) (q0 := (36 + 20 * 0)) rfl (xw_is (r := (36 + 20 * 0)) (by omega) (xc_pk (i := 0) (o := 0) (by omega) (by omega))), fun U hU hW => ⟨rfl, xPre.of hEE hP hK hE hS hU hW⟩⟩ rfl rfl hl.1 rfl (lv_room (Nat.le_of_ble_eq_true rfl)) dX11_dog_5 ⟨Nat.le_of_ble_eq_true rfl, Nat.le_of_ble_eq_true rfl⟩) hS (fun q _ h => XA.le hS.1 q h) (XA.le hS.1) (fun r1 x t H locs ht hvm hw hB _ _ hS => ?_)
  have hP := xB.at ht hB
  clear hB ht hvm
  obtain ⟨rfl, hw⟩ := hw
  have hP : va_P (dC, dI) vwCl (xw A C nb st sl so) _ := hP
  rcases hw with ⟨n2, rfl, hf3, rfl⟩ | rfl
  · refine lv_if_ne (tgt := 19) hx hb dX11_dog_8 (by decide) (fun _ => ?_) (fun cc => absurd cc (by decide))
    refine lv_aload_n hx hb dX11_dog_19 rfl (lv_at hl 0 rfl) ?_
    refine va_get (D := (dC, dI)) (ci := 10) (v := .ref (A (36 + 20 * 0))) (C := RX11) (T := TX11) (N := 19) hx hb hts ii_X11_dog_X11 hown hK hP 0 (xw_is (r := 0) (by omega) (xc_fix (r := 0) (by omega))) rfl 1 (by decide) (hts _ mm_X11_dog_3) (fun _ hh => hh) rfl dX11_dog_20 ?_
    refine va_getN (host := "OffTheLead") (D := (dC, dI)) (ci := 5) (v := .ref (A (36 + 20 * 0 + 5))) (C := RX4) (T := TX4) (N := 12) hx hb hts ii_X11_dog_X4 hown hK hP (36 + 20 * 0) (xw_is (r := (36 + 20 * 0)) (by omega) (xc_pk (i := 0) (o := 0) (by omega) (by omega))) rfl 4 (by decide) (va_Nw.use rfl (nf_X11_177 hEv)) (fun _ hh => hh) rfl dX11_dog_23 ?_
    refine lv_iload_n hx hb dX11_dog_26 rfl (lv_at hl 1 rfl) ?_
    refine va_aldq hx hb hK hP (36 + 20 * 0 + 5) (36 + 20 * 0 + 5) (xw_is (r := (36 + 20 * 0 + 5)) (by omega) (xc_pk (i := 0) (o := 5) (by omega) (by omega))) (xt_is (r := (36 + 20 * 0 + 5)) (by omega) ((xty_pk (i := 0) (o := 5) (by omega)).trans rfl)) (i := (nI n2)) (vp_in_nI (by omega) (by decide)) dX11_dog_27 ?_
    refine zz_topq (r := some (A (36 + 20 * 0 + (14 + n2)))) (by rw [nI_clamp (by omega)]; exact congrArg some (congrArg A (by omega))) ?_
    refine lv_astore_n (lv' := [(3, .ref (A (36 + 20 * 0 + (14 + n2)))), (0, .ref (A 0)), (1, .int (nI n2)), (2, .int vb)]) hx hb dX11_dog_28 rfl hl (by decide) rfl (fun ls hl => ?_)
    refine lv_iload_n hx hb dX11_dog_29 rfl (lv_at hl 3 rfl) ?_
    by_cases cw4 : vb = 0
    · subst cw4
      refine lv_tableIn (tgt := 68) hx hb dX11_dog_30 (by decide) (by decide) rfl (by decide) ?_
      refine lv_aload_n hx hb dX11_dog_68 rfl (lv_at hl 0 rfl) ?_
      refine va_getN (host := "OffTheLead") (D := (dC, dI)) (ci := 3) (v := .int (st (36 + 20 * 0 + (14 + n2)) 1)) (C := RX2) (T := TX2) (N := 7) hx hb hts ii_X11_dog_X2 hown hK hP (36 + 20 * 0 + (14 + n2)) (xw_is (r := (36 + 20 * 0 + (14 + n2))) (by omega) (xc_dog (i := 0) (p := n2) (by omega) (by omega))) rfl 1 (by decide) (va_Nw.use rfl (nf_X11_180 hEv)) (fun _ hh => hh) rfl dX11_dog_69 ?_
      obtain ⟨n5, hn5, en5⟩ := hG.1.at (r := (36 + 20 * 0 + (14 + n2))) (k := 1) (b := 8) ((xrg_do (i := 0) (p := n2) (by omega)).trans (by decide)) (by decide)
      refine zz_top (v := nI n5) (by exact en5) ?_
      refine vx_ret ?_
      refine W.widen (k := 1) (n := 6) (Nat.le_of_ble_eq_true rfl) (Nat.le_of_ble_eq_true rfl) ?_
      exact W.iret (v := (nI n5)) hx hb hr (fun t ht hW => ⟨⟨(nI n5), (st, sl, so), rfl, rfl, xB.of ht hP⟩, hS.F ht⟩) hS.2.2 dX11_dog_72
    by_cases cw6 : vb = 1
    · subst cw6
      refine lv_tableIn (tgt := 73) hx hb dX11_dog_30 (by decide) (by decide) rfl (by decide) ?_
      refine lv_aload_n hx hb dX11_dog_73 rfl (lv_at hl 0 rfl) ?_
      refine va_getN (host := "OffTheLead") (D := (dC, dI)) (ci := 3) (v := .int (st (36 + 20 * 0 + (14 + n2)) 2)) (C := RX2) (T := TX2) (N := 7) hx hb hts ii_X11_dog_X2 hown hK hP (36 + 20 * 0 + (14 + n2)) (xw_is (r := (36 + 20 * 0 + (14 + n2))) (by omega) (xc_dog (i := 0) (p := n2) (by omega) (by omega))) rfl 2 (by decide) (va_Nw.use rfl (nf_X11_185 hEv)) (fun _ hh => hh) rfl dX11_dog_74 ?_
      obtain ⟨z7, ez7⟩ : ∃ y : Int32, st (36 + 20 * 0 + (14 + n2)) 2 = y := ⟨_, rfl⟩
      refine zz_top (v := z7) (by exact ez7) ?_
      refine vx_ret ?_
      refine W.widen (k := 1) (n := 6) (Nat.le_of_ble_eq_true rfl) (Nat.le_of_ble_eq_true rfl) ?_
      exact W.iret (v := z7) hx hb hr (fun t ht hW => ⟨⟨z7, (st, sl, so), rfl, rfl, xB.of ht hP⟩, hS.F ht⟩) hS.2.2 dX11_dog_77
    by_cases cw8 : vb = 2
    · subst cw8
      refine lv_tableIn (tgt := 78) hx hb dX11_dog_30 (by decide) (by decide) rfl (by decide) ?_
      refine lv_aload_n hx hb dX11_dog_78 rfl (lv_at hl 0 rfl) ?_
      refine va_getN (host := "OffTheLead") (D := (dC, dI)) (ci := 3) (v := .int (st (36 + 20 * 0 + (14 + n2)) 3)) (C := RX2) (T := TX2) (N := 7) hx hb hts ii_X11_dog_X2 hown hK hP (36 + 20 * 0 + (14 + n2)) (xw_is (r := (36 + 20 * 0 + (14 + n2))) (by omega) (xc_dog (i := 0) (p := n2) (by omega) (by omega))) rfl 3 (by decide) (va_Nw.use rfl (nf_X11_188 hEv)) (fun _ hh => hh) rfl dX11_dog_79 ?_
      obtain ⟨z9, ez9⟩ : ∃ y : Int32, st (36 + 20 * 0 + (14 + n2)) 3 = y := ⟨_, rfl⟩
      refine zz_top (v := z9) (by exact ez9) ?_
      refine vx_ret ?_
      refine W.widen (k := 1) (n := 6) (Nat.le_of_ble_eq_true rfl) (Nat.le_of_ble_eq_true rfl) ?_
      exact W.iret (v := z9) hx hb hr (fun t ht hW => ⟨⟨z9, (st, sl, so), rfl, rfl, xB.of ht hP⟩, hS.F ht⟩) hS.2.2 dX11_dog_82
    by_cases cw10 : vb = 3
    · subst cw10
      refine lv_tableIn (tgt := 83) hx hb dX11_dog_30 (by decide) (by decide) rfl (by decide) ?_
      refine lv_aload_n hx hb dX11_dog_83 rfl (lv_at hl 0 rfl) ?_
      refine va_getN (host := "OffTheLead") (D := (dC, dI)) (ci := 3) (v := .int (st (36 + 20 * 0 + (14 + n2)) 4)) (C := RX2) (T := TX2) (N := 7) hx hb hts ii_X11_dog_X2 hown hK hP (36 + 20 * 0 + (14 + n2)) (xw_is (r := (36 + 20 * 0 + (14 + n2))) (by omega) (xc_dog (i := 0) (p := n2) (by omega) (by omega))) rfl 4 (by decide) (va_Nw.use rfl (nf_X11_189 hEv)) (fun _ hh => hh) rfl dX11_dog_84 ?_
      obtain ⟨n11, hn11, en11⟩ := hG.1.at (r := (36 + 20 * 0 + (14 + n2))) (k := 4) (b := 2) ((xrg_do (i := 0) (p := n2) (by omega)).trans (by decide)) (by decide)
      refine zz_top (v := nI n11) (by exact en11) ?_
      refine lv_if_eq (tgt := 94) hx hb dX11_dog_87 (by decide) (fun c2 => ?_) (fun c2 => ?_)
      · have c2 : n11 = 0 := (nI_eq (a := n11) (b := 0) (by omega) (by omega)).mp c2
        refine lv_iconst (v := 0) hx hb dX11_dog_94 (by decide) ?_
        refine vx_ret ?_
        refine W.widen (k := 1) (n := 6) (Nat.le_of_ble_eq_true rfl) (Nat.le_of_ble_eq_true rfl) ?_
        exact W.iret (v := 0) hx hb hr (fun t ht hW => ⟨⟨0, (st, sl, so), rfl, rfl, xB.of ht hP⟩, hS.F ht⟩) hS.2.2 dX11_dog_95
      · have c2 : ¬ n11 = 0 := fun hh => c2 ((nI_eq (a := n11) (b := 0) (by omega) (by omega)).mpr hh)
        refine lv_iconst (v := 1) hx hb dX11_dog_90 (by decide) ?_
        refine lv_goto (tgt := 95) hx hb dX11_dog_91 (by decide) ?_
        refine vx_ret ?_
        refine W.widen (k := 1) (n := 6) (Nat.le_of_ble_eq_true rfl) (Nat.le_of_ble_eq_true rfl) ?_
        exact W.iret (v := 1) hx hb hr (fun t ht hW => ⟨⟨1, (st, sl, so), rfl, rfl, xB.of ht hP⟩, hS.F ht⟩) hS.2.2 dX11_dog_95
    by_cases cw12 : vb = 4
    · subst cw12
      refine lv_tableIn (tgt := 96) hx hb dX11_dog_30 (by decide) (by decide) rfl (by decide) ?_
      refine lv_aload_n hx hb dX11_dog_96 rfl (lv_at hl 0 rfl) ?_
      refine va_getN (host := "OffTheLead") (D := (dC, dI)) (ci := 3) (v := .int (st (36 + 20 * 0 + (14 + n2)) 5)) (C := RX2) (T := TX2) (N := 7) hx hb hts ii_X11_dog_X2 hown hK hP (36 + 20 * 0 + (14 + n2)) (xw_is (r := (36 + 20 * 0 + (14 + n2))) (by omega) (xc_dog (i := 0) (p := n2) (by omega) (by omega))) rfl 5 (by decide) (va_Nw.use rfl (nf_X11_193 hEv)) (fun _ hh => hh) rfl dX11_dog_97 ?_
      obtain ⟨z13, ez13⟩ : ∃ y : Int32, st (36 + 20 * 0 + (14 + n2)) 5 = y := ⟨_, rfl⟩
      refine zz_top (v := z13) (by exact ez13) ?_
      refine vx_ret ?_
      refine W.widen (k := 1) (n := 6) (Nat.le_of_ble_eq_true rfl) (Nat.le_of_ble_eq_true rfl) ?_
      exact W.iret (v := z13) hx hb hr (fun t ht hW => ⟨⟨z13, (st, sl, so), rfl, rfl, xB.of ht hP⟩, hS.F ht⟩) hS.2.2 dX11_dog_100
    by_cases cw14 : vb = 5
    · subst cw14
      refine lv_tableIn (tgt := 101) hx hb dX11_dog_30 (by decide) (by decide) rfl (by decide) ?_
      refine lv_aload_n hx hb dX11_dog_101 rfl (lv_at hl 0 rfl) ?_
      refine va_getN (host := "OffTheLead") (D := (dC, dI)) (ci := 3) (v := .int (st (36 + 20 * 0 + (14 + n2)) 6)) (C := RX2) (T := TX2) (N := 7) hx hb hts ii_X11_dog_X2 hown hK hP (36 + 20 * 0 + (14 + n2)) (xw_is (r := (36 + 20 * 0 + (14 + n2))) (by omega) (xc_dog (i := 0) (p := n2) (by omega) (by omega))) rfl 6 (by decide) (va_Nw.use rfl (nf_X11_196 hEv)) (fun _ hh => hh) rfl dX11_dog_102 ?_
      obtain ⟨z15, ez15⟩ : ∃ y : Int32, st (36 + 20 * 0 + (14 + n2)) 6 = y := ⟨_, rfl⟩
      refine zz_top (v := z15) (by exact ez15) ?_
      refine vx_ret ?_
      refine W.widen (k := 1) (n := 6) (Nat.le_of_ble_eq_true rfl) (Nat.le_of_ble_eq_true rfl) ?_
      exact W.iret (v := z15) hx hb hr (fun t ht hW => ⟨⟨z15, (st, sl, so), rfl, rfl, xB.of ht hP⟩, hS.F ht⟩) hS.2.2 dX11_dog_105
    refine lv_tableOut (tgt := 106) hx hb dX11_dog_30 (by clear hP hK hS hG hx hb hr hts hown; simp only [Int32.lt_iff_toInt_lt, ← Int32.toInt_inj, Int32.reduceToInt] at cw4 cw6 cw8 cw10 cw12 cw14 ⊢; omega) (by decide) ?_
    exact vx_throw0 (own := RX11) (cls := "java/util/NoSuchElementException") (names := ["java/lang/RuntimeException", "java/lang/Exception"]) (ik := 137) (ic := 139) (A := XA A s.heap.size) hx hb hst hown (by decide) (by decide) (hts _ mm_X11_dog_1) (hts _ mm_X11_dog_2) (vx_hat (fun w hw => hts w (vg_X11_dog w hw)) vx_bad (vx_c (va_Nw.use rfl hEX.1.1) (vx_c (va_Nw.use rfl hEX.1.2.1) (vx_c (va_Nw.use rfl hEX.1.2.2.1) (vx_c (va_Nw.use rfl hEX.1.2.2.2) vx_n))))) vx_allot hEX.2.1 hEX.2.2 hS (by rw [hml]; exact hl.1) dX11_dog_106 dX11_dog_109 dX11_dog_110 dX11_dog_113 (fun x hx => (htab x hx).elim) (Nat.le_of_ble_eq_true rfl) (Nat.le_of_ble_eq_true rfl) (Nat.le_of_ble_eq_true rfl) (Nat.le_of_ble_eq_true rfl) hlocks (fun t hvm hz hk => ⟨(), trivial, ⟨rfl, hP.kept (fun k9 q9 h9 => hk q9.1 ((hP k9 q9 h9).lt))⟩, Nat.le_trans hS.1 hz, fun q hq hn => (hk q (Nat.lt_of_lt_of_le hq hS.1)).trans (hS.2.1 q hq hn)⟩) hS.2.2 (Nat.le_of_ble_eq_true rfl) (Nat.le_of_ble_eq_true rfl)
  · refine lv_if_ne (tgt := 19) hx hb dX11_dog_8 (by decide) (fun cc => absurd (by decide) cc) (fun _ => ?_)
    exact vx_throw0 (own := RX11) (cls := "java/util/NoSuchElementException") (names := ["java/lang/RuntimeException", "java/lang/Exception"]) (ik := 137) (ic := 139) (A := XA A s.heap.size) hx hb hst hown (by decide) (by decide) (hts _ mm_X11_dog_1) (hts _ mm_X11_dog_2) (vx_hat (fun w hw => hts w (vg_X11_dog w hw)) vx_bad (vx_c (va_Nw.use rfl hEX.1.1) (vx_c (va_Nw.use rfl hEX.1.2.1) (vx_c (va_Nw.use rfl hEX.1.2.2.1) (vx_c (va_Nw.use rfl hEX.1.2.2.2) vx_n))))) vx_allot hEX.2.1 hEX.2.2 hS (by rw [hml]; exact hl.1) dX11_dog_11 dX11_dog_14 dX11_dog_15 dX11_dog_18 (fun x hx => (htab x hx).elim) (Nat.le_of_ble_eq_true rfl) (Nat.le_of_ble_eq_true rfl) (Nat.le_of_ble_eq_true rfl) (Nat.le_of_ble_eq_true rfl) hlocks (fun t hvm hz hk => ⟨(), trivial, ⟨rfl, hP.kept (fun k9 q9 h9 => hk q9.1 ((hP k9 q9 h9).lt))⟩, Nat.le_trans hS.1 hz, fun q hq hn => (hk q (Nat.lt_of_lt_of_le hq hS.1)).trans (hS.2.1 q hq hn)⟩) hS.2.2 (Nat.le_of_ble_eq_true rfl) (Nat.le_of_ble_eq_true rfl)
set_option maxHeartbeats 4000000 in
set_option maxRecDepth 100000 in
theorem l_L_dog (l : Launch) (hst : l.stackTraces = false) (dC : Nat → ClassId) (dI : Nat → Nat → Nat) (ad : Nat → Nat) (E : EP) (hEE : EC ad E) (hEE2 : ∀ A U H, E A U H → EX A U H) (A : Nat → Nat) (C : Nat → ClassId) (nb sz : Nat) (hN : XN A) (st : Nat → Nat → Int32) (sl : Nat → Nat → Int64) (so : Nat → XR) (o : Nat) (yo : ClassId) (g : Nat → Int64) (va vb : Int32) (hI : XI st) (ho : ∀ k, k < 296 → A k ≠ o) : Met l yL_dog wsL_dog ({ frames := 7, cells := 1, slots := 6, locals := 104 }) (va_Pc [.ref (A 0), .int va, .int vb, .ref o] (lPre E dC dI A C nb sz st sl so o yo g)) (va_Qi (fun (_ : Int32) (_ : Nat → Int64) => True) (fun (g2 : Nat → Int64) (t : State) => xB dC dI A C nb (st, sl, so) t ∧ va_P (dC, dI) vwCl [(o, .inl (yo, 1, .inr (.inl g2)))] t.heap) (lA A o sz)) 1 6 (lA A o sz) := by
  refine va_MetW (cc := cL_dog) (maxL := 5) (ret := some .int) (hh := [(0, 10, 13, 13)]) (by decide) rfl ?_
  intro p e s m args below meth c s₁ B hml hv
  obtain ⟨rfl, hsz, hP, hPo, hK, hKo, hE⟩ := hv
  have hx := B.exec
  have hb := B.bytes
  have hr := B.returns
  have hts := atoms_spec (ws := wsL_dog) B.pre
  have hown : s.vm.findClass RL = some m.cls := findClass_of_methodNamed B.named
  have hlocks := B.notSynchronized
  have htab := vx_table (x := yL_dog) B (hts _ List.mem_cons_self)
  subst hsz
  have hEX := hEE2 _ _ _ hE
  have hS : va_S (lA A o s.heap.size) s.heap s.heap [] := va_S.rf
  have hl := lv_entry ([.ref (A 0), .int va, .int vb, .ref o]) (n := 5) (Nat.le_of_ble_eq_true rfl)
  rw [lg_entry_eq]
  generalize (lg_sl ([.ref (A 0), .int va, .int vb, .ref o]) ++ List.replicate (5 - (lg_sl ([.ref (A 0), .int va, .int vb, .ref o])).length) Slot.unset).toArray = ls at hl ⊢
  have hl : lv_has ls 5 [(0, .ref (A 0)), (1, .int va), (2, .int vb), (3, .ref o)] := hl
  refine lv_aload_n hx hb dL_dog_0 rfl (lv_at hl 3 rfl) ?_
  refine lv_iconst (v := 0) hx hb dL_dog_1 (by decide) ?_
  refine lv_aload_n hx hb dL_dog_2 rfl (lv_at hl 0 rfl) ?_
  refine lv_iload_n hx hb dL_dog_3 rfl (lv_at hl 1 rfl) ?_
  refine lv_iload_n hx hb dL_dog_4 rfl (lv_at hl 2 rfl) ?_
  have hol : o < s.heap.size := (hPo 0 _ rfl).lt
  refine vx_calli (vx_runV (As := [.int va, .int vb]) (rest := [.int 0, .ref o]) ⟨hx, hb, hml, hown, hts⟩ (e_X11_dog l hst dC dI ad E hEE hEE2 A C nb s.heap.size hN st sl so va vb hI) (cwV 2 hts gL_dog_X11_dog rfl rfl rfl (by decide +kernel) ⟨Nat.le_of_ble_eq_true rfl, Nat.le_of_ble_eq_true rfl⟩) ⟨fun a U g mk q => ⟨q.1, xPre.blind hEE q.2⟩, va_recv hK hP (ci := 10) (q0 := 0) rfl (xw_is (r := 0) (by omega) (xc_fix (r := 0) (by omega))), fun U hU hW => ⟨rfl, xPre.ofg hEE hP hK hE hS (fun q h => Or.inl h) hU hW⟩⟩ rfl rfl hl.1 rfl (lv_room (Nat.le_of_ble_eq_true rfl)) dL_dog_5 ⟨Nat.le_of_ble_eq_true rfl, Nat.le_of_ble_eq_true rfl⟩) hS (fun q _ h => Or.inl h) (fun q h => Or.inl h) (fun q _ h => Or.inl h) (fun E9 ce q9 u t H1 locs ht hvm hpx hBX hz1 hk1 hS hq9 hce hcl => ?_) (fun r u t H1 locs ht hvm hw hB hz1 hk1 hS => ?_)
  · obtain ⟨rfl, hBX⟩ := hBX
    have hPo : va_P (dC, dI) vwCl [(o, .inl (yo, 1, .inr (.inl g)))] H1 := hPo.kept (lkept ho hol hk1)
    have hP := xB.at ht hBX
    refine vx_catch (own := RL) (name := "java/util/NoSuchElementException") hown [] (⟨0, 10, 13, 13⟩ : ExceptionTableEntry) [] (htab.trans rfl) (fun z hz => nomatch hz) (by decide) (by decide) (hts _ mm_L_dog_1) (va_Nw.use rfl hEX.1.2.2.2) hq9 hce hcl ?_
    refine lv_astore (lv' := [(4, .ref q9), (0, .ref (A 0)), (1, .int va), (2, .int vb), (3, .ref o)]) hx hb dL_dog_13 hl (by decide) rfl (fun ls hl => ?_)
    refine lv_iconst (v := 1) hx hb dL_dog_15 (by decide) ?_
    exact W.iret (v := 1) hx hb hr (fun t ht hW => ⟨⟨1, g, rfl, trivial, xB.of ht hP, by rw [ht]; exact hPo⟩, hS.F ht⟩) hS.2.2 dL_dog_16
  · subst hw
    have hPo : va_P (dC, dI) vwCl [(o, .inl (yo, 1, .inr (.inl g)))] H1 := hPo.kept (lkept ho hol hk1)
    have hP := xB.at ht hB
    refine lv_i2l hx hb dL_dog_8 rfl ?_
    refine va_last hx hb (hK.app hKo) (hP.app hPo) (lDx hN ho _ _ _ _ _ _ _) hS 296 296 (lcat_at xw_len) (lcat_at xt_len) (i := 0) (zz_in (by decide)) dL_dog_9 (fun H2 locs hP2 _ hS => ?_)
    rw [lcat_set xw_len] at hP2
    have hP := lcat_l hP2
    have hPo := lcat_r xw_len hP2
    refine lv_goto (tgt := 17) hx hb dL_dog_10 (by decide) ?_
    refine lv_iconst (v := 0) hx hb dL_dog_17 (by decide) ?_
    exact W.iret (v := 0) hx hb hr (fun t ht hW => ⟨⟨0, _, rfl, trivial, xB.of ht hP, by rw [ht]; exact hPo⟩, hS.F ht⟩) hS.2.2 dL_dog_18
set_option maxHeartbeats 4000000 in
set_option maxRecDepth 100000 in
theorem e_X11_risk (l : Launch) (hst : l.stackTraces = false) (dC : Nat → ClassId) (dI : Nat → Nat → Nat) (ad : Nat → Nat) (E : EP) (hEE : EC ad E) (hEE2 : ∀ A U H, E A U H → EX A U H) (A : Nat → Nat) (C : Nat → ClassId) (nb sz : Nat) (hN : XN A) (st : Nat → Nat → Int32) (sl : Nat → Nat → Int64) (so : Nat → XR) (va vb : Int32) (hI : XI st) : vx_Met l yX11_risk wsX11_risk ({ frames := 6, cells := 1, slots := 6, locals := 97 }) (va_Pc [.ref (A 0), .int va, .int vb] (xPre E dC dI A C nb sz st sl so)) (va_Ql (fun (_ : Int64) (x : XT) => x = (st, sl, so)) (xB dC dI A C nb) (XA A sz)) (vx_X (fun _ : Unit => True) (fun (E9 : String) (_ : Unit) (t : State) => E9 = "java/util/NoSuchElementException" ∧ xB dC dI A C nb (st, sl, so) t) (XA A sz)) 1 6 (XA A sz) := by
  refine vx_ofW (cc := cX11_risk) (maxL := 9) (ret := (some .long)) (by decide) rfl ?_
  intro p e s m args below meth c s₁ B hml htab hv
  obtain ⟨rfl, hsz, hP, hK, hE⟩ := hv
  have hx := B.exec
  have hb := B.bytes
  have hr := B.returns
  have hts := atoms_spec (ws := wsX11_risk) B.pre
  have hown : s.vm.findClass RX11 = some m.cls := findClass_of_methodNamed B.named
  have hlocks := B.notSynchronized
  subst hsz
  have hEv := hEE.1 _ _ _ hE
  have hEX := hEE2 _ _ _ hE
  have hS : va_S (XA A s.heap.size) s.heap s.heap [] := va_S.rf
  have hG : XG [1, 2, 3, 4, 5, 6, 7, 8, 9, 10, 11, 12, 13, 14, 15] st st := XG.rf hI
  have hl := lv_entry ([.ref (A 0), .int va, .int vb]) (n := 9) (Nat.le_of_ble_eq_true rfl)
  rw [lg_entry_eq]
  generalize (lg_sl ([.ref (A 0), .int va, .int vb]) ++ List.replicate (9 - (lg_sl ([.ref (A 0), .int va, .int vb])).length) Slot.unset).toArray = ls at hl ⊢
  have hl : lv_has ls 9 [(0, .ref (A 0)), (1, .int va), (2, .int vb)] := hl
  refine lv_aload_n hx hb dX11_risk_0 rfl (lv_at hl 0 rfl) ?_
  refine va_get (D := (dC, dI)) (ci := 10) (v := .ref (A (36 + 20 * 0))) (C := RX11) (T := TX11) (N := 19) hx hb hts ii_X11_risk_X11 hown hK hP 0 (xw_is (r := 0) (by omega) (xc_fix (r := 0) (by omega))) rfl 1 (by decide) (hts _ mm_X11_risk_3) (fun _ hh => hh) rfl dX11_risk_1 ?_
  refine lv_iload_n hx hb dX11_risk_4 rfl (lv_at hl 1 rfl) ?_
  refine va_calli (va_runV (As := [.int va]) (rest := []) ⟨hx, hb, hml, hown, hts⟩ (x_X4_hasPerson l dC dI ad E hEE A C nb _ hN st sl so 0 va (by omega) hG.1) (cwV 1 hts gX11_risk_X4_hasPerson rfl rfl rfl (by decide +kernel) ⟨Nat.le_of_ble_eq_true rfl, Nat.le_of_ble_eq_true rfl⟩) ⟨fun a U g mk q => ⟨q.1, xPre.blind hEE q.2⟩, va_recv hK hP (ci := 5) (q0 := (36 + 20 * 0)) rfl (xw_is (r := (36 + 20 * 0)) (by omega) (xc_pk (i := 0) (o := 0) (by omega) (by omega))), fun U hU hW => ⟨rfl, xPre.of hEE hP hK hE hS hU hW⟩⟩ rfl rfl hl.1 rfl (lv_room (Nat.le_of_ble_eq_true rfl)) dX11_risk_5 ⟨Nat.le_of_ble_eq_true rfl, Nat.le_of_ble_eq_true rfl⟩) hS (fun q _ h => XA.le hS.1 q h) (XA.le hS.1) (fun r1 x t H locs ht hvm hw hB _ _ hS => ?_)
  have hP := xB.at ht hB
  clear hB ht hvm
  obtain ⟨rfl, hw⟩ := hw
  have hP : va_P (dC, dI) vwCl (xw A C nb st sl so) _ := hP
  rcases hw with ⟨n2, rfl, hf3, rfl⟩ | rfl
  · refine lv_if_eq (tgt := 35) hx hb dX11_risk_8 (by decide) (fun cc => absurd cc (by decide)) (fun _ => ?_)
    refine lv_aload_n hx hb dX11_risk_11 rfl (lv_at hl 0 rfl) ?_
    refine va_get (D := (dC, dI)) (ci := 10) (v := .ref (A (36 + 20 * 0))) (C := RX11) (T := TX11) (N := 19) hx hb hts ii_X11_risk_X11 hown hK hP 0 (xw_is (r := 0) (by omega) (xc_fix (r := 0) (by omega))) rfl 1 (by decide) (hts _ mm_X11_risk_3) (fun _ hh => hh) rfl dX11_risk_12 ?_
    refine va_getN (host := "OffTheLead") (D := (dC, dI)) (ci := 5) (v := .ref (A (36 + 20 * 0 + 4))) (C := RX4) (T := TX4) (N := 12) hx hb hts ii_X11_risk_X4 hown hK hP (36 + 20 * 0) (xw_is (r := (36 + 20 * 0)) (by omega) (xc_pk (i := 0) (o := 0) (by omega) (by omega))) rfl 3 (by decide) (va_Nw.use rfl (nf_X11_140 hEv)) (fun _ hh => hh) rfl dX11_risk_15 ?_
    refine lv_iload_n hx hb dX11_risk_18 rfl (lv_at hl 1 rfl) ?_
    refine va_aldq hx hb hK hP (36 + 20 * 0 + 4) (36 + 20 * 0 + 4) (xw_is (r := (36 + 20 * 0 + 4)) (by omega) (xc_pk (i := 0) (o := 4) (by omega) (by omega))) (xt_is (r := (36 + 20 * 0 + 4)) (by omega) ((xty_pk (i := 0) (o := 4) (by omega)).trans rfl)) (i := (nI n2)) (vp_in_nI (by omega) (by decide)) dX11_risk_19 ?_
    refine zz_topq (r := some (A (36 + 20 * 0 + (6 + n2)))) (by rw [nI_clamp (by omega)]; exact congrArg some (congrArg A (by omega))) ?_
    refine va_getN (host := "OffTheLead") (D := (dC, dI)) (ci := 7) (v := .int (st (36 + 20 * 0 + (6 + n2)) 8)) (C := RX6) (T := TX6) (N := 9) hx hb hts ii_X11_risk_X6 hown hK hP (36 + 20 * 0 + (6 + n2)) (xw_is (r := (36 + 20 * 0 + (6 + n2))) (by omega) (xc_person (i := 0) (p := n2) (by omega) (by omega))) rfl 8 (by decide) (va_Nw.use rfl (nf_X11_167 hEv)) (fun _ hh => hh) rfl dX11_risk_20 ?_
    obtain ⟨z4, ez4⟩ : ∃ y : Int32, st (36 + 20 * 0 + (6 + n2)) 8 = y := ⟨_, rfl⟩
    refine zz_top (v := z4) (by exact ez4) ?_
    refine lv_if_ne (tgt := 35) hx hb dX11_risk_23 (by decide) (fun c2 => ?_) (fun c2 => ?_)
    · exact vx_throw0 (own := RX11) (cls := "java/util/NoSuchElementException") (names := ["java/lang/RuntimeException", "java/lang/Exception"]) (ik := 137) (ic := 139) (A := XA A s.heap.size) hx hb hst hown (by decide) (by decide) (hts _ mm_X11_risk_1) (hts _ mm_X11_risk_2) (vx_hat (fun w hw => hts w (vg_X11_risk w hw)) vx_bad (vx_c (va_Nw.use rfl hEX.1.1) (vx_c (va_Nw.use rfl hEX.1.2.1) (vx_c (va_Nw.use rfl hEX.1.2.2.1) (vx_c (va_Nw.use rfl hEX.1.2.2.2) vx_n))))) vx_allot hEX.2.1 hEX.2.2 hS (by rw [hml]; exact hl.1) dX11_risk_35 dX11_risk_38 dX11_risk_39 dX11_risk_42 (fun x hx => (htab x hx).elim) (Nat.le_of_ble_eq_true rfl) (Nat.le_of_ble_eq_true rfl) (Nat.le_of_ble_eq_true rfl) (Nat.le_of_ble_eq_true rfl) hlocks (fun t hvm hz hk => ⟨(), trivial, ⟨rfl, hP.kept (fun k9 q9 h9 => hk q9.1 ((hP k9 q9 h9).lt))⟩, Nat.le_trans hS.1 hz, fun q hq hn => (hk q (Nat.lt_of_lt_of_le hq hS.1)).trans (hS.2.1 q hq hn)⟩) hS.2.2 (Nat.le_of_ble_eq_true rfl) (Nat.le_of_ble_eq_true rfl)
    · refine lv_iload_n hx hb dX11_risk_26 rfl (lv_at hl 2 rfl) ?_
      refine lv_if_lt (tgt := 35) hx hb dX11_risk_27 (by decide) (fun c3 => ?_) (fun c3 => ?_)
      · exact vx_throw0 (own := RX11) (cls := "java/util/NoSuchElementException") (names := ["java/lang/RuntimeException", "java/lang/Exception"]) (ik := 137) (ic := 139) (A := XA A s.heap.size) hx hb hst hown (by decide) (by decide) (hts _ mm_X11_risk_1) (hts _ mm_X11_risk_2) (vx_hat (fun w hw => hts w (vg_X11_risk w hw)) vx_bad (vx_c (va_Nw.use rfl hEX.1.1) (vx_c (va_Nw.use rfl hEX.1.2.1) (vx_c (va_Nw.use rfl hEX.1.2.2.1) (vx_c (va_Nw.use rfl hEX.1.2.2.2) vx_n))))) vx_allot hEX.2.1 hEX.2.2 hS (by rw [hml]; exact hl.1) dX11_risk_35 dX11_risk_38 dX11_risk_39 dX11_risk_42 (fun x hx => (htab x hx).elim) (Nat.le_of_ble_eq_true rfl) (Nat.le_of_ble_eq_true rfl) (Nat.le_of_ble_eq_true rfl) (Nat.le_of_ble_eq_true rfl) hlocks (fun t hvm hz hk => ⟨(), trivial, ⟨rfl, hP.kept (fun k9 q9 h9 => hk q9.1 ((hP k9 q9 h9).lt))⟩, Nat.le_trans hS.1 hz, fun q hq hn => (hk q (Nat.lt_of_lt_of_le hq hS.1)).trans (hS.2.1 q hq hn)⟩) hS.2.2 (Nat.le_of_ble_eq_true rfl) (Nat.le_of_ble_eq_true rfl)
      · refine lv_iload_n hx hb dX11_risk_30 rfl (lv_at hl 2 rfl) ?_
        refine lv_iconst (v := 1) hx hb dX11_risk_31 (by decide) ?_
        refine lv_icmp_le (tgt := 43) hx hb dX11_risk_32 (by decide) (fun c4 => ?_) (fun c4 => ?_)
        · refine lv_aload_n hx hb dX11_risk_43 rfl (lv_at hl 0 rfl) ?_
          refine va_get (D := (dC, dI)) (ci := 10) (v := .ref (A (36 + 20 * 0))) (C := RX11) (T := TX11) (N := 19) hx hb hts ii_X11_risk_X11 hown hK hP 0 (xw_is (r := 0) (by omega) (xc_fix (r := 0) (by omega))) rfl 1 (by decide) (hts _ mm_X11_risk_3) (fun _ hh => hh) rfl dX11_risk_44 ?_
          refine lv_iload_n hx hb dX11_risk_47 rfl (lv_at hl 1 rfl) ?_
          refine va_calli (va_runS (As := [.ref (A (36 + 20 * 0)), .int (nI n2)]) (rest := []) ⟨hx, hb, hml, hown, hts⟩ (x_X9_perilsOf l dC dI ad E hEE A C nb _ hN st sl so 0 n2 (by omega) (by omega) hG.1) (va_cwS 2 hts gX11_risk_X9_perilsOf rfl rfl rfl (by decide +kernel) ⟨Nat.le_of_ble_eq_true rfl, Nat.le_of_ble_eq_true rfl⟩) ⟨fun a U g mk q => ⟨q.1, xPre.blind hEE q.2⟩, fun U hU hW => ⟨rfl, xPre.of hEE hP hK hE hS hU hW⟩⟩ rfl rfl hl.1 rfl (lv_room (Nat.le_of_ble_eq_true rfl)) dX11_risk_48 ⟨Nat.le_of_ble_eq_true rfl, Nat.le_of_ble_eq_true rfl⟩) hS (fun q _ h => XA.le hS.1 q h) (XA.le hS.1) (fun r5 x t H locs ht hvm hw hB _ _ hS => ?_)
          have hP := xB.at ht hB
          clear hB ht hvm
          obtain ⟨rfl, hw⟩ := hw
          have hP : va_P (dC, dI) vwCl (xw A C nb st sl so) _ := hP
          clear hw
          refine lv_bipush (v := 8) hx hb dX11_risk_51 (by decide) ?_
          refine lv_icmp_le (tgt := 64) hx hb dX11_risk_53 (by decide) (fun c5 => ?_) (fun c5 => ?_)
          · refine lv_aload_n hx hb dX11_risk_64 rfl (lv_at hl 0 rfl) ?_
            refine va_get (D := (dC, dI)) (ci := 10) (v := .ref (A (36 + 20 * 0))) (C := RX11) (T := TX11) (N := 19) hx hb hts ii_X11_risk_X11 hown hK hP 0 (xw_is (r := 0) (by omega) (xc_fix (r := 0) (by omega))) rfl 1 (by decide) (hts _ mm_X11_risk_3) (fun _ hh => hh) rfl dX11_risk_65 ?_
            refine lv_iload_n hx hb dX11_risk_68 rfl (lv_at hl 1 rfl) ?_
            refine va_calll (va_runS (As := [.ref (A (36 + 20 * 0)), .int (nI n2)]) (rest := []) ⟨hx, hb, hml, hown, hts⟩ (x_X9_waysOfPerils l dC dI ad E hEE A C nb _ hN st sl so 0 n2 (by omega) (by omega) hG.1) (va_cwS 2 hts gX11_risk_X9_waysOfPerils rfl rfl rfl (by decide +kernel) ⟨Nat.le_of_ble_eq_true rfl, Nat.le_of_ble_eq_true rfl⟩) ⟨fun a U g mk q => ⟨q.1, xPre.blind hEE q.2⟩, fun U hU hW => ⟨rfl, xPre.of hEE hP hK hE hS hU hW⟩⟩ rfl rfl hl.1 rfl (lv_room (Nat.le_of_ble_eq_true rfl)) dX11_risk_69 ⟨Nat.le_of_ble_eq_true rfl, Nat.le_of_ble_eq_true rfl⟩) hS (fun q _ h => XA.le hS.1 q h) (XA.le hS.1) (fun r6 x t H locs ht hvm hw hB _ _ hS => ?_)
            have hP := xB.at ht hB
            clear hB ht hvm
            obtain ⟨rfl, hw⟩ := hw
            have hP : va_P (dC, dI) vwCl (xw A C nb st sl so) _ := hP
            clear hw
            refine lv_lstore_n (lv' := [(3, .long r6), (0, .ref (A 0)), (1, .int (nI n2)), (2, .int vb)]) hx hb dX11_risk_72 rfl hl (by decide) rfl (fun ls hl => ?_)
            refine lv_lload_n hx hb dX11_risk_73 rfl (lv_at hl 0 rfl) ?_
            refine lv_aload_n hx hb dX11_risk_74 rfl (lv_at hl 1 rfl) ?_
            refine va_get (D := (dC, dI)) (ci := 10) (v := .ref (A (36 + 20 * 0))) (C := RX11) (T := TX11) (N := 19) hx hb hts ii_X11_risk_X11 hown hK hP 0 (xw_is (r := 0) (by omega) (xc_fix (r := 0) (by omega))) rfl 1 (by decide) (hts _ mm_X11_risk_3) (fun _ hh => hh) rfl dX11_risk_75 ?_
            refine lv_iload_n hx hb dX11_risk_78 rfl (lv_at hl 2 rfl) ?_
            refine va_calll (va_runS (As := [.ref (A (36 + 20 * 0)), .int (nI n2)]) (rest := [.long r6]) ⟨hx, hb, hml, hown, hts⟩ (x_X9_waysUnharmed l dC dI ad E hEE A C nb _ hN st sl so 0 n2 (by omega) (by omega) hG.1) (va_cwS 2 hts gX11_risk_X9_waysUnharmed rfl rfl rfl (by decide +kernel) ⟨Nat.le_of_ble_eq_true rfl, Nat.le_of_ble_eq_true rfl⟩) ⟨fun a U g mk q => ⟨q.1, xPre.blind hEE q.2⟩, fun U hU hW => ⟨rfl, xPre.of hEE hP hK hE hS hU hW⟩⟩ rfl rfl hl.1 rfl (lv_room (Nat.le_of_ble_eq_true rfl)) dX11_risk_79 ⟨Nat.le_of_ble_eq_true rfl, Nat.le_of_ble_eq_true rfl⟩) hS (fun q _ h => XA.le hS.1 q h) (XA.le hS.1) (fun r7 x t H locs ht hvm hw hB _ _ hS => ?_)
            have hP := xB.at ht hB
            clear hB ht hvm
            obtain ⟨rfl, hw⟩ := hw
            have hP : va_P (dC, dI) vwCl (xw A C nb st sl so) _ := hP
            clear hw
            refine lv_lsub hx hb dX11_risk_82 ?_
            refine lv_topl (fun z8 ez8 => ?_)
            clear ez8
            refine lv_lstore (lv' := [(5, .long z8), (3, .long r6), (0, .ref (A 0)), (1, .int (nI n2)), (2, .int vb)]) hx hb dX11_risk_83 hl (by decide) rfl (fun ls hl => ?_)
            refine lv_lload_n hx hb dX11_risk_85 rfl (lv_at hl 1 rfl) ?_
            refine lv_lload hx hb dX11_risk_86 (lv_at hl 0 rfl) ?_
            refine va_calll (va_runS (As := [.long r6, .long z8]) (rest := []) ⟨hx, hb, hml, hown, hts⟩ (x_X9_sharedDivisor l dC dI ad E hEE A C nb _ hN st sl so r6 z8  hG.1) (va_cwS 2 hts gX11_risk_X9_sharedDivisor rfl rfl rfl (by decide +kernel) ⟨Nat.le_of_ble_eq_true rfl, Nat.le_of_ble_eq_true rfl⟩) ⟨fun a U g mk q => ⟨q.1, xPre.blind hEE q.2⟩, fun U hU hW => ⟨rfl, xPre.of hEE hP hK hE hS hU hW⟩⟩ rfl rfl hl.1 rfl (lv_room (Nat.le_of_ble_eq_true rfl)) dX11_risk_88 ⟨Nat.le_of_ble_eq_true rfl, Nat.le_of_ble_eq_true rfl⟩) hS (fun q _ h => XA.le hS.1 q h) (XA.le hS.1) (fun r9 x t H locs ht hvm hw hB _ _ hS => ?_)
            have hP := xB.at ht hB
            clear hB ht hvm
            obtain ⟨rfl, hw⟩ := hw
            have hP : va_P (dC, dI) vwCl (xw A C nb st sl so) _ := hP
            clear hw
            refine lv_lstore (lv' := [(7, .long r9), (5, .long z8), (3, .long r6), (0, .ref (A 0)), (1, .int (nI n2)), (2, .int vb)]) hx hb dX11_risk_91 hl (by decide) rfl (fun ls hl => ?_)
            refine lv_iload_n hx hb dX11_risk_93 rfl (lv_at hl 5 rfl) ?_
            refine lv_if_ne (tgt := 102) hx hb dX11_risk_94 (by decide) (fun c6 => ?_) (fun c6 => ?_)
            · refine lv_lload_n hx hb dX11_risk_102 rfl (lv_at hl 2 rfl) ?_
              refine lv_lload hx hb dX11_risk_103 (lv_at hl 0 rfl) ?_
              refine lv_lconst (v := 0) hx hb dX11_risk_105 (by decide) ?_
              refine W.lcmp hx hb dX11_risk_106 ?_
              refine lv_topi (fun z10 ez10 => ?_)
              refine lv_if_le (tgt := 115) hx hb dX11_risk_107 (by decide) (fun c7 => ?_) (fun c7 => ?_)
              · refine lv_lconst (v := 1) hx hb dX11_risk_115 (by decide) ?_
                refine lv_ldiv hx hb dX11_risk_116 (by decide) ?_
                refine lv_topl (fun z11 ez11 => ?_)
                clear ez11
                refine vx_ret ?_
                refine W.widen (k := 1) (n := 6) (Nat.le_of_ble_eq_true rfl) (Nat.le_of_ble_eq_true rfl) ?_
                exact W.lret (v := z11) hx hb hr (fun t ht hW => ⟨⟨z11, (st, sl, so), rfl, rfl, xB.of ht hP⟩, hS.F ht⟩) hS.2.2 dX11_risk_117
              · have hnz : ¬ r9 = 0 := lcmp_ne ez10 (fun h9 => c7 (by rw [h9]; decide))
                refine lv_lload hx hb dX11_risk_110 (lv_at hl 0 rfl) ?_
                refine lv_goto (tgt := 116) hx hb dX11_risk_112 (by decide) ?_
                refine lv_ldiv hx hb dX11_risk_116 (hnz) ?_
                refine lv_topl (fun z12 ez12 => ?_)
                clear ez12
                refine vx_ret ?_
                refine W.widen (k := 1) (n := 6) (Nat.le_of_ble_eq_true rfl) (Nat.le_of_ble_eq_true rfl) ?_
                exact W.lret (v := z12) hx hb hr (fun t ht hW => ⟨⟨z12, (st, sl, so), rfl, rfl, xB.of ht hP⟩, hS.F ht⟩) hS.2.2 dX11_risk_117
            · refine lv_lload hx hb dX11_risk_97 (lv_at hl 1 rfl) ?_
              refine lv_goto (tgt := 103) hx hb dX11_risk_99 (by decide) ?_
              refine lv_lload hx hb dX11_risk_103 (lv_at hl 0 rfl) ?_
              refine lv_lconst (v := 0) hx hb dX11_risk_105 (by decide) ?_
              refine W.lcmp hx hb dX11_risk_106 ?_
              refine lv_topi (fun z13 ez13 => ?_)
              refine lv_if_le (tgt := 115) hx hb dX11_risk_107 (by decide) (fun c8 => ?_) (fun c8 => ?_)
              · refine lv_lconst (v := 1) hx hb dX11_risk_115 (by decide) ?_
                refine lv_ldiv hx hb dX11_risk_116 (by decide) ?_
                refine lv_topl (fun z14 ez14 => ?_)
                clear ez14
                refine vx_ret ?_
                refine W.widen (k := 1) (n := 6) (Nat.le_of_ble_eq_true rfl) (Nat.le_of_ble_eq_true rfl) ?_
                exact W.lret (v := z14) hx hb hr (fun t ht hW => ⟨⟨z14, (st, sl, so), rfl, rfl, xB.of ht hP⟩, hS.F ht⟩) hS.2.2 dX11_risk_117
              · have hnz : ¬ r9 = 0 := lcmp_ne ez13 (fun h9 => c8 (by rw [h9]; decide))
                refine lv_lload hx hb dX11_risk_110 (lv_at hl 0 rfl) ?_
                refine lv_goto (tgt := 116) hx hb dX11_risk_112 (by decide) ?_
                refine lv_ldiv hx hb dX11_risk_116 (hnz) ?_
                refine lv_topl (fun z15 ez15 => ?_)
                clear ez15
                refine vx_ret ?_
                refine W.widen (k := 1) (n := 6) (Nat.le_of_ble_eq_true rfl) (Nat.le_of_ble_eq_true rfl) ?_
                exact W.lret (v := z15) hx hb hr (fun t ht hW => ⟨⟨z15, (st, sl, so), rfl, rfl, xB.of ht hP⟩, hS.F ht⟩) hS.2.2 dX11_risk_117
          · exact vx_throw0 (own := RX11) (cls := "java/util/NoSuchElementException") (names := ["java/lang/RuntimeException", "java/lang/Exception"]) (ik := 137) (ic := 139) (A := XA A s.heap.size) hx hb hst hown (by decide) (by decide) (hts _ mm_X11_risk_1) (hts _ mm_X11_risk_2) (vx_hat (fun w hw => hts w (vg_X11_risk w hw)) vx_bad (vx_c (va_Nw.use rfl hEX.1.1) (vx_c (va_Nw.use rfl hEX.1.2.1) (vx_c (va_Nw.use rfl hEX.1.2.2.1) (vx_c (va_Nw.use rfl hEX.1.2.2.2) vx_n))))) vx_allot hEX.2.1 hEX.2.2 hS (by rw [hml]; exact hl.1) dX11_risk_56 dX11_risk_59 dX11_risk_60 dX11_risk_63 (fun x hx => (htab x hx).elim) (Nat.le_of_ble_eq_true rfl) (Nat.le_of_ble_eq_true rfl) (Nat.le_of_ble_eq_true rfl) (Nat.le_of_ble_eq_true rfl) hlocks (fun t hvm hz hk => ⟨(), trivial, ⟨rfl, hP.kept (fun k9 q9 h9 => hk q9.1 ((hP k9 q9 h9).lt))⟩, Nat.le_trans hS.1 hz, fun q hq hn => (hk q (Nat.lt_of_lt_of_le hq hS.1)).trans (hS.2.1 q hq hn)⟩) hS.2.2 (Nat.le_of_ble_eq_true rfl) (Nat.le_of_ble_eq_true rfl)
        · exact vx_throw0 (own := RX11) (cls := "java/util/NoSuchElementException") (names := ["java/lang/RuntimeException", "java/lang/Exception"]) (ik := 137) (ic := 139) (A := XA A s.heap.size) hx hb hst hown (by decide) (by decide) (hts _ mm_X11_risk_1) (hts _ mm_X11_risk_2) (vx_hat (fun w hw => hts w (vg_X11_risk w hw)) vx_bad (vx_c (va_Nw.use rfl hEX.1.1) (vx_c (va_Nw.use rfl hEX.1.2.1) (vx_c (va_Nw.use rfl hEX.1.2.2.1) (vx_c (va_Nw.use rfl hEX.1.2.2.2) vx_n))))) vx_allot hEX.2.1 hEX.2.2 hS (by rw [hml]; exact hl.1) dX11_risk_35 dX11_risk_38 dX11_risk_39 dX11_risk_42 (fun x hx => (htab x hx).elim) (Nat.le_of_ble_eq_true rfl) (Nat.le_of_ble_eq_true rfl) (Nat.le_of_ble_eq_true rfl) (Nat.le_of_ble_eq_true rfl) hlocks (fun t hvm hz hk => ⟨(), trivial, ⟨rfl, hP.kept (fun k9 q9 h9 => hk q9.1 ((hP k9 q9 h9).lt))⟩, Nat.le_trans hS.1 hz, fun q hq hn => (hk q (Nat.lt_of_lt_of_le hq hS.1)).trans (hS.2.1 q hq hn)⟩) hS.2.2 (Nat.le_of_ble_eq_true rfl) (Nat.le_of_ble_eq_true rfl)
  · refine lv_if_eq (tgt := 35) hx hb dX11_risk_8 (by decide) (fun _ => ?_) (fun cc => absurd (by decide) cc)
    exact vx_throw0 (own := RX11) (cls := "java/util/NoSuchElementException") (names := ["java/lang/RuntimeException", "java/lang/Exception"]) (ik := 137) (ic := 139) (A := XA A s.heap.size) hx hb hst hown (by decide) (by decide) (hts _ mm_X11_risk_1) (hts _ mm_X11_risk_2) (vx_hat (fun w hw => hts w (vg_X11_risk w hw)) vx_bad (vx_c (va_Nw.use rfl hEX.1.1) (vx_c (va_Nw.use rfl hEX.1.2.1) (vx_c (va_Nw.use rfl hEX.1.2.2.1) (vx_c (va_Nw.use rfl hEX.1.2.2.2) vx_n))))) vx_allot hEX.2.1 hEX.2.2 hS (by rw [hml]; exact hl.1) dX11_risk_35 dX11_risk_38 dX11_risk_39 dX11_risk_42 (fun x hx => (htab x hx).elim) (Nat.le_of_ble_eq_true rfl) (Nat.le_of_ble_eq_true rfl) (Nat.le_of_ble_eq_true rfl) (Nat.le_of_ble_eq_true rfl) hlocks (fun t hvm hz hk => ⟨(), trivial, ⟨rfl, hP.kept (fun k9 q9 h9 => hk q9.1 ((hP k9 q9 h9).lt))⟩, Nat.le_trans hS.1 hz, fun q hq hn => (hk q (Nat.lt_of_lt_of_le hq hS.1)).trans (hS.2.1 q hq hn)⟩) hS.2.2 (Nat.le_of_ble_eq_true rfl) (Nat.le_of_ble_eq_true rfl)
set_option maxHeartbeats 4000000 in
set_option maxRecDepth 100000 in
theorem l_L_risk (l : Launch) (hst : l.stackTraces = false) (dC : Nat → ClassId) (dI : Nat → Nat → Nat) (ad : Nat → Nat) (E : EP) (hEE : EC ad E) (hEE2 : ∀ A U H, E A U H → EX A U H) (A : Nat → Nat) (C : Nat → ClassId) (nb sz : Nat) (hN : XN A) (st : Nat → Nat → Int32) (sl : Nat → Nat → Int64) (so : Nat → XR) (o : Nat) (yo : ClassId) (g : Nat → Int64) (va vb : Int32) (hI : XI st) (ho : ∀ k, k < 296 → A k ≠ o) : Met l yL_risk wsL_risk ({ frames := 7, cells := 1, slots := 6, locals := 125 }) (va_Pc [.ref (A 0), .int va, .int vb, .ref o] (lPre E dC dI A C nb sz st sl so o yo g)) (va_Qi (fun (_ : Int32) (_ : Nat → Int64) => True) (fun (g2 : Nat → Int64) (t : State) => xB dC dI A C nb (st, sl, so) t ∧ va_P (dC, dI) vwCl [(o, .inl (yo, 1, .inr (.inl g2)))] t.heap) (lA A o sz)) 1 6 (lA A o sz) := by
  refine va_MetW (cc := cL_risk) (maxL := 5) (ret := some .int) (hh := [(0, 9, 12, 13)]) (by decide) rfl ?_
  intro p e s m args below meth c s₁ B hml hv
  obtain ⟨rfl, hsz, hP, hPo, hK, hKo, hE⟩ := hv
  have hx := B.exec
  have hb := B.bytes
  have hr := B.returns
  have hts := atoms_spec (ws := wsL_risk) B.pre
  have hown : s.vm.findClass RL = some m.cls := findClass_of_methodNamed B.named
  have hlocks := B.notSynchronized
  have htab := vx_table (x := yL_risk) B (hts _ List.mem_cons_self)
  subst hsz
  have hEX := hEE2 _ _ _ hE
  have hS : va_S (lA A o s.heap.size) s.heap s.heap [] := va_S.rf
  have hl := lv_entry ([.ref (A 0), .int va, .int vb, .ref o]) (n := 5) (Nat.le_of_ble_eq_true rfl)
  rw [lg_entry_eq]
  generalize (lg_sl ([.ref (A 0), .int va, .int vb, .ref o]) ++ List.replicate (5 - (lg_sl ([.ref (A 0), .int va, .int vb, .ref o])).length) Slot.unset).toArray = ls at hl ⊢
  have hl : lv_has ls 5 [(0, .ref (A 0)), (1, .int va), (2, .int vb), (3, .ref o)] := hl
  refine lv_aload_n hx hb dL_risk_0 rfl (lv_at hl 3 rfl) ?_
  refine lv_iconst (v := 0) hx hb dL_risk_1 (by decide) ?_
  refine lv_aload_n hx hb dL_risk_2 rfl (lv_at hl 0 rfl) ?_
  refine lv_iload_n hx hb dL_risk_3 rfl (lv_at hl 1 rfl) ?_
  refine lv_iload_n hx hb dL_risk_4 rfl (lv_at hl 2 rfl) ?_
  have hol : o < s.heap.size := (hPo 0 _ rfl).lt
  refine vx_calll (vx_runV (As := [.int va, .int vb]) (rest := [.int 0, .ref o]) ⟨hx, hb, hml, hown, hts⟩ (e_X11_risk l hst dC dI ad E hEE hEE2 A C nb s.heap.size hN st sl so va vb hI) (cwV 2 hts gL_risk_X11_risk rfl rfl rfl (by decide +kernel) ⟨Nat.le_of_ble_eq_true rfl, Nat.le_of_ble_eq_true rfl⟩) ⟨fun a U g mk q => ⟨q.1, xPre.blind hEE q.2⟩, va_recv hK hP (ci := 10) (q0 := 0) rfl (xw_is (r := 0) (by omega) (xc_fix (r := 0) (by omega))), fun U hU hW => ⟨rfl, xPre.ofg hEE hP hK hE hS (fun q h => Or.inl h) hU hW⟩⟩ rfl rfl hl.1 rfl (lv_room (Nat.le_of_ble_eq_true rfl)) dL_risk_5 ⟨Nat.le_of_ble_eq_true rfl, Nat.le_of_ble_eq_true rfl⟩) hS (fun q _ h => Or.inl h) (fun q h => Or.inl h) (fun q _ h => Or.inl h) (fun E9 ce q9 u t H1 locs ht hvm hpx hBX hz1 hk1 hS hq9 hce hcl => ?_) (fun r u t H1 locs ht hvm hw hB hz1 hk1 hS => ?_)
  · obtain ⟨rfl, hBX⟩ := hBX
    have hPo : va_P (dC, dI) vwCl [(o, .inl (yo, 1, .inr (.inl g)))] H1 := hPo.kept (lkept ho hol hk1)
    have hP := xB.at ht hBX
    refine vx_catch (own := RL) (name := "java/util/NoSuchElementException") hown [] (⟨0, 9, 12, 13⟩ : ExceptionTableEntry) [] (htab.trans rfl) (fun z hz => nomatch hz) (by decide) (by decide) (hts _ mm_L_risk_1) (va_Nw.use rfl hEX.1.2.2.2) hq9 hce hcl ?_
    refine lv_astore (lv' := [(4, .ref q9), (0, .ref (A 0)), (1, .int va), (2, .int vb), (3, .ref o)]) hx hb dL_risk_12 hl (by decide) rfl (fun ls hl => ?_)
    refine lv_iconst (v := 1) hx hb dL_risk_14 (by decide) ?_
    exact W.iret (v := 1) hx hb hr (fun t ht hW => ⟨⟨1, g, rfl, trivial, xB.of ht hP, by rw [ht]; exact hPo⟩, hS.F ht⟩) hS.2.2 dL_risk_15
  · subst hw
    have hPo : va_P (dC, dI) vwCl [(o, .inl (yo, 1, .inr (.inl g)))] H1 := hPo.kept (lkept ho hol hk1)
    have hP := xB.at ht hB
    refine va_last hx hb (hK.app hKo) (hP.app hPo) (lDx hN ho _ _ _ _ _ _ _) hS 296 296 (lcat_at xw_len) (lcat_at xt_len) (i := 0) (zz_in (by decide)) dL_risk_8 (fun H2 locs hP2 _ hS => ?_)
    rw [lcat_set xw_len] at hP2
    have hP := lcat_l hP2
    have hPo := lcat_r xw_len hP2
    refine lv_goto (tgt := 16) hx hb dL_risk_9 (by decide) ?_
    refine lv_iconst (v := 0) hx hb dL_risk_16 (by decide) ?_
    exact W.iret (v := 0) hx hb hr (fun t ht hW => ⟨⟨0, _, rfl, trivial, xB.of ht hP, by rw [ht]; exact hPo⟩, hS.F ht⟩) hS.2.2 dL_risk_17
