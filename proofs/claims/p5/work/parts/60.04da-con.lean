set_option maxHeartbeats 4000000 in
set_option maxRecDepth 100000 in
theorem x_X4_addPlace (l : Launch) (dC : Nat → ClassId) (dI : Nat → Nat → Nat) (ad : Nat → Nat) (E : EP) (hEE : EC ad E) (A : Nat → Nat) (C : Nat → ClassId) (nb sz : Nat) (hN : XN A) (st : Nat → Nat → Int32) (sl : Nat → Nat → Int64) (so : Nat → XR) (i : Nat) (vw : Int64) (va : Int32) (gc : Nat) (hi : i < 13) (hI : XI st) (hgc : st (36 + 20 * i) 5 = nI gc) (hgc2 : gc < 5) : Met l yX4_addPlace wsX4_addPlace ({ frames := 0, cells := 0, slots := 0, locals := 0 }) (va_Pc [.ref (A (36 + 20 * i)), .long vw, .int va] (xPre E dC dI A C nb sz st sl so)) (va_Qv (fun (x : XT) => XG [1, 2, 3, 4, 5, 6, 8, 9, 10, 11, 12, 13, 14, 15] st x.1 ∧ x.2.2 = so ∧ (True)) (xB dC dI A C nb) (XA A sz)) 0 0 (XA A sz) := by
  refine Met.ofW (cc := cX4_addPlace) (maxL := 4) (ret := none) (by decide) rfl ?_
  intro p e s m args below meth c s₁ B hml hv
  obtain ⟨rfl, hsz, hP, hK, hE⟩ := hv
  have hx := B.exec
  have hb := B.bytes
  have hr := B.returns
  have hts := atoms_spec (ws := wsX4_addPlace) B.pre
  have hown : s.vm.findClass RX4 = some m.cls := findClass_of_methodNamed B.named
  subst hsz
  have hEv := hEE.1 _ _ _ hE
  have hS : va_S (XA A s.heap.size) s.heap s.heap [] := va_S.rf
  have hG : XG [1, 2, 3, 4, 5, 6, 8, 9, 10, 11, 12, 13, 14, 15] st st := XG.rf hI
  have hl := lv_entry ([.ref (A (36 + 20 * i)), .long vw, .int va]) (n := 4) (Nat.le_of_ble_eq_true rfl)
  rw [lg_entry_eq]
  generalize (lg_sl ([.ref (A (36 + 20 * i)), .long vw, .int va]) ++ List.replicate (4 - (lg_sl ([.ref (A (36 + 20 * i)), .long vw, .int va])).length) Slot.unset).toArray = ls at hl ⊢
  have hl : lv_has ls 4 [(0, .ref (A (36 + 20 * i))), (1, .long vw), (3, .int va)] := hl
  refine lv_aload_n hx hb dX4_addPlace_0 rfl (lv_at hl 0 rfl) ?_
  refine va_get (D := (dC, dI)) (ci := 5) (v := .ref (A (36 + 20 * i + 1))) (C := RX4) (T := TX4) (N := 12) hx hb hts ii_X4_addPlace_X4 hown hK hP (36 + 20 * i) (xw_is (r := (36 + 20 * i)) (by omega) (xc_pk (i := i) (o := 0) (by omega) (by omega))) rfl 0 (by decide) (hts _ mm_X4_addPlace_1) (fun _ hh => hh) rfl dX4_addPlace_1 ?_
  refine lv_aload_n hx hb dX4_addPlace_4 rfl (lv_at hl 0 rfl) ?_
  refine va_get (D := (dC, dI)) (ci := 5) (v := .int (st (36 + 20 * i) 5)) (C := RX4) (T := TX4) (N := 12) hx hb hts ii_X4_addPlace_X4 hown hK hP (36 + 20 * i) (xw_is (r := (36 + 20 * i)) (by omega) (xc_pk (i := i) (o := 0) (by omega) (by omega))) rfl 5 (by decide) (hts _ mm_X4_addPlace_2) (fun _ hh => hh) rfl dX4_addPlace_5 ?_
  refine zz_top (v := (nI gc)) (by show st (36 + 20 * i) 5 = _; rw [hgc]) ?_
  refine lv_lload_n hx hb dX4_addPlace_8 rfl (lv_at hl 1 rfl) ?_
  refine va_last hx hb hK hP (xD hN _ _ _ _ _ _) hS (36 + 20 * i + 1) (36 + 20 * i + 1) (xw_is (r := (36 + 20 * i + 1)) (by omega) (xc_pk (i := i) (o := 1) (by omega) (by omega))) (xt_is (r := (36 + 20 * i + 1)) (by omega) ((xty_pk (i := i) (o := 1) (by omega)).trans rfl)) (i := (nI gc)) (vp_in_nI (by omega) (by decide)) dX4_addPlace_9 (fun H locs hP _ hS => ?_)
  rw [nI_clamp (by omega)] at hP
  have hP : va_P (dC, dI) vwCl (xw A C nb st (upL sl (36 + 20 * i + 1) gc vw) so) H := by rw [← xsetL (r := (36 + 20 * i + 1)) (k := gc) (v := vw) (xc_pk (i := i) (o := 1) (by omega) (by omega))]; exact hP
  obtain ⟨sl1, esl1⟩ : ∃ y, y = upL sl (36 + 20 * i + 1) gc vw := ⟨_, rfl⟩
  rw [← esl1] at hP
  clear esl1
  refine lv_aload_n hx hb dX4_addPlace_10 rfl (lv_at hl 0 rfl) ?_
  refine va_get (D := (dC, dI)) (ci := 5) (v := .ref (A (36 + 20 * i + 2))) (C := RX4) (T := TX4) (N := 12) hx hb hts ii_X4_addPlace_X4 hown hK hP (36 + 20 * i) (xw_is (r := (36 + 20 * i)) (by omega) (xc_pk (i := i) (o := 0) (by omega) (by omega))) rfl 1 (by decide) (hts _ mm_X4_addPlace_3) (fun _ hh => hh) rfl dX4_addPlace_11 ?_
  refine lv_aload_n hx hb dX4_addPlace_14 rfl (lv_at hl 0 rfl) ?_
  refine va_get (D := (dC, dI)) (ci := 5) (v := .int (st (36 + 20 * i) 5)) (C := RX4) (T := TX4) (N := 12) hx hb hts ii_X4_addPlace_X4 hown hK hP (36 + 20 * i) (xw_is (r := (36 + 20 * i)) (by omega) (xc_pk (i := i) (o := 0) (by omega) (by omega))) rfl 5 (by decide) (hts _ mm_X4_addPlace_2) (fun _ hh => hh) rfl dX4_addPlace_15 ?_
  refine zz_top (v := (nI gc)) (by show st (36 + 20 * i) 5 = _; rw [hgc]) ?_
  refine lv_iconst (v := 0) hx hb dX4_addPlace_18 (by decide) ?_
  refine va_iast hx hb hK hP (xD hN _ _ _ _ _ _) hS (36 + 20 * i + 2) (36 + 20 * i + 2) (xw_is (r := (36 + 20 * i + 2)) (by omega) (xc_pk (i := i) (o := 2) (by omega) (by omega))) (xt_is (r := (36 + 20 * i + 2)) (by omega) ((xty_pk (i := i) (o := 2) (by omega)).trans rfl)) (i := (nI gc)) (vp_in_nI (by omega) (by decide)) dX4_addPlace_19 (fun H locs hP _ hS => ?_)
  rw [nI_clamp (by omega)] at hP
  have hP : va_P (dC, dI) vwCl (xw A C nb (up2 st (36 + 20 * i + 2) gc 0) sl1 so) H := by rw [← xset (r := (36 + 20 * i + 2)) (k := gc) (v := 0) (xc_pk (i := i) (o := 2) (by omega) (by omega))]; exact hP
  obtain ⟨st2, est2⟩ : ∃ y, y = up2 st (36 + 20 * i + 2) gc 0 := ⟨_, rfl⟩
  have hG : XG [1, 2, 3, 4, 5, 6, 8, 9, 10, 11, 12, 13, 14, 15] st st2 := by rw [est2]; exact hG.up (xz (r := (36 + 20 * i + 2)) (k := gc) ((xrg_pk (i := i) (o := 2) (k := gc) (by omega)).trans (by first | rfl | decide))) (xpn (c := 0) ((xcl_pk (i := i) (o := 2) (k := gc) (by omega)).trans (by first | rfl | decide)) (by decide))
  rw [← est2] at hP
  refine lv_aload_n hx hb dX4_addPlace_20 rfl (lv_at hl 0 rfl) ?_
  refine va_get (D := (dC, dI)) (ci := 5) (v := .ref (A (36 + 20 * i + 3))) (C := RX4) (T := TX4) (N := 12) hx hb hts ii_X4_addPlace_X4 hown hK hP (36 + 20 * i) (xw_is (r := (36 + 20 * i)) (by omega) (xc_pk (i := i) (o := 0) (by omega) (by omega))) rfl 2 (by decide) (hts _ mm_X4_addPlace_4) (fun _ hh => hh) rfl dX4_addPlace_21 ?_
  refine lv_aload_n hx hb dX4_addPlace_24 rfl (lv_at hl 0 rfl) ?_
  refine va_get (D := (dC, dI)) (ci := 5) (v := .int (st2 (36 + 20 * i) 5)) (C := RX4) (T := TX4) (N := 12) hx hb hts ii_X4_addPlace_X4 hown hK hP (36 + 20 * i) (xw_is (r := (36 + 20 * i)) (by omega) (xc_pk (i := i) (o := 0) (by omega) (by omega))) rfl 5 (by decide) (hts _ mm_X4_addPlace_2) (fun _ hh => hh) rfl dX4_addPlace_25 ?_
  refine zz_top (v := (nI gc)) (by show st2 (36 + 20 * i) 5 = _; rw [est2, up2_ne (r := (36 + 20 * i + 2)) (k := gc) (a := (36 + 20 * i)) (j := 5) _ _ (by omega), hgc]) ?_
  refine lv_iload_n hx hb dX4_addPlace_28 rfl (lv_at hl 2 rfl) ?_
  refine va_zast hx hb hK hP (xD hN _ _ _ _ _ _) hS (36 + 20 * i + 3) (36 + 20 * i + 3) (xw_is (r := (36 + 20 * i + 3)) (by omega) (xc_pk (i := i) (o := 3) (by omega) (by omega))) (xt_is (r := (36 + 20 * i + 3)) (by omega) ((xty_pk (i := i) (o := 3) (by omega)).trans rfl)) (i := (nI gc)) (vp_in_nI (by omega) (by decide)) dX4_addPlace_29 (fun H locs hP _ hS => ?_)
  rw [nI_clamp (by omega)] at hP
  obtain ⟨z3, ez3⟩ : ∃ y : Int32, y = vp_nar .boolean va := ⟨_, rfl⟩
  rw [← ez3] at hP
  have hP : va_P (dC, dI) vwCl (xw A C nb (up2 st2 (36 + 20 * i + 3) gc z3) sl1 so) H := by rw [← xset (r := (36 + 20 * i + 3)) (k := gc) (v := z3) (xc_pk (i := i) (o := 3) (by omega) (by omega))]; exact hP
  obtain ⟨st4, est4⟩ : ∃ y, y = up2 st2 (36 + 20 * i + 3) gc z3 := ⟨_, rfl⟩
  have hG : XG [1, 2, 3, 4, 5, 6, 8, 9, 10, 11, 12, 13, 14, 15] st st4 := by rw [est4]; exact hG.up (xz (r := (36 + 20 * i + 3)) (k := gc) ((xrg_pk (i := i) (o := 3) (k := gc) (by omega)).trans (by first | rfl | decide))) (xpn (c := 0) ((xcl_pk (i := i) (o := 3) (k := gc) (by omega)).trans (by first | rfl | decide)) (by decide))
  rw [← est4] at hP
  refine lv_aload_n hx hb dX4_addPlace_30 rfl (lv_at hl 0 rfl) ?_
  refine lv_dup hx hb dX4_addPlace_31 rfl ?_
  refine va_get (D := (dC, dI)) (ci := 5) (v := .int (st4 (36 + 20 * i) 5)) (C := RX4) (T := TX4) (N := 12) hx hb hts ii_X4_addPlace_X4 hown hK hP (36 + 20 * i) (xw_is (r := (36 + 20 * i)) (by omega) (xc_pk (i := i) (o := 0) (by omega) (by omega))) rfl 5 (by decide) (hts _ mm_X4_addPlace_2) (fun _ hh => hh) rfl dX4_addPlace_32 ?_
  refine zz_top (v := (nI gc)) (by show st4 (36 + 20 * i) 5 = _; rw [est4, up2_ne (r := (36 + 20 * i + 3)) (k := gc) (a := (36 + 20 * i)) (j := 5) _ _ (by omega), est2, up2_ne (r := (36 + 20 * i + 2)) (k := gc) (a := (36 + 20 * i)) (j := 5) _ _ (by omega), hgc]) ?_
  refine lv_iconst (v := 1) hx hb dX4_addPlace_35 (by decide) ?_
  refine lv_iadd hx hb dX4_addPlace_36 ?_
  refine zz_top (v := nI (gc + 1)) (nI_add gc 1) ?_
  refine va_put (D := (dC, dI)) (ci := 5) (v := .int (nI (gc + 1))) (ty := .int) (C := RX4) (T := TX4) (N := 12) hx hb hts ii_X4_addPlace_X4 tyX4 tyX4_ok nmX4 hown hK hP (xD hN _ _ _ _ _ _) hS (36 + 20 * i) (xw_is (r := (36 + 20 * i)) (by omega) (xc_pk (i := i) (o := 0) (by omega) (by omega))) rfl 5 (by decide) (hts _ mm_X4_addPlace_2) (fun _ hh => hh) rfl (by decide +kernel) rfl rfl (Nat.le_of_ble_eq_true rfl) dX4_addPlace_37 (fun H locs hP _ hS => ?_)
  have hP : va_P (dC, dI) vwCl (xw A C nb (up2 st4 (36 + 20 * i) 5 (nI (gc + 1))) sl1 so) H := by rw [← xset (r := (36 + 20 * i)) (k := 5) (v := (nI (gc + 1))) (xc_pk (i := i) (o := 0) (by omega) (by omega))]; exact hP
  obtain ⟨st5, est5⟩ : ∃ y, y = up2 st4 (36 + 20 * i) 5 (nI (gc + 1)) := ⟨_, rfl⟩
  have hG : XG [1, 2, 3, 4, 5, 6, 8, 9, 10, 11, 12, 13, 14, 15] st st5 := by rw [est5]; exact hG.up (xn (n := (gc + 1)) (b := 6) ((xrg_pk (i := i) (o := 0) (k := 5) (by omega)).trans (by first | rfl | decide)) (by omega)) (xpn (c := 7) ((xcl_pk (i := i) (o := 0) (k := 5) (by omega)).trans (by first | rfl | decide)) (by decide))
  rw [← est5] at hP
  exact W.vret hx hb hr (fun t ht hW => ⟨⟨(st5, sl1, so), rfl, ⟨hG, rfl, trivial⟩, xB.of ht hP⟩, hS.F ht⟩) hS.2.2 dX4_addPlace_40
set_option maxHeartbeats 4000000 in
set_option maxRecDepth 100000 in
theorem x_X4_addPerson (l : Launch) (dC : Nat → ClassId) (dI : Nat → Nat → Nat) (ad : Nat → Nat) (E : EP) (hEE : EC ad E) (A : Nat → Nat) (C : Nat → ClassId) (nb sz : Nat) (hN : XN A) (st : Nat → Nat → Int32) (sl : Nat → Nat → Int64) (so : Nat → XR) (i : Nat) (vw : Int64) (gc : Nat) (hi : i < 13) (hI : XI st) (hgc : st (36 + 20 * i) 6 = nI gc) (hgc2 : gc < 8) : Met l yX4_addPerson wsX4_addPerson ({ frames := 0, cells := 0, slots := 0, locals := 0 }) (va_Pc [.ref (A (36 + 20 * i)), .long vw] (xPre E dC dI A C nb sz st sl so)) (va_Qr (fun (_ : XT) => True) (fun (x : XT) (r : Nat) (t : State) => (XG [1, 2, 3, 4, 5, 6, 8, 9, 10, 11, 12, 13, 14, 15] st x.1 ∧ x.2.2 = so ∧ (∃ n : Nat, r = A (36 + 20 * i + (6 + n)) ∧ n < 8)) ∧ xB dC dI A C nb x t) (XA A sz)) 0 0 (XA A sz) := by
  refine Met.ofW (cc := cX4_addPerson) (maxL := 4) (ret := (some (.object "OffTheLead$Person"))) (by decide) rfl ?_
  intro p e s m args below meth c s₁ B hml hv
  obtain ⟨rfl, hsz, hP, hK, hE⟩ := hv
  have hx := B.exec
  have hb := B.bytes
  have hr := B.returns
  have hts := atoms_spec (ws := wsX4_addPerson) B.pre
  have hown : s.vm.findClass RX4 = some m.cls := findClass_of_methodNamed B.named
  subst hsz
  have hEv := hEE.1 _ _ _ hE
  have hS : va_S (XA A s.heap.size) s.heap s.heap [] := va_S.rf
  have hG : XG [1, 2, 3, 4, 5, 6, 8, 9, 10, 11, 12, 13, 14, 15] st st := XG.rf hI
  have hl := lv_entry ([.ref (A (36 + 20 * i)), .long vw]) (n := 4) (Nat.le_of_ble_eq_true rfl)
  rw [lg_entry_eq]
  generalize (lg_sl ([.ref (A (36 + 20 * i)), .long vw]) ++ List.replicate (4 - (lg_sl ([.ref (A (36 + 20 * i)), .long vw])).length) Slot.unset).toArray = ls at hl ⊢
  have hl : lv_has ls 4 [(0, .ref (A (36 + 20 * i))), (1, .long vw)] := hl
  refine lv_aload_n hx hb dX4_addPerson_0 rfl (lv_at hl 0 rfl) ?_
  refine va_get (D := (dC, dI)) (ci := 5) (v := .ref (A (36 + 20 * i + 4))) (C := RX4) (T := TX4) (N := 12) hx hb hts ii_X4_addPerson_X4 hown hK hP (36 + 20 * i) (xw_is (r := (36 + 20 * i)) (by omega) (xc_pk (i := i) (o := 0) (by omega) (by omega))) rfl 3 (by decide) (hts _ mm_X4_addPerson_1) (fun _ hh => hh) rfl dX4_addPerson_1 ?_
  refine lv_aload_n hx hb dX4_addPerson_4 rfl (lv_at hl 0 rfl) ?_
  refine va_get (D := (dC, dI)) (ci := 5) (v := .int (st (36 + 20 * i) 6)) (C := RX4) (T := TX4) (N := 12) hx hb hts ii_X4_addPerson_X4 hown hK hP (36 + 20 * i) (xw_is (r := (36 + 20 * i)) (by omega) (xc_pk (i := i) (o := 0) (by omega) (by omega))) rfl 6 (by decide) (hts _ mm_X4_addPerson_2) (fun _ hh => hh) rfl dX4_addPerson_5 ?_
  refine zz_top (v := (nI gc)) (by show st (36 + 20 * i) 6 = _; rw [hgc]) ?_
  refine va_aldq hx hb hK hP (36 + 20 * i + 4) (36 + 20 * i + 4) (xw_is (r := (36 + 20 * i + 4)) (by omega) (xc_pk (i := i) (o := 4) (by omega) (by omega))) (xt_is (r := (36 + 20 * i + 4)) (by omega) ((xty_pk (i := i) (o := 4) (by omega)).trans rfl)) (i := (nI gc)) (vp_in_nI (by omega) (by decide)) dX4_addPerson_8 ?_
  refine zz_topq (r := some (A (36 + 20 * i + (6 + gc)))) (by rw [nI_clamp (by omega)]; exact congrArg some (congrArg A (by omega))) ?_
  refine lv_astore_n (lv' := [(3, .ref (A (36 + 20 * i + (6 + gc)))), (0, .ref (A (36 + 20 * i))), (1, .long vw)]) hx hb dX4_addPerson_9 rfl hl (by decide) rfl (fun ls hl => ?_)
  refine lv_aload_n hx hb dX4_addPerson_10 rfl (lv_at hl 0 rfl) ?_
  refine lv_lload_n hx hb dX4_addPerson_11 rfl (lv_at hl 2 rfl) ?_
  refine va_putN (host := "OffTheLead") (D := (dC, dI)) (ci := 7) (v := .long vw) (ty := .long) (C := RX6) (T := TX6) (N := 9) hx hb hts ii_X4_addPerson_X6 tyX6 tyX6_ok nmX6 hown hK hP (xD hN _ _ _ _ _ _) hS (36 + 20 * i + (6 + gc)) (xw_is (r := (36 + 20 * i + (6 + gc))) (by omega) (xc_person (i := i) (p := gc) (by omega) (by omega))) rfl 0 (by decide) (va_Nw.use rfl (nf_X4_66 hEv)) (fun _ hh => hh) rfl (by decide +kernel) rfl rfl (Nat.le_of_ble_eq_true rfl) dX4_addPerson_12 (fun H locs hP _ hS => ?_)
  have hP : va_P (dC, dI) vwCl (xw A C nb st (upL sl (36 + 20 * i + (6 + gc)) 0 vw) so) H := by rw [← xsetL (r := (36 + 20 * i + (6 + gc))) (k := 0) (v := vw) (xc_person (i := i) (p := gc) (by omega) (by omega))]; exact hP
  obtain ⟨sl1, esl1⟩ : ∃ y, y = upL sl (36 + 20 * i + (6 + gc)) 0 vw := ⟨_, rfl⟩
  rw [← esl1] at hP
  clear esl1
  refine lv_aload_n hx hb dX4_addPerson_15 rfl (lv_at hl 0 rfl) ?_
  refine lv_iconst (v := 0) hx hb dX4_addPerson_16 (by decide) ?_
  refine va_putN (host := "OffTheLead") (D := (dC, dI)) (ci := 7) (v := .int 0) (ty := .int) (C := RX6) (T := TX6) (N := 9) hx hb hts ii_X4_addPerson_X6 tyX6 tyX6_ok nmX6 hown hK hP (xD hN _ _ _ _ _ _) hS (36 + 20 * i + (6 + gc)) (xw_is (r := (36 + 20 * i + (6 + gc))) (by omega) (xc_person (i := i) (p := gc) (by omega) (by omega))) rfl 5 (by decide) (va_Nw.use rfl (nf_X4_70 hEv)) (fun _ hh => hh) rfl (by decide +kernel) rfl rfl (Nat.le_of_ble_eq_true rfl) dX4_addPerson_17 (fun H locs hP _ hS => ?_)
  have hP : va_P (dC, dI) vwCl (xw A C nb (up2 st (36 + 20 * i + (6 + gc)) 5 0) sl1 so) H := by rw [← xset (r := (36 + 20 * i + (6 + gc))) (k := 5) (v := 0) (xc_person (i := i) (p := gc) (by omega) (by omega))]; exact hP
  obtain ⟨st2, est2⟩ : ∃ y, y = up2 st (36 + 20 * i + (6 + gc)) 5 0 := ⟨_, rfl⟩
  have hG : XG [1, 2, 3, 4, 5, 6, 8, 9, 10, 11, 12, 13, 14, 15] st st2 := by rw [est2]; exact hG.up (xz (r := (36 + 20 * i + (6 + gc))) (k := 5) ((xrg_pe (i := i) (p := gc) (by omega)).trans (by decide))) (xpn (c := 0) (xcl_pe (i := i) (p := gc) (k := 5) (by omega)) (by decide))
  rw [← est2] at hP
  refine lv_aload_n hx hb dX4_addPerson_20 rfl (lv_at hl 0 rfl) ?_
  refine lv_iconst (v := 0) hx hb dX4_addPerson_21 (by decide) ?_
  refine va_putN (host := "OffTheLead") (D := (dC, dI)) (ci := 7) (v := .int 0) (ty := .int) (C := RX6) (T := TX6) (N := 9) hx hb hts ii_X4_addPerson_X6 tyX6 tyX6_ok nmX6 hown hK hP (xD hN _ _ _ _ _ _) hS (36 + 20 * i + (6 + gc)) (xw_is (r := (36 + 20 * i + (6 + gc))) (by omega) (xc_person (i := i) (p := gc) (by omega) (by omega))) rfl 6 (by decide) (va_Nw.use rfl (nf_X4_73 hEv)) (fun _ hh => hh) rfl (by decide +kernel) rfl rfl (Nat.le_of_ble_eq_true rfl) dX4_addPerson_22 (fun H locs hP _ hS => ?_)
  have hP : va_P (dC, dI) vwCl (xw A C nb (up2 st2 (36 + 20 * i + (6 + gc)) 6 0) sl1 so) H := by rw [← xset (r := (36 + 20 * i + (6 + gc))) (k := 6) (v := 0) (xc_person (i := i) (p := gc) (by omega) (by omega))]; exact hP
  obtain ⟨st3, est3⟩ : ∃ y, y = up2 st2 (36 + 20 * i + (6 + gc)) 6 0 := ⟨_, rfl⟩
  have hG : XG [1, 2, 3, 4, 5, 6, 8, 9, 10, 11, 12, 13, 14, 15] st st3 := by rw [est3]; exact hG.up (xz (r := (36 + 20 * i + (6 + gc))) (k := 6) ((xrg_pe (i := i) (p := gc) (by omega)).trans (by decide))) (xpn (c := 0) (xcl_pe (i := i) (p := gc) (k := 6) (by omega)) (by decide))
  rw [← est3] at hP
  refine lv_aload_n hx hb dX4_addPerson_25 rfl (lv_at hl 0 rfl) ?_
  refine lv_iconst (v := 0) hx hb dX4_addPerson_26 (by decide) ?_
  refine va_putN (host := "OffTheLead") (D := (dC, dI)) (ci := 7) (v := .int 0) (ty := .int) (C := RX6) (T := TX6) (N := 9) hx hb hts ii_X4_addPerson_X6 tyX6 tyX6_ok nmX6 hown hK hP (xD hN _ _ _ _ _ _) hS (36 + 20 * i + (6 + gc)) (xw_is (r := (36 + 20 * i + (6 + gc))) (by omega) (xc_person (i := i) (p := gc) (by omega) (by omega))) rfl 7 (by decide) (va_Nw.use rfl (nf_X4_76 hEv)) (fun _ hh => hh) rfl (by decide +kernel) rfl rfl (Nat.le_of_ble_eq_true rfl) dX4_addPerson_27 (fun H locs hP _ hS => ?_)
  have hP : va_P (dC, dI) vwCl (xw A C nb (up2 st3 (36 + 20 * i + (6 + gc)) 7 0) sl1 so) H := by rw [← xset (r := (36 + 20 * i + (6 + gc))) (k := 7) (v := 0) (xc_person (i := i) (p := gc) (by omega) (by omega))]; exact hP
  obtain ⟨st4, est4⟩ : ∃ y, y = up2 st3 (36 + 20 * i + (6 + gc)) 7 0 := ⟨_, rfl⟩
  have hG : XG [1, 2, 3, 4, 5, 6, 8, 9, 10, 11, 12, 13, 14, 15] st st4 := by rw [est4]; exact hG.up (xz (r := (36 + 20 * i + (6 + gc))) (k := 7) ((xrg_pe (i := i) (p := gc) (by omega)).trans (by decide))) (xpn (c := 0) (xcl_pe (i := i) (p := gc) (k := 7) (by omega)) (by decide))
  rw [← est4] at hP
  refine lv_aload_n hx hb dX4_addPerson_30 rfl (lv_at hl 0 rfl) ?_
  refine lv_iconst (v := 0) hx hb dX4_addPerson_31 (by decide) ?_
  refine va_putN (host := "OffTheLead") (D := (dC, dI)) (ci := 7) (v := .int 0) (ty := .int) (C := RX6) (T := TX6) (N := 9) hx hb hts ii_X4_addPerson_X6 tyX6 tyX6_ok nmX6 hown hK hP (xD hN _ _ _ _ _ _) hS (36 + 20 * i + (6 + gc)) (xw_is (r := (36 + 20 * i + (6 + gc))) (by omega) (xc_person (i := i) (p := gc) (by omega) (by omega))) rfl 8 (by decide) (va_Nw.use rfl (nf_X4_77 hEv)) (fun _ hh => hh) rfl (by decide +kernel) rfl rfl (Nat.le_of_ble_eq_true rfl) dX4_addPerson_32 (fun H locs hP _ hS => ?_)
  have hP : va_P (dC, dI) vwCl (xw A C nb (up2 st4 (36 + 20 * i + (6 + gc)) 8 0) sl1 so) H := by rw [← xset (r := (36 + 20 * i + (6 + gc))) (k := 8) (v := 0) (xc_person (i := i) (p := gc) (by omega) (by omega))]; exact hP
  obtain ⟨st5, est5⟩ : ∃ y, y = up2 st4 (36 + 20 * i + (6 + gc)) 8 0 := ⟨_, rfl⟩
  have hG : XG [1, 2, 3, 4, 5, 6, 8, 9, 10, 11, 12, 13, 14, 15] st st5 := by rw [est5]; exact hG.up (xz (r := (36 + 20 * i + (6 + gc))) (k := 8) ((xrg_pe (i := i) (p := gc) (by omega)).trans (by decide))) (xpn (c := 0) (xcl_pe (i := i) (p := gc) (k := 8) (by omega)) (by decide))
  rw [← est5] at hP
  refine lv_aload_n hx hb dX4_addPerson_35 rfl (lv_at hl 1 rfl) ?_
  refine lv_dup hx hb dX4_addPerson_36 rfl ?_
  refine va_get (D := (dC, dI)) (ci := 5) (v := .int (st5 (36 + 20 * i) 6)) (C := RX4) (T := TX4) (N := 12) hx hb hts ii_X4_addPerson_X4 hown hK hP (36 + 20 * i) (xw_is (r := (36 + 20 * i)) (by omega) (xc_pk (i := i) (o := 0) (by omega) (by omega))) rfl 6 (by decide) (hts _ mm_X4_addPerson_2) (fun _ hh => hh) rfl dX4_addPerson_37 ?_
  refine zz_top (v := (nI gc)) (by show st5 (36 + 20 * i) 6 = _; rw [est5, up2_ne (r := (36 + 20 * i + (6 + gc))) (k := 8) (a := (36 + 20 * i)) (j := 6) _ _ (by omega), est4, up2_ne (r := (36 + 20 * i + (6 + gc))) (k := 7) (a := (36 + 20 * i)) (j := 6) _ _ (by omega), est3, up2_ne (r := (36 + 20 * i + (6 + gc))) (k := 6) (a := (36 + 20 * i)) (j := 6) _ _ (by omega), est2, up2_ne (r := (36 + 20 * i + (6 + gc))) (k := 5) (a := (36 + 20 * i)) (j := 6) _ _ (by omega), hgc]) ?_
  refine lv_iconst (v := 1) hx hb dX4_addPerson_40 (by decide) ?_
  refine lv_iadd hx hb dX4_addPerson_41 ?_
  refine zz_top (v := nI (gc + 1)) (nI_add gc 1) ?_
  refine va_put (D := (dC, dI)) (ci := 5) (v := .int (nI (gc + 1))) (ty := .int) (C := RX4) (T := TX4) (N := 12) hx hb hts ii_X4_addPerson_X4 tyX4 tyX4_ok nmX4 hown hK hP (xD hN _ _ _ _ _ _) hS (36 + 20 * i) (xw_is (r := (36 + 20 * i)) (by omega) (xc_pk (i := i) (o := 0) (by omega) (by omega))) rfl 6 (by decide) (hts _ mm_X4_addPerson_2) (fun _ hh => hh) rfl (by decide +kernel) rfl rfl (Nat.le_of_ble_eq_true rfl) dX4_addPerson_42 (fun H locs hP _ hS => ?_)
  have hP : va_P (dC, dI) vwCl (xw A C nb (up2 st5 (36 + 20 * i) 6 (nI (gc + 1))) sl1 so) H := by rw [← xset (r := (36 + 20 * i)) (k := 6) (v := (nI (gc + 1))) (xc_pk (i := i) (o := 0) (by omega) (by omega))]; exact hP
  obtain ⟨st6, est6⟩ : ∃ y, y = up2 st5 (36 + 20 * i) 6 (nI (gc + 1)) := ⟨_, rfl⟩
  have hG : XG [1, 2, 3, 4, 5, 6, 8, 9, 10, 11, 12, 13, 14, 15] st st6 := by rw [est6]; exact hG.up (xn (n := (gc + 1)) (b := 9) ((xrg_pk (i := i) (o := 0) (k := 6) (by omega)).trans (by first | rfl | decide)) (by omega)) (xpn (c := 7) ((xcl_pk (i := i) (o := 0) (k := 6) (by omega)).trans (by first | rfl | decide)) (by decide))
  rw [← est6] at hP
  refine lv_aload_n hx hb dX4_addPerson_45 rfl (lv_at hl 0 rfl) ?_
  exact W.aret (v := .ref (A (36 + 20 * i + (6 + gc)))) hx hb hr (Or.inl ⟨_, rfl⟩) (Or.inr ⟨_, rfl⟩) (fun t ht hW => ⟨⟨(st6, sl1, so), (A (36 + 20 * i + (6 + gc))), rfl, trivial, ⟨hG, rfl, ⟨gc, rfl, by omega⟩⟩, xB.of ht hP⟩, hS.F ht⟩) hS.2.2 dX4_addPerson_46
set_option maxHeartbeats 4000000 in
set_option maxRecDepth 100000 in
theorem x_X4_addDog (l : Launch) (dC : Nat → ClassId) (dI : Nat → Nat → Nat) (ad : Nat → Nat) (E : EP) (hEE : EC ad E) (A : Nat → Nat) (C : Nat → ClassId) (nb sz : Nat) (hN : XN A) (st : Nat → Nat → Int32) (sl : Nat → Nat → Int64) (so : Nat → XR) (i : Nat) (vw : Int64) (va : Nat) (gc : Nat) (hi : i < 13) (hva : va < 8) (hI : XI st) (hgc : st (36 + 20 * i) 7 = nI gc) (hgc2 : gc < 6) : Met l yX4_addDog wsX4_addDog ({ frames := 0, cells := 0, slots := 0, locals := 0 }) (va_Pc [.ref (A (36 + 20 * i)), .long vw, .int (nI va)] (xPre E dC dI A C nb sz st sl so)) (va_Qr (fun (_ : XT) => True) (fun (x : XT) (r : Nat) (t : State) => (XG [1, 2, 3, 4, 5, 6, 8, 9, 10, 11, 12, 13, 14, 15] st x.1 ∧ x.2.2 = so ∧ (∃ n : Nat, r = A (36 + 20 * i + (14 + n)) ∧ n < 6)) ∧ xB dC dI A C nb x t) (XA A sz)) 0 0 (XA A sz) := by
  refine Met.ofW (cc := cX4_addDog) (maxL := 5) (ret := (some (.object "OffTheLead$Dog"))) (by decide) rfl ?_
  intro p e s m args below meth c s₁ B hml hv
  obtain ⟨rfl, hsz, hP, hK, hE⟩ := hv
  have hx := B.exec
  have hb := B.bytes
  have hr := B.returns
  have hts := atoms_spec (ws := wsX4_addDog) B.pre
  have hown : s.vm.findClass RX4 = some m.cls := findClass_of_methodNamed B.named
  subst hsz
  have hEv := hEE.1 _ _ _ hE
  have hS : va_S (XA A s.heap.size) s.heap s.heap [] := va_S.rf
  have hG : XG [1, 2, 3, 4, 5, 6, 8, 9, 10, 11, 12, 13, 14, 15] st st := XG.rf hI
  have hl := lv_entry ([.ref (A (36 + 20 * i)), .long vw, .int (nI va)]) (n := 5) (Nat.le_of_ble_eq_true rfl)
  rw [lg_entry_eq]
  generalize (lg_sl ([.ref (A (36 + 20 * i)), .long vw, .int (nI va)]) ++ List.replicate (5 - (lg_sl ([.ref (A (36 + 20 * i)), .long vw, .int (nI va)])).length) Slot.unset).toArray = ls at hl ⊢
  have hl : lv_has ls 5 [(0, .ref (A (36 + 20 * i))), (1, .long vw), (3, .int (nI va))] := hl
  refine lv_aload_n hx hb dX4_addDog_0 rfl (lv_at hl 0 rfl) ?_
  refine va_get (D := (dC, dI)) (ci := 5) (v := .ref (A (36 + 20 * i + 5))) (C := RX4) (T := TX4) (N := 12) hx hb hts ii_X4_addDog_X4 hown hK hP (36 + 20 * i) (xw_is (r := (36 + 20 * i)) (by omega) (xc_pk (i := i) (o := 0) (by omega) (by omega))) rfl 4 (by decide) (hts _ mm_X4_addDog_1) (fun _ hh => hh) rfl dX4_addDog_1 ?_
  refine lv_aload_n hx hb dX4_addDog_4 rfl (lv_at hl 0 rfl) ?_
  refine va_get (D := (dC, dI)) (ci := 5) (v := .int (st (36 + 20 * i) 7)) (C := RX4) (T := TX4) (N := 12) hx hb hts ii_X4_addDog_X4 hown hK hP (36 + 20 * i) (xw_is (r := (36 + 20 * i)) (by omega) (xc_pk (i := i) (o := 0) (by omega) (by omega))) rfl 7 (by decide) (hts _ mm_X4_addDog_2) (fun _ hh => hh) rfl dX4_addDog_5 ?_
  refine zz_top (v := (nI gc)) (by show st (36 + 20 * i) 7 = _; rw [hgc]) ?_
  refine va_aldq hx hb hK hP (36 + 20 * i + 5) (36 + 20 * i + 5) (xw_is (r := (36 + 20 * i + 5)) (by omega) (xc_pk (i := i) (o := 5) (by omega) (by omega))) (xt_is (r := (36 + 20 * i + 5)) (by omega) ((xty_pk (i := i) (o := 5) (by omega)).trans rfl)) (i := (nI gc)) (vp_in_nI (by omega) (by decide)) dX4_addDog_8 ?_
  refine zz_topq (r := some (A (36 + 20 * i + (14 + gc)))) (by rw [nI_clamp (by omega)]; exact congrArg some (congrArg A (by omega))) ?_
  refine lv_astore (lv' := [(4, .ref (A (36 + 20 * i + (14 + gc)))), (0, .ref (A (36 + 20 * i))), (1, .long vw), (3, .int (nI va))]) hx hb dX4_addDog_9 hl (by decide) rfl (fun ls hl => ?_)
  refine lv_aload hx hb dX4_addDog_11 (lv_at hl 0 rfl) ?_
  refine lv_lload_n hx hb dX4_addDog_13 rfl (lv_at hl 2 rfl) ?_
  refine va_putN (host := "OffTheLead") (D := (dC, dI)) (ci := 3) (v := .long vw) (ty := .long) (C := RX2) (T := TX2) (N := 7) hx hb hts ii_X4_addDog_X2 tyX2 tyX2_ok nmX2 hown hK hP (xD hN _ _ _ _ _ _) hS (36 + 20 * i + (14 + gc)) (xw_is (r := (36 + 20 * i + (14 + gc))) (by omega) (xc_dog (i := i) (p := gc) (by omega) (by omega))) rfl 0 (by decide) (va_Nw.use rfl (nf_X4_79 hEv)) (fun _ hh => hh) rfl (by decide +kernel) rfl rfl (Nat.le_of_ble_eq_true rfl) dX4_addDog_14 (fun H locs hP _ hS => ?_)
  have hP : va_P (dC, dI) vwCl (xw A C nb st (upL sl (36 + 20 * i + (14 + gc)) 0 vw) so) H := by rw [← xsetL (r := (36 + 20 * i + (14 + gc))) (k := 0) (v := vw) (xc_dog (i := i) (p := gc) (by omega) (by omega))]; exact hP
  obtain ⟨sl1, esl1⟩ : ∃ y, y = upL sl (36 + 20 * i + (14 + gc)) 0 vw := ⟨_, rfl⟩
  rw [← esl1] at hP
  clear esl1
  refine lv_aload hx hb dX4_addDog_17 (lv_at hl 0 rfl) ?_
  refine lv_iload_n hx hb dX4_addDog_19 rfl (lv_at hl 3 rfl) ?_
  refine va_putN (host := "OffTheLead") (D := (dC, dI)) (ci := 3) (v := .int (nI va)) (ty := .int) (C := RX2) (T := TX2) (N := 7) hx hb hts ii_X4_addDog_X2 tyX2 tyX2_ok nmX2 hown hK hP (xD hN _ _ _ _ _ _) hS (36 + 20 * i + (14 + gc)) (xw_is (r := (36 + 20 * i + (14 + gc))) (by omega) (xc_dog (i := i) (p := gc) (by omega) (by omega))) rfl 1 (by decide) (va_Nw.use rfl (nf_X4_80 hEv)) (fun _ hh => hh) rfl (by decide +kernel) rfl rfl (Nat.le_of_ble_eq_true rfl) dX4_addDog_20 (fun H locs hP _ hS => ?_)
  have hP : va_P (dC, dI) vwCl (xw A C nb (up2 st (36 + 20 * i + (14 + gc)) 1 (nI va)) sl1 so) H := by rw [← xset (r := (36 + 20 * i + (14 + gc))) (k := 1) (v := (nI va)) (xc_dog (i := i) (p := gc) (by omega) (by omega))]; exact hP
  obtain ⟨st2, est2⟩ : ∃ y, y = up2 st (36 + 20 * i + (14 + gc)) 1 (nI va) := ⟨_, rfl⟩
  have hG : XG [1, 2, 3, 4, 5, 6, 8, 9, 10, 11, 12, 13, 14, 15] st st2 := by rw [est2]; exact hG.up (xn (n := va) (b := 8) ((xrg_do (i := i) (p := gc) (by omega)).trans (by decide)) (by omega)) (xpn (c := 0) (xcl_do (i := i) (p := gc) (k := 1) (by omega)) (by decide))
  rw [← est2] at hP
  refine lv_aload hx hb dX4_addDog_23 (lv_at hl 0 rfl) ?_
  refine lv_iconst (v := 0) hx hb dX4_addDog_25 (by decide) ?_
  refine va_putN (host := "OffTheLead") (D := (dC, dI)) (ci := 3) (v := .int 0) (ty := .boolean) (C := RX2) (T := TX2) (N := 7) hx hb hts ii_X4_addDog_X2 tyX2 tyX2_ok nmX2 hown hK hP (xD hN _ _ _ _ _ _) hS (36 + 20 * i + (14 + gc)) (xw_is (r := (36 + 20 * i + (14 + gc))) (by omega) (xc_dog (i := i) (p := gc) (by omega) (by omega))) rfl 4 (by decide) (va_Nw.use rfl (nf_X4_83 hEv)) (fun _ hh => hh) rfl (by decide +kernel) rfl rfl (Nat.le_of_ble_eq_true rfl) dX4_addDog_26 (fun H locs hP _ hS => ?_)
  have hP : va_P (dC, dI) vwCl (xw A C nb (up2 st2 (36 + 20 * i + (14 + gc)) 4 0) sl1 so) H := by rw [← xset (r := (36 + 20 * i + (14 + gc))) (k := 4) (v := 0) (xc_dog (i := i) (p := gc) (by omega) (by omega))]; exact hP
  obtain ⟨st3, est3⟩ : ∃ y, y = up2 st2 (36 + 20 * i + (14 + gc)) 4 0 := ⟨_, rfl⟩
  have hG : XG [1, 2, 3, 4, 5, 6, 8, 9, 10, 11, 12, 13, 14, 15] st st3 := by rw [est3]; exact hG.up (xn (n := 0) (b := 2) ((xrg_do (i := i) (p := gc) (by omega)).trans (by decide)) (by omega)) (xpn (c := 0) (xcl_do (i := i) (p := gc) (k := 4) (by omega)) (by decide))
  rw [← est3] at hP
  refine lv_aload hx hb dX4_addDog_29 (lv_at hl 0 rfl) ?_
  refine lv_iconst (v := 0) hx hb dX4_addDog_31 (by decide) ?_
  refine va_putN (host := "OffTheLead") (D := (dC, dI)) (ci := 3) (v := .int 0) (ty := .int) (C := RX2) (T := TX2) (N := 7) hx hb hts ii_X4_addDog_X2 tyX2 tyX2_ok nmX2 hown hK hP (xD hN _ _ _ _ _ _) hS (36 + 20 * i + (14 + gc)) (xw_is (r := (36 + 20 * i + (14 + gc))) (by omega) (xc_dog (i := i) (p := gc) (by omega) (by omega))) rfl 5 (by decide) (va_Nw.use rfl (nf_X4_87 hEv)) (fun _ hh => hh) rfl (by decide +kernel) rfl rfl (Nat.le_of_ble_eq_true rfl) dX4_addDog_32 (fun H locs hP _ hS => ?_)
  have hP : va_P (dC, dI) vwCl (xw A C nb (up2 st3 (36 + 20 * i + (14 + gc)) 5 0) sl1 so) H := by rw [← xset (r := (36 + 20 * i + (14 + gc))) (k := 5) (v := 0) (xc_dog (i := i) (p := gc) (by omega) (by omega))]; exact hP
  obtain ⟨st4, est4⟩ : ∃ y, y = up2 st3 (36 + 20 * i + (14 + gc)) 5 0 := ⟨_, rfl⟩
  have hG : XG [1, 2, 3, 4, 5, 6, 8, 9, 10, 11, 12, 13, 14, 15] st st4 := by rw [est4]; exact hG.up (xz (r := (36 + 20 * i + (14 + gc))) (k := 5) ((xrg_do (i := i) (p := gc) (by omega)).trans (by decide))) (xpn (c := 0) (xcl_do (i := i) (p := gc) (k := 5) (by omega)) (by decide))
  rw [← est4] at hP
  refine lv_aload hx hb dX4_addDog_35 (lv_at hl 0 rfl) ?_
  refine lv_iconst (v := 0) hx hb dX4_addDog_37 (by decide) ?_
  refine va_putN (host := "OffTheLead") (D := (dC, dI)) (ci := 3) (v := .int 0) (ty := .int) (C := RX2) (T := TX2) (N := 7) hx hb hts ii_X4_addDog_X2 tyX2 tyX2_ok nmX2 hown hK hP (xD hN _ _ _ _ _ _) hS (36 + 20 * i + (14 + gc)) (xw_is (r := (36 + 20 * i + (14 + gc))) (by omega) (xc_dog (i := i) (p := gc) (by omega) (by omega))) rfl 6 (by decide) (va_Nw.use rfl (nf_X4_90 hEv)) (fun _ hh => hh) rfl (by decide +kernel) rfl rfl (Nat.le_of_ble_eq_true rfl) dX4_addDog_38 (fun H locs hP _ hS => ?_)
  have hP : va_P (dC, dI) vwCl (xw A C nb (up2 st4 (36 + 20 * i + (14 + gc)) 6 0) sl1 so) H := by rw [← xset (r := (36 + 20 * i + (14 + gc))) (k := 6) (v := 0) (xc_dog (i := i) (p := gc) (by omega) (by omega))]; exact hP
  obtain ⟨st5, est5⟩ : ∃ y, y = up2 st4 (36 + 20 * i + (14 + gc)) 6 0 := ⟨_, rfl⟩
  have hG : XG [1, 2, 3, 4, 5, 6, 8, 9, 10, 11, 12, 13, 14, 15] st st5 := by rw [est5]; exact hG.up (xz (r := (36 + 20 * i + (14 + gc))) (k := 6) ((xrg_do (i := i) (p := gc) (by omega)).trans (by decide))) (xpn (c := 0) (xcl_do (i := i) (p := gc) (k := 6) (by omega)) (by decide))
  rw [← est5] at hP
  refine lv_aload_n hx hb dX4_addDog_41 rfl (lv_at hl 1 rfl) ?_
  refine va_get (D := (dC, dI)) (ci := 5) (v := .ref (A (36 + 20 * i + 4))) (C := RX4) (T := TX4) (N := 12) hx hb hts ii_X4_addDog_X4 hown hK hP (36 + 20 * i) (xw_is (r := (36 + 20 * i)) (by omega) (xc_pk (i := i) (o := 0) (by omega) (by omega))) rfl 3 (by decide) (hts _ mm_X4_addDog_3) (fun _ hh => hh) rfl dX4_addDog_42 ?_
  refine lv_iload_n hx hb dX4_addDog_45 rfl (lv_at hl 3 rfl) ?_
  refine va_aldq hx hb hK hP (36 + 20 * i + 4) (36 + 20 * i + 4) (xw_is (r := (36 + 20 * i + 4)) (by omega) (xc_pk (i := i) (o := 4) (by omega) (by omega))) (xt_is (r := (36 + 20 * i + 4)) (by omega) ((xty_pk (i := i) (o := 4) (by omega)).trans rfl)) (i := (nI va)) (vp_in_nI (by omega) (by decide)) dX4_addDog_46 ?_
  refine zz_topq (r := some (A (36 + 20 * i + (6 + va)))) (by rw [nI_clamp (by omega)]; exact congrArg some (congrArg A (by omega))) ?_
  refine lv_dup hx hb dX4_addDog_47 rfl ?_
  refine va_getN (host := "OffTheLead") (D := (dC, dI)) (ci := 7) (v := .int (st5 (36 + 20 * i + (6 + va)) 8)) (C := RX6) (T := TX6) (N := 9) hx hb hts ii_X4_addDog_X6 hown hK hP (36 + 20 * i + (6 + va)) (xw_is (r := (36 + 20 * i + (6 + va))) (by omega) (xc_person (i := i) (p := va) (by omega) (by omega))) rfl 8 (by decide) (va_Nw.use rfl (nf_X4_77 hEv)) (fun _ hh => hh) rfl dX4_addDog_48 ?_
  obtain ⟨z6, ez6⟩ : ∃ y : Int32, st5 (36 + 20 * i + (6 + va)) 8 = y := ⟨_, rfl⟩
  refine zz_top (v := z6) (by exact ez6) ?_
  refine lv_iconst (v := 1) hx hb dX4_addDog_51 (by decide) ?_
  refine lv_aload_n hx hb dX4_addDog_52 rfl (lv_at hl 1 rfl) ?_
  refine va_get (D := (dC, dI)) (ci := 5) (v := .int (st5 (36 + 20 * i) 7)) (C := RX4) (T := TX4) (N := 12) hx hb hts ii_X4_addDog_X4 hown hK hP (36 + 20 * i) (xw_is (r := (36 + 20 * i)) (by omega) (xc_pk (i := i) (o := 0) (by omega) (by omega))) rfl 7 (by decide) (hts _ mm_X4_addDog_2) (fun _ hh => hh) rfl dX4_addDog_53 ?_
  refine zz_top (v := (nI gc)) (by show st5 (36 + 20 * i) 7 = _; rw [est5, up2_ne (r := (36 + 20 * i + (14 + gc))) (k := 6) (a := (36 + 20 * i)) (j := 7) _ _ (by omega), est4, up2_ne (r := (36 + 20 * i + (14 + gc))) (k := 5) (a := (36 + 20 * i)) (j := 7) _ _ (by omega), est3, up2_ne (r := (36 + 20 * i + (14 + gc))) (k := 4) (a := (36 + 20 * i)) (j := 7) _ _ (by omega), est2, up2_ne (r := (36 + 20 * i + (14 + gc))) (k := 1) (a := (36 + 20 * i)) (j := 7) _ _ (by omega), hgc]) ?_
  refine lv_ishl hx hb dX4_addDog_56 ?_
  refine lv_topi (fun z7 ez7 => ?_)
  clear ez7
  refine lv_ior hx hb dX4_addDog_57 ?_
  refine lv_topi (fun z8 ez8 => ?_)
  clear ez8
  refine va_putN (host := "OffTheLead") (D := (dC, dI)) (ci := 7) (v := .int z8) (ty := .int) (C := RX6) (T := TX6) (N := 9) hx hb hts ii_X4_addDog_X6 tyX6 tyX6_ok nmX6 hown hK hP (xD hN _ _ _ _ _ _) hS (36 + 20 * i + (6 + va)) (xw_is (r := (36 + 20 * i + (6 + va))) (by omega) (xc_person (i := i) (p := va) (by omega) (by omega))) rfl 8 (by decide) (va_Nw.use rfl (nf_X4_77 hEv)) (fun _ hh => hh) rfl (by decide +kernel) rfl rfl (Nat.le_of_ble_eq_true rfl) dX4_addDog_58 (fun H locs hP _ hS => ?_)
  have hP : va_P (dC, dI) vwCl (xw A C nb (up2 st5 (36 + 20 * i + (6 + va)) 8 z8) sl1 so) H := by rw [← xset (r := (36 + 20 * i + (6 + va))) (k := 8) (v := z8) (xc_person (i := i) (p := va) (by omega) (by omega))]; exact hP
  obtain ⟨st9, est9⟩ : ∃ y, y = up2 st5 (36 + 20 * i + (6 + va)) 8 z8 := ⟨_, rfl⟩
  have hG : XG [1, 2, 3, 4, 5, 6, 8, 9, 10, 11, 12, 13, 14, 15] st st9 := by rw [est9]; exact hG.up (xz (r := (36 + 20 * i + (6 + va))) (k := 8) ((xrg_pe (i := i) (p := va) (by omega)).trans (by decide))) (xpn (c := 0) (xcl_pe (i := i) (p := va) (k := 8) (by omega)) (by decide))
  rw [← est9] at hP
  refine lv_aload_n hx hb dX4_addDog_61 rfl (lv_at hl 1 rfl) ?_
  refine lv_dup hx hb dX4_addDog_62 rfl ?_
  refine va_get (D := (dC, dI)) (ci := 5) (v := .int (st9 (36 + 20 * i) 7)) (C := RX4) (T := TX4) (N := 12) hx hb hts ii_X4_addDog_X4 hown hK hP (36 + 20 * i) (xw_is (r := (36 + 20 * i)) (by omega) (xc_pk (i := i) (o := 0) (by omega) (by omega))) rfl 7 (by decide) (hts _ mm_X4_addDog_2) (fun _ hh => hh) rfl dX4_addDog_63 ?_
  refine zz_top (v := (nI gc)) (by show st9 (36 + 20 * i) 7 = _; rw [est9, up2_ne (r := (36 + 20 * i + (6 + va))) (k := 8) (a := (36 + 20 * i)) (j := 7) _ _ (by omega), est5, up2_ne (r := (36 + 20 * i + (14 + gc))) (k := 6) (a := (36 + 20 * i)) (j := 7) _ _ (by omega), est4, up2_ne (r := (36 + 20 * i + (14 + gc))) (k := 5) (a := (36 + 20 * i)) (j := 7) _ _ (by omega), est3, up2_ne (r := (36 + 20 * i + (14 + gc))) (k := 4) (a := (36 + 20 * i)) (j := 7) _ _ (by omega), est2, up2_ne (r := (36 + 20 * i + (14 + gc))) (k := 1) (a := (36 + 20 * i)) (j := 7) _ _ (by omega), hgc]) ?_
  refine lv_iconst (v := 1) hx hb dX4_addDog_66 (by decide) ?_
  refine lv_iadd hx hb dX4_addDog_67 ?_
  refine zz_top (v := nI (gc + 1)) (nI_add gc 1) ?_
  refine va_put (D := (dC, dI)) (ci := 5) (v := .int (nI (gc + 1))) (ty := .int) (C := RX4) (T := TX4) (N := 12) hx hb hts ii_X4_addDog_X4 tyX4 tyX4_ok nmX4 hown hK hP (xD hN _ _ _ _ _ _) hS (36 + 20 * i) (xw_is (r := (36 + 20 * i)) (by omega) (xc_pk (i := i) (o := 0) (by omega) (by omega))) rfl 7 (by decide) (hts _ mm_X4_addDog_2) (fun _ hh => hh) rfl (by decide +kernel) rfl rfl (Nat.le_of_ble_eq_true rfl) dX4_addDog_68 (fun H locs hP _ hS => ?_)
  have hP : va_P (dC, dI) vwCl (xw A C nb (up2 st9 (36 + 20 * i) 7 (nI (gc + 1))) sl1 so) H := by rw [← xset (r := (36 + 20 * i)) (k := 7) (v := (nI (gc + 1))) (xc_pk (i := i) (o := 0) (by omega) (by omega))]; exact hP
  obtain ⟨st10, est10⟩ : ∃ y, y = up2 st9 (36 + 20 * i) 7 (nI (gc + 1)) := ⟨_, rfl⟩
  have hG : XG [1, 2, 3, 4, 5, 6, 8, 9, 10, 11, 12, 13, 14, 15] st st10 := by rw [est10]; exact hG.up (xn (n := (gc + 1)) (b := 7) ((xrg_pk (i := i) (o := 0) (k := 7) (by omega)).trans (by first | rfl | decide)) (by omega)) (xpn (c := 7) ((xcl_pk (i := i) (o := 0) (k := 7) (by omega)).trans (by first | rfl | decide)) (by decide))
  rw [← est10] at hP
  refine lv_aload hx hb dX4_addDog_71 (lv_at hl 0 rfl) ?_
  exact W.aret (v := .ref (A (36 + 20 * i + (14 + gc)))) hx hb hr (Or.inl ⟨_, rfl⟩) (Or.inr ⟨_, rfl⟩) (fun t ht hW => ⟨⟨(st10, sl1, so), (A (36 + 20 * i + (14 + gc))), rfl, trivial, ⟨hG, rfl, ⟨gc, rfl, by omega⟩⟩, xB.of ht hP⟩, hS.F ht⟩) hS.2.2 dX4_addDog_73
set_option maxHeartbeats 4000000 in
set_option maxRecDepth 100000 in
theorem x_X5_readPlace (l : Launch) (dC : Nat → ClassId) (dI : Nat → Nat → Nat) (ad : Nat → Nat) (E : EP) (hEE : EC ad E) (A : Nat → Nat) (C : Nat → ClassId) (nb sz : Nat) (hN : XN A) (st : Nat → Nat → Int32) (sl : Nat → Nat → Int64) (so : Nat → XR) (hI : XI st) (hOI : OI ad so) : Met l yX5_readPlace wsX5_readPlace ({ frames := 7, cells := 0, slots := 0, locals := 151 }) (va_Pc [.ref (A 3), .ref (A 1), .ref (A (36 + 20 * 1))] (xPre E dC dI A C nb sz st sl so)) (va_Qi (fun (r : Int32) (x : XT) => XG [1, 2, 3, 4, 5, 6, 8, 9, 12, 13, 14, 15] st x.1 ∧ OG ad [2, 3, 4] so x.2.2 ∧ ((r = 1) ∨ (r = 0 ∧ ¬ x.1 1 13 = 0))) (xB dC dI A C nb) (XA A sz)) 0 0 (XA A sz) := by
  refine Met.ofW (cc := cX5_readPlace) (maxL := 4) (ret := (some .boolean)) (by decide) rfl ?_
  intro p e s m args below meth c s₁ B hml hv
  obtain ⟨rfl, hsz, hP, hK, hE⟩ := hv
  have hx := B.exec
  have hb := B.bytes
  have hr := B.returns
  have hts := atoms_spec (ws := wsX5_readPlace) B.pre
  have hown : s.vm.findClass RX5 = some m.cls := findClass_of_methodNamed B.named
  subst hsz
  have hEv := hEE.1 _ _ _ hE
  have hS : va_S (XA A s.heap.size) s.heap s.heap [] := va_S.rf
  have hG : XG [1, 2, 3, 4, 5, 6, 8, 9, 12, 13, 14, 15] st st := XG.rf hI
  have hO : OG ad [2, 3, 4] so so := OG.rf hOI
  have hl := lv_entry ([.ref (A 3), .ref (A 1), .ref (A (36 + 20 * 1))]) (n := 4) (Nat.le_of_ble_eq_true rfl)
  rw [lg_entry_eq]
  generalize (lg_sl ([.ref (A 3), .ref (A 1), .ref (A (36 + 20 * 1))]) ++ List.replicate (4 - (lg_sl ([.ref (A 3), .ref (A 1), .ref (A (36 + 20 * 1))])).length) Slot.unset).toArray = ls at hl ⊢
  have hl : lv_has ls 4 [(0, .ref (A 3)), (1, .ref (A 1)), (2, .ref (A (36 + 20 * 1)))] := hl
  refine lv_aload_n hx hb dX5_readPlace_0 rfl (lv_at hl 2 rfl) ?_
  refine va_getN (host := "OffTheLead") (D := (dC, dI)) (ci := 5) (v := .int (st (36 + 20 * 1) 5)) (C := RX4) (T := TX4) (N := 12) hx hb hts ii_X5_readPlace_X4 hown hK hP (36 + 20 * 1) (xw_is (r := (36 + 20 * 1)) (by omega) (xc_pk (i := 1) (o := 0) (by omega) (by omega))) rfl 5 (by decide) (va_Nw.use rfl (nf_X5_70 hEv)) (fun _ hh => hh) rfl dX5_readPlace_1 ?_
  obtain ⟨n1, hn1, en1⟩ := hG.1.at (r := (36 + 20 * 1)) (k := 5) (b := 6) ((xrg_pk (i := 1) (o := 0) (k := 5) (by omega)).trans (by first | rfl | decide)) (by decide)
  refine zz_top (v := nI n1) (by exact en1) ?_
  refine lv_iconst (v := 5) hx hb dX5_readPlace_4 (by decide) ?_
  refine lv_icmp_lt (tgt := 14) hx hb dX5_readPlace_5 (by decide) (fun c1 => ?_) (fun c1 => ?_)
  · have c1 : n1 < 5 := (nI_ltI (a := n1) (b := 5) (by omega) (by omega)).mp c1
    refine lv_aload_n hx hb dX5_readPlace_14 rfl (lv_at hl 1 rfl) ?_
    refine va_callv (va_runV (As := []) (rest := []) ⟨hx, hb, hml, hown, hts⟩ (x_X8_step l dC dI ad E hEE A C nb _ hN st sl so  hG.1 hO.1) (cwV 0 hts gX5_readPlace_X8_step rfl rfl rfl (by decide +kernel) ⟨Nat.le_of_ble_eq_true rfl, Nat.le_of_ble_eq_true rfl⟩) ⟨fun a U g mk q => ⟨q.1, xPre.blind hEE q.2⟩, va_recv hK hP (ci := 9) (q0 := 1) rfl (xw_is (r := 1) (by omega) (xc_fix (r := 1) (by omega))), fun U hU hW => ⟨rfl, xPre.of hEE hP hK hE hS hU hW⟩⟩ rfl rfl hl.1 rfl (lv_room (Nat.le_of_ble_eq_true rfl)) dX5_readPlace_15 ⟨Nat.le_of_ble_eq_true rfl, Nat.le_of_ble_eq_true rfl⟩) hS (fun q _ h => XA.le hS.1 q h) (XA.le hS.1) (fun x t H locs ht hvm hw hB _ _ hS => ?_)
    have hP := xB.at ht hB
    clear hB ht hvm
    obtain ⟨st3, sl4, so5⟩ := x
    obtain ⟨hGst3, hLGst3, hOst3, hw⟩ := hw
    dsimp only at hGst3 hLGst3 hOst3 hw
    have hO : OG ad [2, 3, 4] so so5 := hO.tr hOst3 (by decide)
    have hP : va_P (dC, dI) vwCl (xw A C nb st3 sl4 so5) _ := hP
    have hG : XG [1, 2, 3, 4, 5, 6, 8, 9, 12, 13, 14, 15] st st3 := hG.tr hGst3 (by decide)
    clear hw
    refine lv_aload_n hx hb dX5_readPlace_18 rfl (lv_at hl 1 rfl) ?_
    refine lv_aload_n hx hb dX5_readPlace_19 rfl (lv_at hl 2 rfl) ?_
    refine va_calli (va_runV (As := [.ref (A (36 + 20 * 1))]) (rest := []) ⟨hx, hb, hml, hown, hts⟩ (x_X8_takeNewName l dC dI ad E hEE A C nb _ hN st3 sl4 so5 1 (by omega) hG.1 hO.1) (cwV 1 hts gX5_readPlace_X8_takeNewName rfl rfl rfl (by decide +kernel) ⟨Nat.le_of_ble_eq_true rfl, Nat.le_of_ble_eq_true rfl⟩) ⟨fun a U g mk q => ⟨q.1, xPre.blind hEE q.2⟩, va_recv hK hP (ci := 9) (q0 := 1) rfl (xw_is (r := 1) (by omega) (xc_fix (r := 1) (by omega))), fun U hU hW => ⟨rfl, xPre.of hEE hP hK hE hS hU hW⟩⟩ rfl rfl hl.1 rfl (lv_room (Nat.le_of_ble_eq_true rfl)) dX5_readPlace_20 ⟨Nat.le_of_ble_eq_true rfl, Nat.le_of_ble_eq_true rfl⟩) hS (fun q _ h => XA.le hS.1 q h) (XA.le hS.1) (fun r6 x t H locs ht hvm hw hB _ _ hS => ?_)
    have hP := xB.at ht hB
    clear hB ht hvm
    obtain ⟨st7, sl8, so9⟩ := x
    obtain ⟨hGst7, hLGst7, hOst7, hw⟩ := hw
    dsimp only at hGst7 hLGst7 hOst7 hw
    have hO : OG ad [2, 3, 4] so so9 := hO.tr hOst7 (by decide)
    have hP : va_P (dC, dI) vwCl (xw A C nb st7 sl8 so9) _ := hP
    have hG : XG [1, 2, 3, 4, 5, 6, 8, 9, 12, 13, 14, 15] st st7 := hG.tr hGst7 (by decide)
    rcases hw with rfl | ⟨rfl, hf10⟩
    · refine lv_if_ne (tgt := 28) hx hb dX5_readPlace_23 (by decide) (fun _ => ?_) (fun cc => absurd cc (by decide))
      refine lv_aload_n hx hb dX5_readPlace_28 rfl (lv_at hl 1 rfl) ?_
      refine va_getN (host := "OffTheLead") (D := (dC, dI)) (ci := 9) (v := va_rf (so9 1 7)) (C := RX8) (T := TX8) (N := 15) hx hb hts ii_X5_readPlace_X8 hown hK hP 1 (xw_is (r := 1) (by omega) (xc_fix (r := 1) (by omega))) rfl 7 (by decide) (va_Nw.use rfl (nf_X5_29 hEv)) (fun _ hh => hh) rfl dX5_readPlace_29 ?_
      obtain ⟨j11, hj11, ej11⟩ := hO.1.2
      refine zz_topq (r := some (ad j11)) (by rw [ej11]) ?_
      refine va_gets (v := .ref (ad 1)) hx hb (EV.word hEv (i := 1) (by decide)) hS hown (hts _ mm_X5_readPlace_1) (fun _ hh => hh) dX5_readPlace_32 ?_
      refine lv_acmp_ne (rx := (some (ad j11))) (ry := (some (ad 1))) (tgt := 42) hx hb dX5_readPlace_35 (by decide) (fun c3 => ?_) (fun c3 => ?_)
      · have c3 : ¬ j11 = 1 := fun hh => c3 ((EV.eqw hEv (i := j11) (j := 1) (by omega) (by omega)).mpr hh)
        refine lv_iconst (v := 0) hx hb dX5_readPlace_42 (by decide) ?_
        refine lv_istore_n (lv' := [(3, .int 0), (0, .ref (A 3)), (1, .ref (A 1)), (2, .ref (A (36 + 20 * 1)))]) hx hb dX5_readPlace_43 rfl hl (by decide) rfl (fun ls hl => ?_)
        refine lv_iload_n hx hb dX5_readPlace_44 rfl (lv_at hl 0 rfl) ?_
        refine lv_if_eq (tgt := 52) hx hb dX5_readPlace_45 (by decide) (fun _ => ?_) (fun cc => absurd (by decide) cc)
        refine lv_aload_n hx hb dX5_readPlace_52 rfl (lv_at hl 3 rfl) ?_
        refine lv_aload_n hx hb dX5_readPlace_53 rfl (lv_at hl 2 rfl) ?_
        refine va_getN (host := "OffTheLead") (D := (dC, dI)) (ci := 9) (v := .long (sl8 1 10)) (C := RX8) (T := TX8) (N := 15) hx hb hts ii_X5_readPlace_X8 hown hK hP 1 (xw_is (r := 1) (by omega) (xc_fix (r := 1) (by omega))) rfl 10 (by decide) (va_Nw.use rfl (nf_X5_83 hEv)) (fun _ hh => hh) rfl dX5_readPlace_54 ?_
        refine lv_topl (fun z12 ez12 => ?_)
        clear ez12
        refine lv_iload_n hx hb dX5_readPlace_57 rfl (lv_at hl 0 rfl) ?_
        refine va_callv (va_runV (As := [.long z12, .int 0]) (rest := []) ⟨hx, hb, hml, hown, hts⟩ (x_X4_addPlace l dC dI ad E hEE A C nb _ hN st7 sl8 so9 1 z12 0 n1 (by omega) hG.1 (by rw [hGst7.2 (36 + 20 * 1) 5 (by rw [((xcl_pk (i := 1) (o := 0) (k := 5) (by omega)).trans (by first | rfl | decide))]; decide), hGst3.2 (36 + 20 * 1) 5 (by rw [((xcl_pk (i := 1) (o := 0) (k := 5) (by omega)).trans (by first | rfl | decide))]; decide), en1]) (by omega)) (cwV 2 hts gX5_readPlace_X4_addPlace rfl rfl rfl (by decide +kernel) ⟨Nat.le_of_ble_eq_true rfl, Nat.le_of_ble_eq_true rfl⟩) ⟨fun a U g mk q => ⟨q.1, xPre.blind hEE q.2⟩, va_recv hK hP (ci := 5) (q0 := (36 + 20 * 1)) rfl (xw_is (r := (36 + 20 * 1)) (by omega) (xc_pk (i := 1) (o := 0) (by omega) (by omega))), fun U hU hW => ⟨rfl, xPre.of hEE hP hK hE hS hU hW⟩⟩ rfl rfl hl.1 rfl (lv_room (Nat.le_of_ble_eq_true rfl)) dX5_readPlace_58 ⟨Nat.le_of_ble_eq_true rfl, Nat.le_of_ble_eq_true rfl⟩) hS (fun q _ h => XA.le hS.1 q h) (XA.le hS.1) (fun x t H locs ht hvm hw hB _ _ hS => ?_)
        have hP := xB.at ht hB
        clear hB ht hvm
        obtain ⟨st14, sl15, so16⟩ := x
        obtain ⟨hGst14, hOst14, hw⟩ := hw
        dsimp only at hGst14 hOst14 hw
        replace hOst14 := hOst14.symm
        subst hOst14
        have hP : va_P (dC, dI) vwCl (xw A C nb st14 sl15 so9) _ := hP
        have hG : XG [1, 2, 3, 4, 5, 6, 8, 9, 12, 13, 14, 15] st st14 := hG.tr hGst14 (by decide)
        clear hw
        refine lv_aload_n hx hb dX5_readPlace_61 rfl (lv_at hl 2 rfl) ?_
        refine lv_bipush (v := 59) hx hb dX5_readPlace_62 (by decide) ?_
        refine va_calli (va_runV (As := [.int 59]) (rest := []) ⟨hx, hb, hml, hown, hts⟩ (x_X8_takeMark l dC dI ad E hEE A C nb _ hN st14 sl15 so9 59  hG.1 hO.1) (cwV 1 hts gX5_readPlace_X8_takeMark rfl rfl rfl (by decide +kernel) ⟨Nat.le_of_ble_eq_true rfl, Nat.le_of_ble_eq_true rfl⟩) ⟨fun a U g mk q => ⟨q.1, xPre.blind hEE q.2⟩, va_recv hK hP (ci := 9) (q0 := 1) rfl (xw_is (r := 1) (by omega) (xc_fix (r := 1) (by omega))), fun U hU hW => ⟨rfl, xPre.of hEE hP hK hE hS hU hW⟩⟩ rfl rfl hl.1 rfl (lv_room (Nat.le_of_ble_eq_true rfl)) dX5_readPlace_64 ⟨Nat.le_of_ble_eq_true rfl, Nat.le_of_ble_eq_true rfl⟩) hS (fun q _ h => XA.le hS.1 q h) (XA.le hS.1) (fun r17 x t H locs ht hvm hw hB _ _ hS => ?_)
        have hP := xB.at ht hB
        clear hB ht hvm
        obtain ⟨st18, sl19, so20⟩ := x
        obtain ⟨hGst18, hLGst18, hOst18, hw⟩ := hw
        dsimp only at hGst18 hLGst18 hOst18 hw
        have hO : OG ad [2, 3, 4] so so20 := hO.tr hOst18 (by decide)
        have hP : va_P (dC, dI) vwCl (xw A C nb st18 sl19 so20) _ := hP
        have hG : XG [1, 2, 3, 4, 5, 6, 8, 9, 12, 13, 14, 15] st st18 := hG.tr hGst18 (by decide)
        rcases hw with rfl | ⟨rfl, hf21⟩
        · exact W.zret (v := 1) hx hb hr rfl (fun t ht hW => ⟨⟨1, (st18, sl19, so20), rfl, ⟨hG, hO, Or.inl (rfl)⟩, xB.of ht hP⟩, hS.F ht⟩) hS.2.2 dX5_readPlace_67
        · exact W.zret (v := 0) hx hb hr rfl (fun t ht hW => ⟨⟨0, (st18, sl19, so20), rfl, ⟨hG, hO, Or.inr (⟨rfl, by show ¬ st18 1 13 = 0; exact hf21⟩)⟩, xB.of ht hP⟩, hS.F ht⟩) hS.2.2 dX5_readPlace_67
      · have c3 : j11 = 1 := (EV.eqw hEv (i := j11) (j := 1) (by omega) (by omega)).mp c3
        refine lv_iconst (v := 1) hx hb dX5_readPlace_38 (by decide) ?_
        refine lv_goto (tgt := 43) hx hb dX5_readPlace_39 (by decide) ?_
        refine lv_istore_n (lv' := [(3, .int 1), (0, .ref (A 3)), (1, .ref (A 1)), (2, .ref (A (36 + 20 * 1)))]) hx hb dX5_readPlace_43 rfl hl (by decide) rfl (fun ls hl => ?_)
        refine lv_iload_n hx hb dX5_readPlace_44 rfl (lv_at hl 0 rfl) ?_
        refine lv_if_eq (tgt := 52) hx hb dX5_readPlace_45 (by decide) (fun cc => absurd cc (by decide)) (fun _ => ?_)
        refine lv_aload_n hx hb dX5_readPlace_48 rfl (lv_at hl 2 rfl) ?_
        refine va_callv (va_runV (As := []) (rest := []) ⟨hx, hb, hml, hown, hts⟩ (x_X8_step l dC dI ad E hEE A C nb _ hN st7 sl8 so9  hG.1 hO.1) (cwV 0 hts gX5_readPlace_X8_step rfl rfl rfl (by decide +kernel) ⟨Nat.le_of_ble_eq_true rfl, Nat.le_of_ble_eq_true rfl⟩) ⟨fun a U g mk q => ⟨q.1, xPre.blind hEE q.2⟩, va_recv hK hP (ci := 9) (q0 := 1) rfl (xw_is (r := 1) (by omega) (xc_fix (r := 1) (by omega))), fun U hU hW => ⟨rfl, xPre.of hEE hP hK hE hS hU hW⟩⟩ rfl rfl hl.1 rfl (lv_room (Nat.le_of_ble_eq_true rfl)) dX5_readPlace_49 ⟨Nat.le_of_ble_eq_true rfl, Nat.le_of_ble_eq_true rfl⟩) hS (fun q _ h => XA.le hS.1 q h) (XA.le hS.1) (fun x t H locs ht hvm hw hB _ _ hS => ?_)
        have hP := xB.at ht hB
        clear hB ht hvm
        obtain ⟨st23, sl24, so25⟩ := x
        obtain ⟨hGst23, hLGst23, hOst23, hw⟩ := hw
        dsimp only at hGst23 hLGst23 hOst23 hw
        have hO : OG ad [2, 3, 4] so so25 := hO.tr hOst23 (by decide)
        have hP : va_P (dC, dI) vwCl (xw A C nb st23 sl24 so25) _ := hP
        have hG : XG [1, 2, 3, 4, 5, 6, 8, 9, 12, 13, 14, 15] st st23 := hG.tr hGst23 (by decide)
        clear hw
        refine lv_aload_n hx hb dX5_readPlace_52 rfl (lv_at hl 3 rfl) ?_
        refine lv_aload_n hx hb dX5_readPlace_53 rfl (lv_at hl 2 rfl) ?_
        refine va_getN (host := "OffTheLead") (D := (dC, dI)) (ci := 9) (v := .long (sl24 1 10)) (C := RX8) (T := TX8) (N := 15) hx hb hts ii_X5_readPlace_X8 hown hK hP 1 (xw_is (r := 1) (by omega) (xc_fix (r := 1) (by omega))) rfl 10 (by decide) (va_Nw.use rfl (nf_X5_83 hEv)) (fun _ hh => hh) rfl dX5_readPlace_54 ?_
        refine lv_topl (fun z26 ez26 => ?_)
        clear ez26
        refine lv_iload_n hx hb dX5_readPlace_57 rfl (lv_at hl 0 rfl) ?_
        refine va_callv (va_runV (As := [.long z26, .int 1]) (rest := []) ⟨hx, hb, hml, hown, hts⟩ (x_X4_addPlace l dC dI ad E hEE A C nb _ hN st23 sl24 so25 1 z26 1 n1 (by omega) hG.1 (by rw [hGst23.2 (36 + 20 * 1) 5 (by rw [((xcl_pk (i := 1) (o := 0) (k := 5) (by omega)).trans (by first | rfl | decide))]; decide), hGst7.2 (36 + 20 * 1) 5 (by rw [((xcl_pk (i := 1) (o := 0) (k := 5) (by omega)).trans (by first | rfl | decide))]; decide), hGst3.2 (36 + 20 * 1) 5 (by rw [((xcl_pk (i := 1) (o := 0) (k := 5) (by omega)).trans (by first | rfl | decide))]; decide), en1]) (by omega)) (cwV 2 hts gX5_readPlace_X4_addPlace rfl rfl rfl (by decide +kernel) ⟨Nat.le_of_ble_eq_true rfl, Nat.le_of_ble_eq_true rfl⟩) ⟨fun a U g mk q => ⟨q.1, xPre.blind hEE q.2⟩, va_recv hK hP (ci := 5) (q0 := (36 + 20 * 1)) rfl (xw_is (r := (36 + 20 * 1)) (by omega) (xc_pk (i := 1) (o := 0) (by omega) (by omega))), fun U hU hW => ⟨rfl, xPre.of hEE hP hK hE hS hU hW⟩⟩ rfl rfl hl.1 rfl (lv_room (Nat.le_of_ble_eq_true rfl)) dX5_readPlace_58 ⟨Nat.le_of_ble_eq_true rfl, Nat.le_of_ble_eq_true rfl⟩) hS (fun q _ h => XA.le hS.1 q h) (XA.le hS.1) (fun x t H locs ht hvm hw hB _ _ hS => ?_)
        have hP := xB.at ht hB
        clear hB ht hvm
        obtain ⟨st28, sl29, so30⟩ := x
        obtain ⟨hGst28, hOst28, hw⟩ := hw
        dsimp only at hGst28 hOst28 hw
        replace hOst28 := hOst28.symm
        subst hOst28
        have hP : va_P (dC, dI) vwCl (xw A C nb st28 sl29 so25) _ := hP
        have hG : XG [1, 2, 3, 4, 5, 6, 8, 9, 12, 13, 14, 15] st st28 := hG.tr hGst28 (by decide)
        clear hw
        refine lv_aload_n hx hb dX5_readPlace_61 rfl (lv_at hl 2 rfl) ?_
        refine lv_bipush (v := 59) hx hb dX5_readPlace_62 (by decide) ?_
        refine va_calli (va_runV (As := [.int 59]) (rest := []) ⟨hx, hb, hml, hown, hts⟩ (x_X8_takeMark l dC dI ad E hEE A C nb _ hN st28 sl29 so25 59  hG.1 hO.1) (cwV 1 hts gX5_readPlace_X8_takeMark rfl rfl rfl (by decide +kernel) ⟨Nat.le_of_ble_eq_true rfl, Nat.le_of_ble_eq_true rfl⟩) ⟨fun a U g mk q => ⟨q.1, xPre.blind hEE q.2⟩, va_recv hK hP (ci := 9) (q0 := 1) rfl (xw_is (r := 1) (by omega) (xc_fix (r := 1) (by omega))), fun U hU hW => ⟨rfl, xPre.of hEE hP hK hE hS hU hW⟩⟩ rfl rfl hl.1 rfl (lv_room (Nat.le_of_ble_eq_true rfl)) dX5_readPlace_64 ⟨Nat.le_of_ble_eq_true rfl, Nat.le_of_ble_eq_true rfl⟩) hS (fun q _ h => XA.le hS.1 q h) (XA.le hS.1) (fun r31 x t H locs ht hvm hw hB _ _ hS => ?_)
        have hP := xB.at ht hB
        clear hB ht hvm
        obtain ⟨st32, sl33, so34⟩ := x
        obtain ⟨hGst32, hLGst32, hOst32, hw⟩ := hw
        dsimp only at hGst32 hLGst32 hOst32 hw
        have hO : OG ad [2, 3, 4] so so34 := hO.tr hOst32 (by decide)
        have hP : va_P (dC, dI) vwCl (xw A C nb st32 sl33 so34) _ := hP
        have hG : XG [1, 2, 3, 4, 5, 6, 8, 9, 12, 13, 14, 15] st st32 := hG.tr hGst32 (by decide)
        rcases hw with rfl | ⟨rfl, hf35⟩
        · exact W.zret (v := 1) hx hb hr rfl (fun t ht hW => ⟨⟨1, (st32, sl33, so34), rfl, ⟨hG, hO, Or.inl (rfl)⟩, xB.of ht hP⟩, hS.F ht⟩) hS.2.2 dX5_readPlace_67
        · exact W.zret (v := 0) hx hb hr rfl (fun t ht hW => ⟨⟨0, (st32, sl33, so34), rfl, ⟨hG, hO, Or.inr (⟨rfl, by show ¬ st32 1 13 = 0; exact hf35⟩)⟩, xB.of ht hP⟩, hS.F ht⟩) hS.2.2 dX5_readPlace_67
    · refine lv_if_ne (tgt := 28) hx hb dX5_readPlace_23 (by decide) (fun cc => absurd (by decide) cc) (fun _ => ?_)
      refine lv_iconst (v := 0) hx hb dX5_readPlace_26 (by decide) ?_
      exact W.zret (v := 0) hx hb hr rfl (fun t ht hW => ⟨⟨0, (st7, sl8, so9), rfl, ⟨hG, hO, Or.inr (⟨rfl, by show ¬ st7 1 13 = 0; exact hf10⟩)⟩, xB.of ht hP⟩, hS.F ht⟩) hS.2.2 dX5_readPlace_27
  · have c1 : ¬ n1 < 5 := fun hh => c1 ((nI_ltI (a := n1) (b := 5) (by omega) (by omega)).mpr hh)
    refine lv_aload_n hx hb dX5_readPlace_8 rfl (lv_at hl 1 rfl) ?_
    refine lv_iconst (v := 4) hx hb dX5_readPlace_9 (by decide) ?_
    refine va_calli (va_runV (As := [.int 4]) (rest := []) ⟨hx, hb, hml, hown, hts⟩ (x_X8_refuse l dC dI ad E hEE A C nb _ hN st sl so 4  hG.1) (cwV 1 hts gX5_readPlace_X8_refuse rfl rfl rfl (by decide +kernel) ⟨Nat.le_of_ble_eq_true rfl, Nat.le_of_ble_eq_true rfl⟩) ⟨fun a U g mk q => ⟨q.1, xPre.blind hEE q.2⟩, va_recv hK hP (ci := 9) (q0 := 1) rfl (xw_is (r := 1) (by omega) (xc_fix (r := 1) (by omega))), fun U hU hW => ⟨rfl, xPre.of hEE hP hK hE hS hU hW⟩⟩ rfl rfl hl.1 rfl (lv_room (Nat.le_of_ble_eq_true rfl)) dX5_readPlace_10 ⟨Nat.le_of_ble_eq_true rfl, Nat.le_of_ble_eq_true rfl⟩) hS (fun q _ h => XA.le hS.1 q h) (XA.le hS.1) (fun r36 x t H locs ht hvm hw hB _ _ hS => ?_)
    have hP := xB.at ht hB
    clear hB ht hvm
    obtain ⟨st37, sl38, so39⟩ := x
    obtain ⟨hGst37, hLGst37, hOst37, hw⟩ := hw
    dsimp only at hGst37 hLGst37 hOst37 hw
    replace hOst37 := hOst37.symm
    subst hOst37
    have hP : va_P (dC, dI) vwCl (xw A C nb st37 sl38 so) _ := hP
    have hG : XG [1, 2, 3, 4, 5, 6, 8, 9, 12, 13, 14, 15] st st37 := hG.tr hGst37 (by decide)
    obtain ⟨rfl, hf40⟩ := hw
    exact W.zret (v := 0) hx hb hr rfl (fun t ht hW => ⟨⟨0, (st37, sl38, so), rfl, ⟨hG, hO, Or.inr (⟨rfl, by show ¬ st37 1 13 = 0; rw [hf40]; decide⟩)⟩, xB.of ht hP⟩, hS.F ht⟩) hS.2.2 dX5_readPlace_13
set_option maxHeartbeats 4000000 in
set_option maxRecDepth 100000 in
theorem x_X5_readPerson (l : Launch) (dC : Nat → ClassId) (dI : Nat → Nat → Nat) (ad : Nat → Nat) (E : EP) (hEE : EC ad E) (A : Nat → Nat) (C : Nat → ClassId) (nb sz : Nat) (hN : XN A) (st : Nat → Nat → Int32) (sl : Nat → Nat → Int64) (so : Nat → XR) (hI : XI st) (hOI : OI ad so) : Met l yX5_readPerson wsX5_readPerson ({ frames := 8, cells := 0, slots := 0, locals := 172 }) (va_Pc [.ref (A 3), .ref (A 1), .ref (A (36 + 20 * 1))] (xPre E dC dI A C nb sz st sl so)) (va_Qi (fun (r : Int32) (x : XT) => XG [1, 2, 3, 4, 5, 6, 8, 9, 12, 13, 14, 15] st x.1 ∧ OG ad [2, 3, 4] so x.2.2 ∧ ((r = 1) ∨ (r = 0 ∧ ¬ x.1 1 13 = 0))) (xB dC dI A C nb) (XA A sz)) 0 0 (XA A sz) := by
  refine Met.ofW (cc := cX5_readPerson) (maxL := 5) (ret := (some .boolean)) (by decide) rfl ?_
  intro p e s m args below meth c s₁ B hml hv
  obtain ⟨rfl, hsz, hP, hK, hE⟩ := hv
  have hx := B.exec
  have hb := B.bytes
  have hr := B.returns
  have hts := atoms_spec (ws := wsX5_readPerson) B.pre
  have hown : s.vm.findClass RX5 = some m.cls := findClass_of_methodNamed B.named
  subst hsz
  have hEv := hEE.1 _ _ _ hE
  have hS : va_S (XA A s.heap.size) s.heap s.heap [] := va_S.rf
  have hG : XG [1, 2, 3, 4, 5, 6, 8, 9, 12, 13, 14, 15] st st := XG.rf hI
  have hO : OG ad [2, 3, 4] so so := OG.rf hOI
  have hl := lv_entry ([.ref (A 3), .ref (A 1), .ref (A (36 + 20 * 1))]) (n := 5) (Nat.le_of_ble_eq_true rfl)
  rw [lg_entry_eq]
  generalize (lg_sl ([.ref (A 3), .ref (A 1), .ref (A (36 + 20 * 1))]) ++ List.replicate (5 - (lg_sl ([.ref (A 3), .ref (A 1), .ref (A (36 + 20 * 1))])).length) Slot.unset).toArray = ls at hl ⊢
  have hl : lv_has ls 5 [(0, .ref (A 3)), (1, .ref (A 1)), (2, .ref (A (36 + 20 * 1)))] := hl
  refine lv_aload_n hx hb dX5_readPerson_0 rfl (lv_at hl 2 rfl) ?_
  refine va_getN (host := "OffTheLead") (D := (dC, dI)) (ci := 5) (v := .int (st (36 + 20 * 1) 6)) (C := RX4) (T := TX4) (N := 12) hx hb hts ii_X5_readPerson_X4 hown hK hP (36 + 20 * 1) (xw_is (r := (36 + 20 * 1)) (by omega) (xc_pk (i := 1) (o := 0) (by omega) (by omega))) rfl 6 (by decide) (va_Nw.use rfl (nf_X5_94 hEv)) (fun _ hh => hh) rfl dX5_readPerson_1 ?_
  obtain ⟨n1, hn1, en1⟩ := hG.1.at (r := (36 + 20 * 1)) (k := 6) (b := 9) ((xrg_pk (i := 1) (o := 0) (k := 6) (by omega)).trans (by first | rfl | decide)) (by decide)
  refine zz_top (v := nI n1) (by exact en1) ?_
  refine lv_bipush (v := 8) hx hb dX5_readPerson_4 (by decide) ?_
  refine lv_icmp_lt (tgt := 15) hx hb dX5_readPerson_6 (by decide) (fun c1 => ?_) (fun c1 => ?_)
  · have c1 : n1 < 8 := (nI_ltI (a := n1) (b := 8) (by omega) (by omega)).mp c1
    refine lv_aload_n hx hb dX5_readPerson_15 rfl (lv_at hl 1 rfl) ?_
    refine va_callv (va_runV (As := []) (rest := []) ⟨hx, hb, hml, hown, hts⟩ (x_X8_step l dC dI ad E hEE A C nb _ hN st sl so  hG.1 hO.1) (cwV 0 hts gX5_readPerson_X8_step rfl rfl rfl (by decide +kernel) ⟨Nat.le_of_ble_eq_true rfl, Nat.le_of_ble_eq_true rfl⟩) ⟨fun a U g mk q => ⟨q.1, xPre.blind hEE q.2⟩, va_recv hK hP (ci := 9) (q0 := 1) rfl (xw_is (r := 1) (by omega) (xc_fix (r := 1) (by omega))), fun U hU hW => ⟨rfl, xPre.of hEE hP hK hE hS hU hW⟩⟩ rfl rfl hl.1 rfl (lv_room (Nat.le_of_ble_eq_true rfl)) dX5_readPerson_16 ⟨Nat.le_of_ble_eq_true rfl, Nat.le_of_ble_eq_true rfl⟩) hS (fun q _ h => XA.le hS.1 q h) (XA.le hS.1) (fun x t H locs ht hvm hw hB _ _ hS => ?_)
    have hP := xB.at ht hB
    clear hB ht hvm
    obtain ⟨st3, sl4, so5⟩ := x
    obtain ⟨hGst3, hLGst3, hOst3, hw⟩ := hw
    dsimp only at hGst3 hLGst3 hOst3 hw
    have hO : OG ad [2, 3, 4] so so5 := hO.tr hOst3 (by decide)
    have hP : va_P (dC, dI) vwCl (xw A C nb st3 sl4 so5) _ := hP
    have hG : XG [1, 2, 3, 4, 5, 6, 8, 9, 12, 13, 14, 15] st st3 := hG.tr hGst3 (by decide)
    clear hw
    refine lv_aload_n hx hb dX5_readPerson_19 rfl (lv_at hl 1 rfl) ?_
    refine lv_aload_n hx hb dX5_readPerson_20 rfl (lv_at hl 2 rfl) ?_
    refine va_calli (va_runV (As := [.ref (A (36 + 20 * 1))]) (rest := []) ⟨hx, hb, hml, hown, hts⟩ (x_X8_takeNewName l dC dI ad E hEE A C nb _ hN st3 sl4 so5 1 (by omega) hG.1 hO.1) (cwV 1 hts gX5_readPerson_X8_takeNewName rfl rfl rfl (by decide +kernel) ⟨Nat.le_of_ble_eq_true rfl, Nat.le_of_ble_eq_true rfl⟩) ⟨fun a U g mk q => ⟨q.1, xPre.blind hEE q.2⟩, va_recv hK hP (ci := 9) (q0 := 1) rfl (xw_is (r := 1) (by omega) (xc_fix (r := 1) (by omega))), fun U hU hW => ⟨rfl, xPre.of hEE hP hK hE hS hU hW⟩⟩ rfl rfl hl.1 rfl (lv_room (Nat.le_of_ble_eq_true rfl)) dX5_readPerson_21 ⟨Nat.le_of_ble_eq_true rfl, Nat.le_of_ble_eq_true rfl⟩) hS (fun q _ h => XA.le hS.1 q h) (XA.le hS.1) (fun r6 x t H locs ht hvm hw hB _ _ hS => ?_)
    have hP := xB.at ht hB
    clear hB ht hvm
    obtain ⟨st7, sl8, so9⟩ := x
    obtain ⟨hGst7, hLGst7, hOst7, hw⟩ := hw
    dsimp only at hGst7 hLGst7 hOst7 hw
    have hO : OG ad [2, 3, 4] so so9 := hO.tr hOst7 (by decide)
    have hP : va_P (dC, dI) vwCl (xw A C nb st7 sl8 so9) _ := hP
    have hG : XG [1, 2, 3, 4, 5, 6, 8, 9, 12, 13, 14, 15] st st7 := hG.tr hGst7 (by decide)
    rcases hw with rfl | ⟨rfl, hf10⟩
    · refine lv_if_eq (tgt := 36) hx hb dX5_readPerson_24 (by decide) (fun cc => absurd cc (by decide)) (fun _ => ?_)
      refine lv_aload_n hx hb dX5_readPerson_27 rfl (lv_at hl 1 rfl) ?_
      refine lv_aload_n hx hb dX5_readPerson_28 rfl (lv_at hl 2 rfl) ?_
      refine lv_iconst (v := 0) hx hb dX5_readPerson_29 (by decide) ?_
      refine va_calli (va_runV (As := [.ref (A (36 + 20 * 1)), .int 0]) (rest := []) ⟨hx, hb, hml, hown, hts⟩ (x_takeNamed0 l dC dI ad E hEE A C nb _ hN st7 sl8 so9 1 (by omega) hG.1 hO.1) (cwV 2 hts gX5_readPerson_X8_takeNamed rfl rfl rfl (by decide +kernel) ⟨Nat.le_of_ble_eq_true rfl, Nat.le_of_ble_eq_true rfl⟩) ⟨fun a U g mk q => ⟨q.1, xPre.blind hEE q.2⟩, va_recv hK hP (ci := 9) (q0 := 1) rfl (xw_is (r := 1) (by omega) (xc_fix (r := 1) (by omega))), fun U hU hW => ⟨rfl, xPre.of hEE hP hK hE hS hU hW⟩⟩ rfl rfl hl.1 rfl (lv_room (Nat.le_of_ble_eq_true rfl)) dX5_readPerson_30 ⟨Nat.le_of_ble_eq_true rfl, Nat.le_of_ble_eq_true rfl⟩) hS (fun q _ h => XA.le hS.1 q h) (XA.le hS.1) (fun r11 x t H locs ht hvm hw hB _ _ hS => ?_)
      have hP := xB.at ht hB
      clear hB ht hvm
      obtain ⟨st12, sl13, so14⟩ := x
      obtain ⟨hGst12, hLGst12, hOst12, hw⟩ := hw
      dsimp only at hGst12 hLGst12 hOst12 hw
      have hO : OG ad [2, 3, 4] so so14 := hO.tr hOst12 (by decide)
      have hP : va_P (dC, dI) vwCl (xw A C nb st12 sl13 so14) _ := hP
      have hG : XG [1, 2, 3, 4, 5, 6, 8, 9, 12, 13, 14, 15] st st12 := hG.tr hGst12 (by decide)
      rcases hw with ⟨n15, rfl, hf16, hf17⟩ | ⟨rfl, hf18⟩
      · refine lv_if_ne (tgt := 38) hx hb dX5_readPerson_33 (by decide) (fun _ => ?_) (fun cc => absurd cc (by decide))
        refine lv_aload_n hx hb dX5_readPerson_38 rfl (lv_at hl 1 rfl) ?_
        refine va_getN (host := "OffTheLead") (D := (dC, dI)) (ci := 9) (v := .int (st12 1 9)) (C := RX8) (T := TX8) (N := 15) hx hb hts ii_X5_readPerson_X8 hown hK hP 1 (xw_is (r := 1) (by omega) (xc_fix (r := 1) (by omega))) rfl 9 (by decide) (va_Nw.use rfl (nf_X5_101 hEv)) (fun _ hh => hh) rfl dX5_readPerson_39 ?_
        refine zz_top (v := (nI n15)) (by show st12 1 9 = _; rw [hf16]) ?_
        refine lv_istore_n (lv' := [(3, .int (nI n15)), (0, .ref (A 3)), (1, .ref (A 1)), (2, .ref (A (36 + 20 * 1)))]) hx hb dX5_readPerson_42 rfl hl (by decide) rfl (fun ls hl => ?_)
        refine lv_aload_n hx hb dX5_readPerson_43 rfl (lv_at hl 2 rfl) ?_
        refine va_calli (va_runV (As := []) (rest := []) ⟨hx, hb, hml, hown, hts⟩ (x_X8_takeHours l dC dI ad E hEE A C nb _ hN st12 sl13 so14  hG.1 hO.1) (cwV 0 hts gX5_readPerson_X8_takeHours rfl rfl rfl (by decide +kernel) ⟨Nat.le_of_ble_eq_true rfl, Nat.le_of_ble_eq_true rfl⟩) ⟨fun a U g mk q => ⟨q.1, xPre.blind hEE q.2⟩, va_recv hK hP (ci := 9) (q0 := 1) rfl (xw_is (r := 1) (by omega) (xc_fix (r := 1) (by omega))), fun U hU hW => ⟨rfl, xPre.of hEE hP hK hE hS hU hW⟩⟩ rfl rfl hl.1 rfl (lv_room (Nat.le_of_ble_eq_true rfl)) dX5_readPerson_44 ⟨Nat.le_of_ble_eq_true rfl, Nat.le_of_ble_eq_true rfl⟩) hS (fun q _ h => XA.le hS.1 q h) (XA.le hS.1) (fun r19 x t H locs ht hvm hw hB _ _ hS => ?_)
        have hP := xB.at ht hB
        clear hB ht hvm
        obtain ⟨st20, sl21, so22⟩ := x
        obtain ⟨hGst20, hLGst20, hOst20, hw⟩ := hw
        dsimp only at hGst20 hLGst20 hOst20 hw
        have hO : OG ad [2, 3, 4] so so22 := hO.tr hOst20 (by decide)
        have hP : va_P (dC, dI) vwCl (xw A C nb st20 sl21 so22) _ := hP
        have hG : XG [1, 2, 3, 4, 5, 6, 8, 9, 12, 13, 14, 15] st st20 := hG.tr hGst20 (by decide)
        rcases hw with rfl | ⟨rfl, hf23⟩
        · refine lv_if_eq (tgt := 60) hx hb dX5_readPerson_47 (by decide) (fun cc => absurd cc (by decide)) (fun _ => ?_)
          refine lv_aload_n hx hb dX5_readPerson_50 rfl (lv_at hl 2 rfl) ?_
          refine lv_iconst (v := 0) hx hb dX5_readPerson_51 (by decide) ?_
          refine lv_bipush (v := 30) hx hb dX5_readPerson_52 (by decide) ?_
          refine va_calli (va_runV (As := [.int 0, .int 30]) (rest := []) ⟨hx, hb, hml, hown, hts⟩ (x_X8_takeNumber l dC dI ad E hEE A C nb _ hN st20 sl21 so22 0 30  hG.1 hO.1) (cwV 2 hts gX5_readPerson_X8_takeNumber rfl rfl rfl (by decide +kernel) ⟨Nat.le_of_ble_eq_true rfl, Nat.le_of_ble_eq_true rfl⟩) ⟨fun a U g mk q => ⟨q.1, xPre.blind hEE q.2⟩, va_recv hK hP (ci := 9) (q0 := 1) rfl (xw_is (r := 1) (by omega) (xc_fix (r := 1) (by omega))), fun U hU hW => ⟨rfl, xPre.of hEE hP hK hE hS hU hW⟩⟩ rfl rfl hl.1 rfl (lv_room (Nat.le_of_ble_eq_true rfl)) dX5_readPerson_54 ⟨Nat.le_of_ble_eq_true rfl, Nat.le_of_ble_eq_true rfl⟩) hS (fun q _ h => XA.le hS.1 q h) (XA.le hS.1) (fun r24 x t H locs ht hvm hw hB _ _ hS => ?_)
          have hP := xB.at ht hB
          clear hB ht hvm
          obtain ⟨st25, sl26, so27⟩ := x
          obtain ⟨hGst25, hLGst25, hOst25, hw⟩ := hw
          dsimp only at hGst25 hLGst25 hOst25 hw
          have hO : OG ad [2, 3, 4] so so27 := hO.tr hOst25 (by decide)
          have hP : va_P (dC, dI) vwCl (xw A C nb st25 sl26 so27) _ := hP
          have hG : XG [1, 2, 3, 4, 5, 6, 8, 9, 12, 13, 14, 15] st st25 := hG.tr hGst25 (by decide)
          rcases hw with rfl | ⟨rfl, hf28⟩
          · refine lv_if_ne (tgt := 62) hx hb dX5_readPerson_57 (by decide) (fun _ => ?_) (fun cc => absurd cc (by decide))
            refine lv_aload_n hx hb dX5_readPerson_62 rfl (lv_at hl 3 rfl) ?_
            refine lv_aload_n hx hb dX5_readPerson_63 rfl (lv_at hl 2 rfl) ?_
            refine va_getN (host := "OffTheLead") (D := (dC, dI)) (ci := 9) (v := .long (sl26 1 10)) (C := RX8) (T := TX8) (N := 15) hx hb hts ii_X5_readPerson_X8 hown hK hP 1 (xw_is (r := 1) (by omega) (xc_fix (r := 1) (by omega))) rfl 10 (by decide) (va_Nw.use rfl (nf_X5_83 hEv)) (fun _ hh => hh) rfl dX5_readPerson_64 ?_
            refine lv_topl (fun z29 ez29 => ?_)
            clear ez29
            refine va_callr (va_runV (As := [.long z29]) (rest := []) ⟨hx, hb, hml, hown, hts⟩ (x_X4_addPerson l dC dI ad E hEE A C nb _ hN st25 sl26 so27 1 z29 n1 (by omega) hG.1 (by rw [hGst25.2 (36 + 20 * 1) 6 (by rw [((xcl_pk (i := 1) (o := 0) (k := 6) (by omega)).trans (by first | rfl | decide))]; decide), hGst20.2 (36 + 20 * 1) 6 (by rw [((xcl_pk (i := 1) (o := 0) (k := 6) (by omega)).trans (by first | rfl | decide))]; decide), hGst12.2 (36 + 20 * 1) 6 (by rw [((xcl_pk (i := 1) (o := 0) (k := 6) (by omega)).trans (by first | rfl | decide))]; decide), hGst7.2 (36 + 20 * 1) 6 (by rw [((xcl_pk (i := 1) (o := 0) (k := 6) (by omega)).trans (by first | rfl | decide))]; decide), hGst3.2 (36 + 20 * 1) 6 (by rw [((xcl_pk (i := 1) (o := 0) (k := 6) (by omega)).trans (by first | rfl | decide))]; decide), en1]) (by omega)) (cwV 1 hts gX5_readPerson_X4_addPerson rfl rfl rfl (by decide +kernel) ⟨Nat.le_of_ble_eq_true rfl, Nat.le_of_ble_eq_true rfl⟩) ⟨fun a U g mk q => ⟨q.1, xPre.blind hEE q.2⟩, va_recv hK hP (ci := 5) (q0 := (36 + 20 * 1)) rfl (xw_is (r := (36 + 20 * 1)) (by omega) (xc_pk (i := 1) (o := 0) (by omega) (by omega))), fun U hU hW => ⟨rfl, xPre.of hEE hP hK hE hS hU hW⟩⟩ rfl rfl hl.1 rfl (lv_room (Nat.le_of_ble_eq_true rfl)) dX5_readPerson_67 ⟨Nat.le_of_ble_eq_true rfl, Nat.le_of_ble_eq_true rfl⟩) hS (fun q _ h => XA.le hS.1 q h) (XA.le hS.1) (fun x r30 t H locs ht hvm hw hB _ _ hS => ?_)
            obtain ⟨hw, hB⟩ := hB
            have hP := xB.at ht hB
            clear hB ht hvm
            obtain ⟨st31, sl32, so33⟩ := x
            obtain ⟨hGst31, hOst31, hw⟩ := hw
            dsimp only at hGst31 hOst31 hw
            replace hOst31 := hOst31.symm
            subst hOst31
            have hP : va_P (dC, dI) vwCl (xw A C nb st31 sl32 so27) _ := hP
            have hG : XG [1, 2, 3, 4, 5, 6, 8, 9, 12, 13, 14, 15] st st31 := hG.tr hGst31 (by decide)
            obtain ⟨n34, rfl, hf35⟩ := hw
            refine lv_astore (lv' := [(4, .ref (A (36 + 20 * 1 + (6 + n34)))), (3, .int (nI n15)), (0, .ref (A 3)), (1, .ref (A 1)), (2, .ref (A (36 + 20 * 1)))]) hx hb dX5_readPerson_70 hl (by decide) rfl (fun ls hl => ?_)
            refine lv_aload hx hb dX5_readPerson_72 (lv_at hl 0 rfl) ?_
            refine lv_iload_n hx hb dX5_readPerson_74 rfl (lv_at hl 1 rfl) ?_
            refine va_putN (host := "OffTheLead") (D := (dC, dI)) (ci := 7) (v := .int (nI n15)) (ty := .int) (C := RX6) (T := TX6) (N := 9) hx hb hts ii_X5_readPerson_X6 tyX6 tyX6_ok nmX6 hown hK hP (xD hN _ _ _ _ _ _) hS (36 + 20 * 1 + (6 + n34)) (xw_is (r := (36 + 20 * 1 + (6 + n34))) (by omega) (xc_person (i := 1) (p := n34) (by omega) (by omega))) rfl 1 (by decide) (va_Nw.use rfl (nf_X5_116 hEv)) (fun _ hh => hh) rfl (by decide +kernel) rfl rfl (Nat.le_of_ble_eq_true rfl) dX5_readPerson_75 (fun H locs hP _ hS => ?_)
            have hP : va_P (dC, dI) vwCl (xw A C nb (up2 st31 (36 + 20 * 1 + (6 + n34)) 1 (nI n15)) sl32 so27) H := by rw [← xset (r := (36 + 20 * 1 + (6 + n34))) (k := 1) (v := (nI n15)) (xc_person (i := 1) (p := n34) (by omega) (by omega))]; exact hP
            obtain ⟨st36, est36⟩ : ∃ y, y = up2 st31 (36 + 20 * 1 + (6 + n34)) 1 (nI n15) := ⟨_, rfl⟩
            have hG : XG [1, 2, 3, 4, 5, 6, 8, 9, 12, 13, 14, 15] st st36 := by rw [est36]; exact hG.up (xn (n := n15) (b := 5) ((xrg_pe (i := 1) (p := n34) (by omega)).trans (by decide)) (by omega)) (xpn (c := 0) (xcl_pe (i := 1) (p := n34) (k := 1) (by omega)) (by decide))
            rw [← est36] at hP
            refine lv_aload hx hb dX5_readPerson_78 (lv_at hl 0 rfl) ?_
            refine lv_aload_n hx hb dX5_readPerson_80 rfl (lv_at hl 3 rfl) ?_
            refine va_getN (host := "OffTheLead") (D := (dC, dI)) (ci := 9) (v := .int (st36 1 11)) (C := RX8) (T := TX8) (N := 15) hx hb hts ii_X5_readPerson_X8 hown hK hP 1 (xw_is (r := 1) (by omega) (xc_fix (r := 1) (by omega))) rfl 11 (by decide) (va_Nw.use rfl (nf_X5_121 hEv)) (fun _ hh => hh) rfl dX5_readPerson_81 ?_
            obtain ⟨z37, ez37⟩ : ∃ y : Int32, st36 1 11 = y := ⟨_, rfl⟩
            refine zz_top (v := z37) (by exact ez37) ?_
            refine va_putN (host := "OffTheLead") (D := (dC, dI)) (ci := 7) (v := .int z37) (ty := .int) (C := RX6) (T := TX6) (N := 9) hx hb hts ii_X5_readPerson_X6 tyX6 tyX6_ok nmX6 hown hK hP (xD hN _ _ _ _ _ _) hS (36 + 20 * 1 + (6 + n34)) (xw_is (r := (36 + 20 * 1 + (6 + n34))) (by omega) (xc_person (i := 1) (p := n34) (by omega) (by omega))) rfl 2 (by decide) (va_Nw.use rfl (nf_X5_124 hEv)) (fun _ hh => hh) rfl (by decide +kernel) rfl rfl (Nat.le_of_ble_eq_true rfl) dX5_readPerson_84 (fun H locs hP _ hS => ?_)
            have hP : va_P (dC, dI) vwCl (xw A C nb (up2 st36 (36 + 20 * 1 + (6 + n34)) 2 z37) sl32 so27) H := by rw [← xset (r := (36 + 20 * 1 + (6 + n34))) (k := 2) (v := z37) (xc_person (i := 1) (p := n34) (by omega) (by omega))]; exact hP
            obtain ⟨st38, est38⟩ : ∃ y, y = up2 st36 (36 + 20 * 1 + (6 + n34)) 2 z37 := ⟨_, rfl⟩
            have hG : XG [1, 2, 3, 4, 5, 6, 8, 9, 12, 13, 14, 15] st st38 := by rw [est38]; exact hG.up (xz (r := (36 + 20 * 1 + (6 + n34))) (k := 2) ((xrg_pe (i := 1) (p := n34) (by omega)).trans (by decide))) (xpn (c := 0) (xcl_pe (i := 1) (p := n34) (k := 2) (by omega)) (by decide))
            rw [← est38] at hP
            refine lv_aload hx hb dX5_readPerson_87 (lv_at hl 0 rfl) ?_
            refine lv_aload_n hx hb dX5_readPerson_89 rfl (lv_at hl 3 rfl) ?_
            refine va_getN (host := "OffTheLead") (D := (dC, dI)) (ci := 9) (v := .int (st38 1 12)) (C := RX8) (T := TX8) (N := 15) hx hb hts ii_X5_readPerson_X8 hown hK hP 1 (xw_is (r := 1) (by omega) (xc_fix (r := 1) (by omega))) rfl 12 (by decide) (va_Nw.use rfl (nf_X5_125 hEv)) (fun _ hh => hh) rfl dX5_readPerson_90 ?_
            obtain ⟨z39, ez39⟩ : ∃ y : Int32, st38 1 12 = y := ⟨_, rfl⟩
            refine zz_top (v := z39) (by exact ez39) ?_
            refine va_putN (host := "OffTheLead") (D := (dC, dI)) (ci := 7) (v := .int z39) (ty := .int) (C := RX6) (T := TX6) (N := 9) hx hb hts ii_X5_readPerson_X6 tyX6 tyX6_ok nmX6 hown hK hP (xD hN _ _ _ _ _ _) hS (36 + 20 * 1 + (6 + n34)) (xw_is (r := (36 + 20 * 1 + (6 + n34))) (by omega) (xc_person (i := 1) (p := n34) (by omega) (by omega))) rfl 3 (by decide) (va_Nw.use rfl (nf_X5_128 hEv)) (fun _ hh => hh) rfl (by decide +kernel) rfl rfl (Nat.le_of_ble_eq_true rfl) dX5_readPerson_93 (fun H locs hP _ hS => ?_)
            have hP : va_P (dC, dI) vwCl (xw A C nb (up2 st38 (36 + 20 * 1 + (6 + n34)) 3 z39) sl32 so27) H := by rw [← xset (r := (36 + 20 * 1 + (6 + n34))) (k := 3) (v := z39) (xc_person (i := 1) (p := n34) (by omega) (by omega))]; exact hP
            obtain ⟨st40, est40⟩ : ∃ y, y = up2 st38 (36 + 20 * 1 + (6 + n34)) 3 z39 := ⟨_, rfl⟩
            have hG : XG [1, 2, 3, 4, 5, 6, 8, 9, 12, 13, 14, 15] st st40 := by rw [est40]; exact hG.up (xz (r := (36 + 20 * 1 + (6 + n34))) (k := 3) ((xrg_pe (i := 1) (p := n34) (by omega)).trans (by decide))) (xpn (c := 0) (xcl_pe (i := 1) (p := n34) (k := 3) (by omega)) (by decide))
            rw [← est40] at hP
            refine lv_aload hx hb dX5_readPerson_96 (lv_at hl 0 rfl) ?_
            refine lv_aload_n hx hb dX5_readPerson_98 rfl (lv_at hl 3 rfl) ?_
            refine va_getN (host := "OffTheLead") (D := (dC, dI)) (ci := 9) (v := .int (st40 1 9)) (C := RX8) (T := TX8) (N := 15) hx hb hts ii_X5_readPerson_X8 hown hK hP 1 (xw_is (r := 1) (by omega) (xc_fix (r := 1) (by omega))) rfl 9 (by decide) (va_Nw.use rfl (nf_X5_101 hEv)) (fun _ hh => hh) rfl dX5_readPerson_99 ?_
            obtain ⟨z41, ez41⟩ : ∃ y : Int32, st40 1 9 = y := ⟨_, rfl⟩
            refine zz_top (v := z41) (by exact ez41) ?_
            refine va_putN (host := "OffTheLead") (D := (dC, dI)) (ci := 7) (v := .int z41) (ty := .int) (C := RX6) (T := TX6) (N := 9) hx hb hts ii_X5_readPerson_X6 tyX6 tyX6_ok nmX6 hown hK hP (xD hN _ _ _ _ _ _) hS (36 + 20 * 1 + (6 + n34)) (xw_is (r := (36 + 20 * 1 + (6 + n34))) (by omega) (xc_person (i := 1) (p := n34) (by omega) (by omega))) rfl 4 (by decide) (va_Nw.use rfl (nf_X5_129 hEv)) (fun _ hh => hh) rfl (by decide +kernel) rfl rfl (Nat.le_of_ble_eq_true rfl) dX5_readPerson_102 (fun H locs hP _ hS => ?_)
            have hP : va_P (dC, dI) vwCl (xw A C nb (up2 st40 (36 + 20 * 1 + (6 + n34)) 4 z41) sl32 so27) H := by rw [← xset (r := (36 + 20 * 1 + (6 + n34))) (k := 4) (v := z41) (xc_person (i := 1) (p := n34) (by omega) (by omega))]; exact hP
            obtain ⟨st42, est42⟩ : ∃ y, y = up2 st40 (36 + 20 * 1 + (6 + n34)) 4 z41 := ⟨_, rfl⟩
            have hG : XG [1, 2, 3, 4, 5, 6, 8, 9, 12, 13, 14, 15] st st42 := by rw [est42]; exact hG.up (xz (r := (36 + 20 * 1 + (6 + n34))) (k := 4) ((xrg_pe (i := 1) (p := n34) (by omega)).trans (by decide))) (xpn (c := 0) (xcl_pe (i := 1) (p := n34) (k := 4) (by omega)) (by decide))
            rw [← est42] at hP
            refine lv_aload_n hx hb dX5_readPerson_105 rfl (lv_at hl 3 rfl) ?_
            refine lv_bipush (v := 59) hx hb dX5_readPerson_106 (by decide) ?_
            refine va_calli (va_runV (As := [.int 59]) (rest := []) ⟨hx, hb, hml, hown, hts⟩ (x_X8_takeMark l dC dI ad E hEE A C nb _ hN st42 sl32 so27 59  hG.1 hO.1) (cwV 1 hts gX5_readPerson_X8_takeMark rfl rfl rfl (by decide +kernel) ⟨Nat.le_of_ble_eq_true rfl, Nat.le_of_ble_eq_true rfl⟩) ⟨fun a U g mk q => ⟨q.1, xPre.blind hEE q.2⟩, va_recv hK hP (ci := 9) (q0 := 1) rfl (xw_is (r := 1) (by omega) (xc_fix (r := 1) (by omega))), fun U hU hW => ⟨rfl, xPre.of hEE hP hK hE hS hU hW⟩⟩ rfl rfl hl.1 rfl (lv_room (Nat.le_of_ble_eq_true rfl)) dX5_readPerson_108 ⟨Nat.le_of_ble_eq_true rfl, Nat.le_of_ble_eq_true rfl⟩) hS (fun q _ h => XA.le hS.1 q h) (XA.le hS.1) (fun r43 x t H locs ht hvm hw hB _ _ hS => ?_)
            have hP := xB.at ht hB
            clear hB ht hvm
            obtain ⟨st44, sl45, so46⟩ := x
            obtain ⟨hGst44, hLGst44, hOst44, hw⟩ := hw
            dsimp only at hGst44 hLGst44 hOst44 hw
            have hO : OG ad [2, 3, 4] so so46 := hO.tr hOst44 (by decide)
            have hP : va_P (dC, dI) vwCl (xw A C nb st44 sl45 so46) _ := hP
            have hG : XG [1, 2, 3, 4, 5, 6, 8, 9, 12, 13, 14, 15] st st44 := hG.tr hGst44 (by decide)
            rcases hw with rfl | ⟨rfl, hf47⟩
            · exact W.zret (v := 1) hx hb hr rfl (fun t ht hW => ⟨⟨1, (st44, sl45, so46), rfl, ⟨hG, hO, Or.inl (rfl)⟩, xB.of ht hP⟩, hS.F ht⟩) hS.2.2 dX5_readPerson_111
            · exact W.zret (v := 0) hx hb hr rfl (fun t ht hW => ⟨⟨0, (st44, sl45, so46), rfl, ⟨hG, hO, Or.inr (⟨rfl, by show ¬ st44 1 13 = 0; exact hf47⟩)⟩, xB.of ht hP⟩, hS.F ht⟩) hS.2.2 dX5_readPerson_111
          · refine lv_if_ne (tgt := 62) hx hb dX5_readPerson_57 (by decide) (fun cc => absurd (by decide) cc) (fun _ => ?_)
            refine lv_iconst (v := 0) hx hb dX5_readPerson_60 (by decide) ?_
            exact W.zret (v := 0) hx hb hr rfl (fun t ht hW => ⟨⟨0, (st25, sl26, so27), rfl, ⟨hG, hO, Or.inr (⟨rfl, by show ¬ st25 1 13 = 0; exact hf28⟩)⟩, xB.of ht hP⟩, hS.F ht⟩) hS.2.2 dX5_readPerson_61
        · refine lv_if_eq (tgt := 60) hx hb dX5_readPerson_47 (by decide) (fun _ => ?_) (fun cc => absurd (by decide) cc)
          refine lv_iconst (v := 0) hx hb dX5_readPerson_60 (by decide) ?_
          exact W.zret (v := 0) hx hb hr rfl (fun t ht hW => ⟨⟨0, (st20, sl21, so22), rfl, ⟨hG, hO, Or.inr (⟨rfl, by show ¬ st20 1 13 = 0; exact hf23⟩)⟩, xB.of ht hP⟩, hS.F ht⟩) hS.2.2 dX5_readPerson_61
      · refine lv_if_ne (tgt := 38) hx hb dX5_readPerson_33 (by decide) (fun cc => absurd (by decide) cc) (fun _ => ?_)
        refine lv_iconst (v := 0) hx hb dX5_readPerson_36 (by decide) ?_
        exact W.zret (v := 0) hx hb hr rfl (fun t ht hW => ⟨⟨0, (st12, sl13, so14), rfl, ⟨hG, hO, Or.inr (⟨rfl, by show ¬ st12 1 13 = 0; exact hf18⟩)⟩, xB.of ht hP⟩, hS.F ht⟩) hS.2.2 dX5_readPerson_37
    · refine lv_if_eq (tgt := 36) hx hb dX5_readPerson_24 (by decide) (fun _ => ?_) (fun cc => absurd (by decide) cc)
      refine lv_iconst (v := 0) hx hb dX5_readPerson_36 (by decide) ?_
      exact W.zret (v := 0) hx hb hr rfl (fun t ht hW => ⟨⟨0, (st7, sl8, so9), rfl, ⟨hG, hO, Or.inr (⟨rfl, by show ¬ st7 1 13 = 0; exact hf10⟩)⟩, xB.of ht hP⟩, hS.F ht⟩) hS.2.2 dX5_readPerson_37
  · have c1 : ¬ n1 < 8 := fun hh => c1 ((nI_ltI (a := n1) (b := 8) (by omega) (by omega)).mpr hh)
    refine lv_aload_n hx hb dX5_readPerson_9 rfl (lv_at hl 1 rfl) ?_
    refine lv_iconst (v := 4) hx hb dX5_readPerson_10 (by decide) ?_
    refine va_calli (va_runV (As := [.int 4]) (rest := []) ⟨hx, hb, hml, hown, hts⟩ (x_X8_refuse l dC dI ad E hEE A C nb _ hN st sl so 4  hG.1) (cwV 1 hts gX5_readPerson_X8_refuse rfl rfl rfl (by decide +kernel) ⟨Nat.le_of_ble_eq_true rfl, Nat.le_of_ble_eq_true rfl⟩) ⟨fun a U g mk q => ⟨q.1, xPre.blind hEE q.2⟩, va_recv hK hP (ci := 9) (q0 := 1) rfl (xw_is (r := 1) (by omega) (xc_fix (r := 1) (by omega))), fun U hU hW => ⟨rfl, xPre.of hEE hP hK hE hS hU hW⟩⟩ rfl rfl hl.1 rfl (lv_room (Nat.le_of_ble_eq_true rfl)) dX5_readPerson_11 ⟨Nat.le_of_ble_eq_true rfl, Nat.le_of_ble_eq_true rfl⟩) hS (fun q _ h => XA.le hS.1 q h) (XA.le hS.1) (fun r48 x t H locs ht hvm hw hB _ _ hS => ?_)
    have hP := xB.at ht hB
    clear hB ht hvm
    obtain ⟨st49, sl50, so51⟩ := x
    obtain ⟨hGst49, hLGst49, hOst49, hw⟩ := hw
    dsimp only at hGst49 hLGst49 hOst49 hw
    replace hOst49 := hOst49.symm
    subst hOst49
    have hP : va_P (dC, dI) vwCl (xw A C nb st49 sl50 so) _ := hP
    have hG : XG [1, 2, 3, 4, 5, 6, 8, 9, 12, 13, 14, 15] st st49 := hG.tr hGst49 (by decide)
    obtain ⟨rfl, hf52⟩ := hw
    exact W.zret (v := 0) hx hb hr rfl (fun t ht hW => ⟨⟨0, (st49, sl50, so), rfl, ⟨hG, hO, Or.inr (⟨rfl, by show ¬ st49 1 13 = 0; rw [hf52]; decide⟩)⟩, xB.of ht hP⟩, hS.F ht⟩) hS.2.2 dX5_readPerson_14
set_option maxHeartbeats 4000000 in
set_option maxRecDepth 100000 in
theorem x_X5_readDog (l : Launch) (dC : Nat → ClassId) (dI : Nat → Nat → Nat) (ad : Nat → Nat) (E : EP) (hEE : EC ad E) (A : Nat → Nat) (C : Nat → ClassId) (nb sz : Nat) (hN : XN A) (st : Nat → Nat → Int32) (sl : Nat → Nat → Int64) (so : Nat → XR) (hI : XI st) (hOI : OI ad so) : Met l yX5_readDog wsX5_readDog ({ frames := 7, cells := 0, slots := 0, locals := 152 }) (va_Pc [.ref (A 3), .ref (A 1), .ref (A (36 + 20 * 1))] (xPre E dC dI A C nb sz st sl so)) (va_Qi (fun (r : Int32) (x : XT) => XG [1, 2, 3, 4, 5, 6, 8, 9, 12, 13, 14, 15] st x.1 ∧ OG ad [2, 3, 4] so x.2.2 ∧ ((r = 1) ∨ (r = 0 ∧ ¬ x.1 1 13 = 0))) (xB dC dI A C nb) (XA A sz)) 0 0 (XA A sz) := by
  refine Met.ofW (cc := cX5_readDog) (maxL := 6) (ret := (some .boolean)) (by decide) rfl ?_
  intro p e s m args below meth c s₁ B hml hv
  obtain ⟨rfl, hsz, hP, hK, hE⟩ := hv
  have hx := B.exec
  have hb := B.bytes
  have hr := B.returns
  have hts := atoms_spec (ws := wsX5_readDog) B.pre
  have hown : s.vm.findClass RX5 = some m.cls := findClass_of_methodNamed B.named
  subst hsz
  have hEv := hEE.1 _ _ _ hE
  have hS : va_S (XA A s.heap.size) s.heap s.heap [] := va_S.rf
  have hG : XG [1, 2, 3, 4, 5, 6, 8, 9, 12, 13, 14, 15] st st := XG.rf hI
  have hO : OG ad [2, 3, 4] so so := OG.rf hOI
  have hl := lv_entry ([.ref (A 3), .ref (A 1), .ref (A (36 + 20 * 1))]) (n := 6) (Nat.le_of_ble_eq_true rfl)
  rw [lg_entry_eq]
  generalize (lg_sl ([.ref (A 3), .ref (A 1), .ref (A (36 + 20 * 1))]) ++ List.replicate (6 - (lg_sl ([.ref (A 3), .ref (A 1), .ref (A (36 + 20 * 1))])).length) Slot.unset).toArray = ls at hl ⊢
  have hl : lv_has ls 6 [(0, .ref (A 3)), (1, .ref (A 1)), (2, .ref (A (36 + 20 * 1)))] := hl
  refine lv_aload_n hx hb dX5_readDog_0 rfl (lv_at hl 2 rfl) ?_
  refine va_getN (host := "OffTheLead") (D := (dC, dI)) (ci := 5) (v := .int (st (36 + 20 * 1) 7)) (C := RX4) (T := TX4) (N := 12) hx hb hts ii_X5_readDog_X4 hown hK hP (36 + 20 * 1) (xw_is (r := (36 + 20 * 1)) (by omega) (xc_pk (i := 1) (o := 0) (by omega) (by omega))) rfl 7 (by decide) (va_Nw.use rfl (nf_X5_132 hEv)) (fun _ hh => hh) rfl dX5_readDog_1 ?_
  obtain ⟨n1, hn1, en1⟩ := hG.1.at (r := (36 + 20 * 1)) (k := 7) (b := 7) ((xrg_pk (i := 1) (o := 0) (k := 7) (by omega)).trans (by first | rfl | decide)) (by decide)
  refine zz_top (v := nI n1) (by exact en1) ?_
  refine lv_bipush (v := 6) hx hb dX5_readDog_4 (by decide) ?_
  refine lv_icmp_lt (tgt := 15) hx hb dX5_readDog_6 (by decide) (fun c1 => ?_) (fun c1 => ?_)
  · have c1 : n1 < 6 := (nI_ltI (a := n1) (b := 6) (by omega) (by omega)).mp c1
    refine lv_aload_n hx hb dX5_readDog_15 rfl (lv_at hl 1 rfl) ?_
    refine va_callv (va_runV (As := []) (rest := []) ⟨hx, hb, hml, hown, hts⟩ (x_X8_step l dC dI ad E hEE A C nb _ hN st sl so  hG.1 hO.1) (cwV 0 hts gX5_readDog_X8_step rfl rfl rfl (by decide +kernel) ⟨Nat.le_of_ble_eq_true rfl, Nat.le_of_ble_eq_true rfl⟩) ⟨fun a U g mk q => ⟨q.1, xPre.blind hEE q.2⟩, va_recv hK hP (ci := 9) (q0 := 1) rfl (xw_is (r := 1) (by omega) (xc_fix (r := 1) (by omega))), fun U hU hW => ⟨rfl, xPre.of hEE hP hK hE hS hU hW⟩⟩ rfl rfl hl.1 rfl (lv_room (Nat.le_of_ble_eq_true rfl)) dX5_readDog_16 ⟨Nat.le_of_ble_eq_true rfl, Nat.le_of_ble_eq_true rfl⟩) hS (fun q _ h => XA.le hS.1 q h) (XA.le hS.1) (fun x t H locs ht hvm hw hB _ _ hS => ?_)
    have hP := xB.at ht hB
    clear hB ht hvm
    obtain ⟨st3, sl4, so5⟩ := x
    obtain ⟨hGst3, hLGst3, hOst3, hw⟩ := hw
    dsimp only at hGst3 hLGst3 hOst3 hw
    have hO : OG ad [2, 3, 4] so so5 := hO.tr hOst3 (by decide)
    have hP : va_P (dC, dI) vwCl (xw A C nb st3 sl4 so5) _ := hP
    have hG : XG [1, 2, 3, 4, 5, 6, 8, 9, 12, 13, 14, 15] st st3 := hG.tr hGst3 (by decide)
    clear hw
    refine lv_aload_n hx hb dX5_readDog_19 rfl (lv_at hl 1 rfl) ?_
    refine lv_aload_n hx hb dX5_readDog_20 rfl (lv_at hl 2 rfl) ?_
    refine va_calli (va_runV (As := [.ref (A (36 + 20 * 1))]) (rest := []) ⟨hx, hb, hml, hown, hts⟩ (x_X8_takeNewName l dC dI ad E hEE A C nb _ hN st3 sl4 so5 1 (by omega) hG.1 hO.1) (cwV 1 hts gX5_readDog_X8_takeNewName rfl rfl rfl (by decide +kernel) ⟨Nat.le_of_ble_eq_true rfl, Nat.le_of_ble_eq_true rfl⟩) ⟨fun a U g mk q => ⟨q.1, xPre.blind hEE q.2⟩, va_recv hK hP (ci := 9) (q0 := 1) rfl (xw_is (r := 1) (by omega) (xc_fix (r := 1) (by omega))), fun U hU hW => ⟨rfl, xPre.of hEE hP hK hE hS hU hW⟩⟩ rfl rfl hl.1 rfl (lv_room (Nat.le_of_ble_eq_true rfl)) dX5_readDog_21 ⟨Nat.le_of_ble_eq_true rfl, Nat.le_of_ble_eq_true rfl⟩) hS (fun q _ h => XA.le hS.1 q h) (XA.le hS.1) (fun r6 x t H locs ht hvm hw hB _ _ hS => ?_)
    have hP := xB.at ht hB
    clear hB ht hvm
    obtain ⟨st7, sl8, so9⟩ := x
    obtain ⟨hGst7, hLGst7, hOst7, hw⟩ := hw
    dsimp only at hGst7 hLGst7 hOst7 hw
    have hO : OG ad [2, 3, 4] so so9 := hO.tr hOst7 (by decide)
    have hP : va_P (dC, dI) vwCl (xw A C nb st7 sl8 so9) _ := hP
    have hG : XG [1, 2, 3, 4, 5, 6, 8, 9, 12, 13, 14, 15] st st7 := hG.tr hGst7 (by decide)
    rcases hw with rfl | ⟨rfl, hf10⟩
    · refine lv_if_eq (tgt := 36) hx hb dX5_readDog_24 (by decide) (fun cc => absurd cc (by decide)) (fun _ => ?_)
      refine lv_aload_n hx hb dX5_readDog_27 rfl (lv_at hl 1 rfl) ?_
      refine lv_aload_n hx hb dX5_readDog_28 rfl (lv_at hl 2 rfl) ?_
      refine lv_iconst (v := 1) hx hb dX5_readDog_29 (by decide) ?_
      refine va_calli (va_runV (As := [.ref (A (36 + 20 * 1)), .int 1]) (rest := []) ⟨hx, hb, hml, hown, hts⟩ (x_takeNamed1 l dC dI ad E hEE A C nb _ hN st7 sl8 so9 1 (by omega) hG.1 hO.1) (cwV 2 hts gX5_readDog_X8_takeNamed rfl rfl rfl (by decide +kernel) ⟨Nat.le_of_ble_eq_true rfl, Nat.le_of_ble_eq_true rfl⟩) ⟨fun a U g mk q => ⟨q.1, xPre.blind hEE q.2⟩, va_recv hK hP (ci := 9) (q0 := 1) rfl (xw_is (r := 1) (by omega) (xc_fix (r := 1) (by omega))), fun U hU hW => ⟨rfl, xPre.of hEE hP hK hE hS hU hW⟩⟩ rfl rfl hl.1 rfl (lv_room (Nat.le_of_ble_eq_true rfl)) dX5_readDog_30 ⟨Nat.le_of_ble_eq_true rfl, Nat.le_of_ble_eq_true rfl⟩) hS (fun q _ h => XA.le hS.1 q h) (XA.le hS.1) (fun r11 x t H locs ht hvm hw hB _ _ hS => ?_)
      have hP := xB.at ht hB
      clear hB ht hvm
      obtain ⟨st12, sl13, so14⟩ := x
      obtain ⟨hGst12, hLGst12, hOst12, hw⟩ := hw
      dsimp only at hGst12 hLGst12 hOst12 hw
      have hO : OG ad [2, 3, 4] so so14 := hO.tr hOst12 (by decide)
      have hP : va_P (dC, dI) vwCl (xw A C nb st12 sl13 so14) _ := hP
      have hG : XG [1, 2, 3, 4, 5, 6, 8, 9, 12, 13, 14, 15] st st12 := hG.tr hGst12 (by decide)
      rcases hw with ⟨n15, rfl, hf16, hf17⟩ | ⟨rfl, hf18⟩
      · refine lv_if_ne (tgt := 38) hx hb dX5_readDog_33 (by decide) (fun _ => ?_) (fun cc => absurd cc (by decide))
        refine lv_aload_n hx hb dX5_readDog_38 rfl (lv_at hl 1 rfl) ?_
        refine va_getN (host := "OffTheLead") (D := (dC, dI)) (ci := 9) (v := .int (st12 1 9)) (C := RX8) (T := TX8) (N := 15) hx hb hts ii_X5_readDog_X8 hown hK hP 1 (xw_is (r := 1) (by omega) (xc_fix (r := 1) (by omega))) rfl 9 (by decide) (va_Nw.use rfl (nf_X5_101 hEv)) (fun _ hh => hh) rfl dX5_readDog_39 ?_
        refine zz_top (v := (nI n15)) (by show st12 1 9 = _; rw [hf16]) ?_
        refine lv_istore_n (lv' := [(3, .int (nI n15)), (0, .ref (A 3)), (1, .ref (A 1)), (2, .ref (A (36 + 20 * 1)))]) hx hb dX5_readDog_42 rfl hl (by decide) rfl (fun ls hl => ?_)
        refine lv_aload_n hx hb dX5_readDog_43 rfl (lv_at hl 2 rfl) ?_
        refine lv_iconst (v := 0) hx hb dX5_readDog_44 (by decide) ?_
        refine lv_bipush (v := 12) hx hb dX5_readDog_45 (by decide) ?_
        refine va_calli (va_runV (As := [.int 0, .int 12]) (rest := []) ⟨hx, hb, hml, hown, hts⟩ (x_X8_takeNumber l dC dI ad E hEE A C nb _ hN st12 sl13 so14 0 12  hG.1 hO.1) (cwV 2 hts gX5_readDog_X8_takeNumber rfl rfl rfl (by decide +kernel) ⟨Nat.le_of_ble_eq_true rfl, Nat.le_of_ble_eq_true rfl⟩) ⟨fun a U g mk q => ⟨q.1, xPre.blind hEE q.2⟩, va_recv hK hP (ci := 9) (q0 := 1) rfl (xw_is (r := 1) (by omega) (xc_fix (r := 1) (by omega))), fun U hU hW => ⟨rfl, xPre.of hEE hP hK hE hS hU hW⟩⟩ rfl rfl hl.1 rfl (lv_room (Nat.le_of_ble_eq_true rfl)) dX5_readDog_47 ⟨Nat.le_of_ble_eq_true rfl, Nat.le_of_ble_eq_true rfl⟩) hS (fun q _ h => XA.le hS.1 q h) (XA.le hS.1) (fun r19 x t H locs ht hvm hw hB _ _ hS => ?_)
        have hP := xB.at ht hB
        clear hB ht hvm
        obtain ⟨st20, sl21, so22⟩ := x
        obtain ⟨hGst20, hLGst20, hOst20, hw⟩ := hw
        dsimp only at hGst20 hLGst20 hOst20 hw
        have hO : OG ad [2, 3, 4] so so22 := hO.tr hOst20 (by decide)
        have hP : va_P (dC, dI) vwCl (xw A C nb st20 sl21 so22) _ := hP
        have hG : XG [1, 2, 3, 4, 5, 6, 8, 9, 12, 13, 14, 15] st st20 := hG.tr hGst20 (by decide)
        rcases hw with rfl | ⟨rfl, hf23⟩
        · refine lv_if_ne (tgt := 55) hx hb dX5_readDog_50 (by decide) (fun _ => ?_) (fun cc => absurd cc (by decide))
          refine lv_aload_n hx hb dX5_readDog_55 rfl (lv_at hl 2 rfl) ?_
          refine va_getN (host := "OffTheLead") (D := (dC, dI)) (ci := 9) (v := .int (st20 1 9)) (C := RX8) (T := TX8) (N := 15) hx hb hts ii_X5_readDog_X8 hown hK hP 1 (xw_is (r := 1) (by omega) (xc_fix (r := 1) (by omega))) rfl 9 (by decide) (va_Nw.use rfl (nf_X5_101 hEv)) (fun _ hh => hh) rfl dX5_readDog_56 ?_
          obtain ⟨z24, ez24⟩ : ∃ y : Int32, st20 1 9 = y := ⟨_, rfl⟩
          refine zz_top (v := z24) (by exact ez24) ?_
          refine lv_istore (lv' := [(4, .int z24), (3, .int (nI n15)), (0, .ref (A 3)), (1, .ref (A 1)), (2, .ref (A (36 + 20 * 1)))]) hx hb dX5_readDog_59 hl (by decide) rfl (fun ls hl => ?_)
          refine lv_aload_n hx hb dX5_readDog_61 rfl (lv_at hl 3 rfl) ?_
          refine lv_iconst (v := 0) hx hb dX5_readDog_62 (by decide) ?_
          refine lv_bipush (v := 12) hx hb dX5_readDog_63 (by decide) ?_
          refine va_calli (va_runV (As := [.int 0, .int 12]) (rest := []) ⟨hx, hb, hml, hown, hts⟩ (x_X8_takeNumber l dC dI ad E hEE A C nb _ hN st20 sl21 so22 0 12  hG.1 hO.1) (cwV 2 hts gX5_readDog_X8_takeNumber rfl rfl rfl (by decide +kernel) ⟨Nat.le_of_ble_eq_true rfl, Nat.le_of_ble_eq_true rfl⟩) ⟨fun a U g mk q => ⟨q.1, xPre.blind hEE q.2⟩, va_recv hK hP (ci := 9) (q0 := 1) rfl (xw_is (r := 1) (by omega) (xc_fix (r := 1) (by omega))), fun U hU hW => ⟨rfl, xPre.of hEE hP hK hE hS hU hW⟩⟩ rfl rfl hl.1 rfl (lv_room (Nat.le_of_ble_eq_true rfl)) dX5_readDog_65 ⟨Nat.le_of_ble_eq_true rfl, Nat.le_of_ble_eq_true rfl⟩) hS (fun q _ h => XA.le hS.1 q h) (XA.le hS.1) (fun r25 x t H locs ht hvm hw hB _ _ hS => ?_)
          have hP := xB.at ht hB
          clear hB ht hvm
          obtain ⟨st26, sl27, so28⟩ := x
          obtain ⟨hGst26, hLGst26, hOst26, hw⟩ := hw
          dsimp only at hGst26 hLGst26 hOst26 hw
          have hO : OG ad [2, 3, 4] so so28 := hO.tr hOst26 (by decide)
          have hP : va_P (dC, dI) vwCl (xw A C nb st26 sl27 so28) _ := hP
          have hG : XG [1, 2, 3, 4, 5, 6, 8, 9, 12, 13, 14, 15] st st26 := hG.tr hGst26 (by decide)
          rcases hw with rfl | ⟨rfl, hf29⟩
          · refine lv_if_ne (tgt := 73) hx hb dX5_readDog_68 (by decide) (fun _ => ?_) (fun cc => absurd cc (by decide))
            refine lv_aload_n hx hb dX5_readDog_73 rfl (lv_at hl 4 rfl) ?_
            refine lv_aload_n hx hb dX5_readDog_74 rfl (lv_at hl 3 rfl) ?_
            refine va_getN (host := "OffTheLead") (D := (dC, dI)) (ci := 9) (v := .long (sl27 1 10)) (C := RX8) (T := TX8) (N := 15) hx hb hts ii_X5_readDog_X8 hown hK hP 1 (xw_is (r := 1) (by omega) (xc_fix (r := 1) (by omega))) rfl 10 (by decide) (va_Nw.use rfl (nf_X5_83 hEv)) (fun _ hh => hh) rfl dX5_readDog_75 ?_
            refine lv_topl (fun z30 ez30 => ?_)
            clear ez30
            refine lv_iload_n hx hb dX5_readDog_78 rfl (lv_at hl 1 rfl) ?_
            refine va_callr (va_runV (As := [.long z30, .int (nI n15)]) (rest := []) ⟨hx, hb, hml, hown, hts⟩ (x_X4_addDog l dC dI ad E hEE A C nb _ hN st26 sl27 so28 1 z30 n15 n1 (by omega) (by omega) hG.1 (by rw [hGst26.2 (36 + 20 * 1) 7 (by rw [((xcl_pk (i := 1) (o := 0) (k := 7) (by omega)).trans (by first | rfl | decide))]; decide), hGst20.2 (36 + 20 * 1) 7 (by rw [((xcl_pk (i := 1) (o := 0) (k := 7) (by omega)).trans (by first | rfl | decide))]; decide), hGst12.2 (36 + 20 * 1) 7 (by rw [((xcl_pk (i := 1) (o := 0) (k := 7) (by omega)).trans (by first | rfl | decide))]; decide), hGst7.2 (36 + 20 * 1) 7 (by rw [((xcl_pk (i := 1) (o := 0) (k := 7) (by omega)).trans (by first | rfl | decide))]; decide), hGst3.2 (36 + 20 * 1) 7 (by rw [((xcl_pk (i := 1) (o := 0) (k := 7) (by omega)).trans (by first | rfl | decide))]; decide), en1]) (by omega)) (cwV 2 hts gX5_readDog_X4_addDog rfl rfl rfl (by decide +kernel) ⟨Nat.le_of_ble_eq_true rfl, Nat.le_of_ble_eq_true rfl⟩) ⟨fun a U g mk q => ⟨q.1, xPre.blind hEE q.2⟩, va_recv hK hP (ci := 5) (q0 := (36 + 20 * 1)) rfl (xw_is (r := (36 + 20 * 1)) (by omega) (xc_pk (i := 1) (o := 0) (by omega) (by omega))), fun U hU hW => ⟨rfl, xPre.of hEE hP hK hE hS hU hW⟩⟩ rfl rfl hl.1 rfl (lv_room (Nat.le_of_ble_eq_true rfl)) dX5_readDog_79 ⟨Nat.le_of_ble_eq_true rfl, Nat.le_of_ble_eq_true rfl⟩) hS (fun q _ h => XA.le hS.1 q h) (XA.le hS.1) (fun x r31 t H locs ht hvm hw hB _ _ hS => ?_)
            obtain ⟨hw, hB⟩ := hB
            have hP := xB.at ht hB
            clear hB ht hvm
            obtain ⟨st32, sl33, so34⟩ := x
            obtain ⟨hGst32, hOst32, hw⟩ := hw
            dsimp only at hGst32 hOst32 hw
            replace hOst32 := hOst32.symm
            subst hOst32
            have hP : va_P (dC, dI) vwCl (xw A C nb st32 sl33 so28) _ := hP
            have hG : XG [1, 2, 3, 4, 5, 6, 8, 9, 12, 13, 14, 15] st st32 := hG.tr hGst32 (by decide)
            obtain ⟨n35, rfl, hf36⟩ := hw
            refine lv_astore (lv' := [(5, .ref (A (36 + 20 * 1 + (14 + n35)))), (4, .int z24), (3, .int (nI n15)), (0, .ref (A 3)), (1, .ref (A 1)), (2, .ref (A (36 + 20 * 1)))]) hx hb dX5_readDog_82 hl (by decide) rfl (fun ls hl => ?_)
            refine lv_aload hx hb dX5_readDog_84 (lv_at hl 0 rfl) ?_
            refine lv_iload hx hb dX5_readDog_86 (lv_at hl 1 rfl) ?_
            refine va_putN (host := "OffTheLead") (D := (dC, dI)) (ci := 3) (v := .int z24) (ty := .int) (C := RX2) (T := TX2) (N := 7) hx hb hts ii_X5_readDog_X2 tyX2 tyX2_ok nmX2 hown hK hP (xD hN _ _ _ _ _ _) hS (36 + 20 * 1 + (14 + n35)) (xw_is (r := (36 + 20 * 1 + (14 + n35))) (by omega) (xc_dog (i := 1) (p := n35) (by omega) (by omega))) rfl 2 (by decide) (va_Nw.use rfl (nf_X5_139 hEv)) (fun _ hh => hh) rfl (by decide +kernel) rfl rfl (Nat.le_of_ble_eq_true rfl) dX5_readDog_88 (fun H locs hP _ hS => ?_)
            have hP : va_P (dC, dI) vwCl (xw A C nb (up2 st32 (36 + 20 * 1 + (14 + n35)) 2 z24) sl33 so28) H := by rw [← xset (r := (36 + 20 * 1 + (14 + n35))) (k := 2) (v := z24) (xc_dog (i := 1) (p := n35) (by omega) (by omega))]; exact hP
            obtain ⟨st37, est37⟩ : ∃ y, y = up2 st32 (36 + 20 * 1 + (14 + n35)) 2 z24 := ⟨_, rfl⟩
            have hG : XG [1, 2, 3, 4, 5, 6, 8, 9, 12, 13, 14, 15] st st37 := by rw [est37]; exact hG.up (xz (r := (36 + 20 * 1 + (14 + n35))) (k := 2) ((xrg_do (i := 1) (p := n35) (by omega)).trans (by decide))) (xpn (c := 0) (xcl_do (i := 1) (p := n35) (k := 2) (by omega)) (by decide))
            rw [← est37] at hP
            refine lv_aload hx hb dX5_readDog_91 (lv_at hl 0 rfl) ?_
            refine lv_aload_n hx hb dX5_readDog_93 rfl (lv_at hl 4 rfl) ?_
            refine va_getN (host := "OffTheLead") (D := (dC, dI)) (ci := 9) (v := .int (st37 1 9)) (C := RX8) (T := TX8) (N := 15) hx hb hts ii_X5_readDog_X8 hown hK hP 1 (xw_is (r := 1) (by omega) (xc_fix (r := 1) (by omega))) rfl 9 (by decide) (va_Nw.use rfl (nf_X5_101 hEv)) (fun _ hh => hh) rfl dX5_readDog_94 ?_
            obtain ⟨z38, ez38⟩ : ∃ y : Int32, st37 1 9 = y := ⟨_, rfl⟩
            refine zz_top (v := z38) (by exact ez38) ?_
            refine va_putN (host := "OffTheLead") (D := (dC, dI)) (ci := 3) (v := .int z38) (ty := .int) (C := RX2) (T := TX2) (N := 7) hx hb hts ii_X5_readDog_X2 tyX2 tyX2_ok nmX2 hown hK hP (xD hN _ _ _ _ _ _) hS (36 + 20 * 1 + (14 + n35)) (xw_is (r := (36 + 20 * 1 + (14 + n35))) (by omega) (xc_dog (i := 1) (p := n35) (by omega) (by omega))) rfl 3 (by decide) (va_Nw.use rfl (nf_X5_144 hEv)) (fun _ hh => hh) rfl (by decide +kernel) rfl rfl (Nat.le_of_ble_eq_true rfl) dX5_readDog_97 (fun H locs hP _ hS => ?_)
            have hP : va_P (dC, dI) vwCl (xw A C nb (up2 st37 (36 + 20 * 1 + (14 + n35)) 3 z38) sl33 so28) H := by rw [← xset (r := (36 + 20 * 1 + (14 + n35))) (k := 3) (v := z38) (xc_dog (i := 1) (p := n35) (by omega) (by omega))]; exact hP
            obtain ⟨st39, est39⟩ : ∃ y, y = up2 st37 (36 + 20 * 1 + (14 + n35)) 3 z38 := ⟨_, rfl⟩
            have hG : XG [1, 2, 3, 4, 5, 6, 8, 9, 12, 13, 14, 15] st st39 := by rw [est39]; exact hG.up (xz (r := (36 + 20 * 1 + (14 + n35))) (k := 3) ((xrg_do (i := 1) (p := n35) (by omega)).trans (by decide))) (xpn (c := 0) (xcl_do (i := 1) (p := n35) (k := 3) (by omega)) (by decide))
            rw [← est39] at hP
            refine lv_aload_n hx hb dX5_readDog_100 rfl (lv_at hl 4 rfl) ?_
            refine lv_bipush (v := 59) hx hb dX5_readDog_101 (by decide) ?_
            refine va_calli (va_runV (As := [.int 59]) (rest := []) ⟨hx, hb, hml, hown, hts⟩ (x_X8_takeMark l dC dI ad E hEE A C nb _ hN st39 sl33 so28 59  hG.1 hO.1) (cwV 1 hts gX5_readDog_X8_takeMark rfl rfl rfl (by decide +kernel) ⟨Nat.le_of_ble_eq_true rfl, Nat.le_of_ble_eq_true rfl⟩) ⟨fun a U g mk q => ⟨q.1, xPre.blind hEE q.2⟩, va_recv hK hP (ci := 9) (q0 := 1) rfl (xw_is (r := 1) (by omega) (xc_fix (r := 1) (by omega))), fun U hU hW => ⟨rfl, xPre.of hEE hP hK hE hS hU hW⟩⟩ rfl rfl hl.1 rfl (lv_room (Nat.le_of_ble_eq_true rfl)) dX5_readDog_103 ⟨Nat.le_of_ble_eq_true rfl, Nat.le_of_ble_eq_true rfl⟩) hS (fun q _ h => XA.le hS.1 q h) (XA.le hS.1) (fun r40 x t H locs ht hvm hw hB _ _ hS => ?_)
            have hP := xB.at ht hB
            clear hB ht hvm
            obtain ⟨st41, sl42, so43⟩ := x
            obtain ⟨hGst41, hLGst41, hOst41, hw⟩ := hw
            dsimp only at hGst41 hLGst41 hOst41 hw
            have hO : OG ad [2, 3, 4] so so43 := hO.tr hOst41 (by decide)
            have hP : va_P (dC, dI) vwCl (xw A C nb st41 sl42 so43) _ := hP
            have hG : XG [1, 2, 3, 4, 5, 6, 8, 9, 12, 13, 14, 15] st st41 := hG.tr hGst41 (by decide)
            rcases hw with rfl | ⟨rfl, hf44⟩
            · exact W.zret (v := 1) hx hb hr rfl (fun t ht hW => ⟨⟨1, (st41, sl42, so43), rfl, ⟨hG, hO, Or.inl (rfl)⟩, xB.of ht hP⟩, hS.F ht⟩) hS.2.2 dX5_readDog_106
            · exact W.zret (v := 0) hx hb hr rfl (fun t ht hW => ⟨⟨0, (st41, sl42, so43), rfl, ⟨hG, hO, Or.inr (⟨rfl, by show ¬ st41 1 13 = 0; exact hf44⟩)⟩, xB.of ht hP⟩, hS.F ht⟩) hS.2.2 dX5_readDog_106
          · refine lv_if_ne (tgt := 73) hx hb dX5_readDog_68 (by decide) (fun cc => absurd (by decide) cc) (fun _ => ?_)
            refine lv_iconst (v := 0) hx hb dX5_readDog_71 (by decide) ?_
            exact W.zret (v := 0) hx hb hr rfl (fun t ht hW => ⟨⟨0, (st26, sl27, so28), rfl, ⟨hG, hO, Or.inr (⟨rfl, by show ¬ st26 1 13 = 0; exact hf29⟩)⟩, xB.of ht hP⟩, hS.F ht⟩) hS.2.2 dX5_readDog_72
        · refine lv_if_ne (tgt := 55) hx hb dX5_readDog_50 (by decide) (fun cc => absurd (by decide) cc) (fun _ => ?_)
          refine lv_iconst (v := 0) hx hb dX5_readDog_53 (by decide) ?_
          exact W.zret (v := 0) hx hb hr rfl (fun t ht hW => ⟨⟨0, (st20, sl21, so22), rfl, ⟨hG, hO, Or.inr (⟨rfl, by show ¬ st20 1 13 = 0; exact hf23⟩)⟩, xB.of ht hP⟩, hS.F ht⟩) hS.2.2 dX5_readDog_54
      · refine lv_if_ne (tgt := 38) hx hb dX5_readDog_33 (by decide) (fun cc => absurd (by decide) cc) (fun _ => ?_)
        refine lv_iconst (v := 0) hx hb dX5_readDog_36 (by decide) ?_
        exact W.zret (v := 0) hx hb hr rfl (fun t ht hW => ⟨⟨0, (st12, sl13, so14), rfl, ⟨hG, hO, Or.inr (⟨rfl, by show ¬ st12 1 13 = 0; exact hf18⟩)⟩, xB.of ht hP⟩, hS.F ht⟩) hS.2.2 dX5_readDog_37
    · refine lv_if_eq (tgt := 36) hx hb dX5_readDog_24 (by decide) (fun _ => ?_) (fun cc => absurd (by decide) cc)
      refine lv_iconst (v := 0) hx hb dX5_readDog_36 (by decide) ?_
      exact W.zret (v := 0) hx hb hr rfl (fun t ht hW => ⟨⟨0, (st7, sl8, so9), rfl, ⟨hG, hO, Or.inr (⟨rfl, by show ¬ st7 1 13 = 0; exact hf10⟩)⟩, xB.of ht hP⟩, hS.F ht⟩) hS.2.2 dX5_readDog_37
  · have c1 : ¬ n1 < 6 := fun hh => c1 ((nI_ltI (a := n1) (b := 6) (by omega) (by omega)).mpr hh)
    refine lv_aload_n hx hb dX5_readDog_9 rfl (lv_at hl 1 rfl) ?_
    refine lv_iconst (v := 4) hx hb dX5_readDog_10 (by decide) ?_
    refine va_calli (va_runV (As := [.int 4]) (rest := []) ⟨hx, hb, hml, hown, hts⟩ (x_X8_refuse l dC dI ad E hEE A C nb _ hN st sl so 4  hG.1) (cwV 1 hts gX5_readDog_X8_refuse rfl rfl rfl (by decide +kernel) ⟨Nat.le_of_ble_eq_true rfl, Nat.le_of_ble_eq_true rfl⟩) ⟨fun a U g mk q => ⟨q.1, xPre.blind hEE q.2⟩, va_recv hK hP (ci := 9) (q0 := 1) rfl (xw_is (r := 1) (by omega) (xc_fix (r := 1) (by omega))), fun U hU hW => ⟨rfl, xPre.of hEE hP hK hE hS hU hW⟩⟩ rfl rfl hl.1 rfl (lv_room (Nat.le_of_ble_eq_true rfl)) dX5_readDog_11 ⟨Nat.le_of_ble_eq_true rfl, Nat.le_of_ble_eq_true rfl⟩) hS (fun q _ h => XA.le hS.1 q h) (XA.le hS.1) (fun r45 x t H locs ht hvm hw hB _ _ hS => ?_)
    have hP := xB.at ht hB
    clear hB ht hvm
    obtain ⟨st46, sl47, so48⟩ := x
    obtain ⟨hGst46, hLGst46, hOst46, hw⟩ := hw
    dsimp only at hGst46 hLGst46 hOst46 hw
    replace hOst46 := hOst46.symm
    subst hOst46
    have hP : va_P (dC, dI) vwCl (xw A C nb st46 sl47 so) _ := hP
    have hG : XG [1, 2, 3, 4, 5, 6, 8, 9, 12, 13, 14, 15] st st46 := hG.tr hGst46 (by decide)
    obtain ⟨rfl, hf49⟩ := hw
    exact W.zret (v := 0) hx hb hr rfl (fun t ht hW => ⟨⟨0, (st46, sl47, so), rfl, ⟨hG, hO, Or.inr (⟨rfl, by show ¬ st46 1 13 = 0; rw [hf49]; decide⟩)⟩, xB.of ht hP⟩, hS.F ht⟩) hS.2.2 dX5_readDog_14
set_option maxHeartbeats 4000000 in
set_option maxRecDepth 100000 in
theorem x_X5_readFree (l : Launch) (dC : Nat → ClassId) (dI : Nat → Nat → Nat) (ad : Nat → Nat) (E : EP) (hEE : EC ad E) (A : Nat → Nat) (C : Nat → ClassId) (nb sz : Nat) (hN : XN A) (st : Nat → Nat → Int32) (sl : Nat → Nat → Int64) (so : Nat → XR) (hI : XI st) (hOI : OI ad so) : Met l yX5_readFree wsX5_readFree ({ frames := 8, cells := 0, slots := 0, locals := 172 }) (va_Pc [.ref (A 3), .ref (A 1), .ref (A (36 + 20 * 1))] (xPre E dC dI A C nb sz st sl so)) (va_Qi (fun (r : Int32) (x : XT) => XG [1, 2, 3, 4, 5, 6, 8, 9, 12, 13, 14, 15] st x.1 ∧ OG ad [2, 3, 4] so x.2.2 ∧ ((r = 1) ∨ (r = 0 ∧ ¬ x.1 1 13 = 0))) (xB dC dI A C nb) (XA A sz)) 0 0 (XA A sz) := by
  refine Met.ofW (cc := cX5_readFree) (maxL := 4) (ret := (some .boolean)) (by decide) rfl ?_
  intro p e s m args below meth c s₁ B hml hv
  obtain ⟨rfl, hsz, hP, hK, hE⟩ := hv
  have hx := B.exec
  have hb := B.bytes
  have hr := B.returns
  have hts := atoms_spec (ws := wsX5_readFree) B.pre
  have hown : s.vm.findClass RX5 = some m.cls := findClass_of_methodNamed B.named
  subst hsz
  have hEv := hEE.1 _ _ _ hE
  have hS : va_S (XA A s.heap.size) s.heap s.heap [] := va_S.rf
  have hG : XG [1, 2, 3, 4, 5, 6, 8, 9, 12, 13, 14, 15] st st := XG.rf hI
  have hO : OG ad [2, 3, 4] so so := OG.rf hOI
  have hl := lv_entry ([.ref (A 3), .ref (A 1), .ref (A (36 + 20 * 1))]) (n := 4) (Nat.le_of_ble_eq_true rfl)
  rw [lg_entry_eq]
  generalize (lg_sl ([.ref (A 3), .ref (A 1), .ref (A (36 + 20 * 1))]) ++ List.replicate (4 - (lg_sl ([.ref (A 3), .ref (A 1), .ref (A (36 + 20 * 1))])).length) Slot.unset).toArray = ls at hl ⊢
  have hl : lv_has ls 4 [(0, .ref (A 3)), (1, .ref (A 1)), (2, .ref (A (36 + 20 * 1)))] := hl
  refine lv_aload_n hx hb dX5_readFree_0 rfl (lv_at hl 0 rfl) ?_
  refine va_get (D := (dC, dI)) (ci := 6) (v := .int (st 3 0)) (C := RX5) (T := TX5) (N := 2) hx hb hts ii_X5_readFree_X5 hown hK hP 3 (xw_is (r := 3) (by omega) (xc_fix (r := 3) (by omega))) rfl 0 (by decide) (hts _ mm_X5_readFree_1) (fun _ hh => hh) rfl dX5_readFree_1 ?_
  obtain ⟨z1, ez1⟩ : ∃ y : Int32, st 3 0 = y := ⟨_, rfl⟩
  refine zz_top (v := z1) (by exact ez1) ?_
  refine lv_bipush (v := 12) hx hb dX5_readFree_4 (by decide) ?_
  refine lv_icmp_lt (tgt := 15) hx hb dX5_readFree_6 (by decide) (fun c1 => ?_) (fun c1 => ?_)
  · refine lv_aload_n hx hb dX5_readFree_15 rfl (lv_at hl 0 rfl) ?_
    refine lv_dup hx hb dX5_readFree_16 rfl ?_
    refine va_get (D := (dC, dI)) (ci := 6) (v := .int (st 3 0)) (C := RX5) (T := TX5) (N := 2) hx hb hts ii_X5_readFree_X5 hown hK hP 3 (xw_is (r := 3) (by omega) (xc_fix (r := 3) (by omega))) rfl 0 (by decide) (hts _ mm_X5_readFree_1) (fun _ hh => hh) rfl dX5_readFree_17 ?_
    refine zz_top (v := z1) (by show st 3 0 = _; rw [ez1]) ?_
    refine lv_iconst (v := 1) hx hb dX5_readFree_20 (by decide) ?_
    refine lv_iadd hx hb dX5_readFree_21 ?_
    refine lv_topi (fun z2 ez2 => ?_)
    clear ez2
    refine va_put (D := (dC, dI)) (ci := 6) (v := .int z2) (ty := .int) (C := RX5) (T := TX5) (N := 2) hx hb hts ii_X5_readFree_X5 tyX5 tyX5_ok nmX5 hown hK hP (xD hN _ _ _ _ _ _) hS 3 (xw_is (r := 3) (by omega) (xc_fix (r := 3) (by omega))) rfl 0 (by decide) (hts _ mm_X5_readFree_1) (fun _ hh => hh) rfl (by decide +kernel) rfl rfl (Nat.le_of_ble_eq_true rfl) dX5_readFree_22 (fun H locs hP _ hS => ?_)
    have hP : va_P (dC, dI) vwCl (xw A C nb (up2 st 3 0 z2) sl so) H := by rw [← xset (r := 3) (k := 0) (v := z2) (xc_fix (r := 3) (by omega))]; exact hP
    obtain ⟨st3, est3⟩ : ∃ y, y = up2 st 3 0 z2 := ⟨_, rfl⟩
    have hG : XG [1, 2, 3, 4, 5, 6, 8, 9, 12, 13, 14, 15] st st3 := by rw [est3]; exact hG.up (xz (r := 3) (k := 0) (by decide : xrg 3 0 = 0)) (xpn (c := 0) (by decide : xcl 3 0 = 0) (by decide))
    rw [← est3] at hP
    refine lv_aload_n hx hb dX5_readFree_25 rfl (lv_at hl 1 rfl) ?_
    refine va_callv (va_runV (As := []) (rest := []) ⟨hx, hb, hml, hown, hts⟩ (x_X8_step l dC dI ad E hEE A C nb _ hN st3 sl so  hG.1 hO.1) (cwV 0 hts gX5_readFree_X8_step rfl rfl rfl (by decide +kernel) ⟨Nat.le_of_ble_eq_true rfl, Nat.le_of_ble_eq_true rfl⟩) ⟨fun a U g mk q => ⟨q.1, xPre.blind hEE q.2⟩, va_recv hK hP (ci := 9) (q0 := 1) rfl (xw_is (r := 1) (by omega) (xc_fix (r := 1) (by omega))), fun U hU hW => ⟨rfl, xPre.of hEE hP hK hE hS hU hW⟩⟩ rfl rfl hl.1 rfl (lv_room (Nat.le_of_ble_eq_true rfl)) dX5_readFree_26 ⟨Nat.le_of_ble_eq_true rfl, Nat.le_of_ble_eq_true rfl⟩) hS (fun q _ h => XA.le hS.1 q h) (XA.le hS.1) (fun x t H locs ht hvm hw hB _ _ hS => ?_)
    have hP := xB.at ht hB
    clear hB ht hvm
    obtain ⟨st5, sl6, so7⟩ := x
    obtain ⟨hGst5, hLGst5, hOst5, hw⟩ := hw
    dsimp only at hGst5 hLGst5 hOst5 hw
    have hO : OG ad [2, 3, 4] so so7 := hO.tr hOst5 (by decide)
    have hP : va_P (dC, dI) vwCl (xw A C nb st5 sl6 so7) _ := hP
    have hG : XG [1, 2, 3, 4, 5, 6, 8, 9, 12, 13, 14, 15] st st5 := hG.tr hGst5 (by decide)
    clear hw
    refine lv_aload_n hx hb dX5_readFree_29 rfl (lv_at hl 1 rfl) ?_
    refine lv_aload_n hx hb dX5_readFree_30 rfl (lv_at hl 2 rfl) ?_
    refine lv_iconst (v := 0) hx hb dX5_readFree_31 (by decide) ?_
    refine va_calli (va_runV (As := [.ref (A (36 + 20 * 1)), .int 0]) (rest := []) ⟨hx, hb, hml, hown, hts⟩ (x_takeNamed0 l dC dI ad E hEE A C nb _ hN st5 sl6 so7 1 (by omega) hG.1 hO.1) (cwV 2 hts gX5_readFree_X8_takeNamed rfl rfl rfl (by decide +kernel) ⟨Nat.le_of_ble_eq_true rfl, Nat.le_of_ble_eq_true rfl⟩) ⟨fun a U g mk q => ⟨q.1, xPre.blind hEE q.2⟩, va_recv hK hP (ci := 9) (q0 := 1) rfl (xw_is (r := 1) (by omega) (xc_fix (r := 1) (by omega))), fun U hU hW => ⟨rfl, xPre.of hEE hP hK hE hS hU hW⟩⟩ rfl rfl hl.1 rfl (lv_room (Nat.le_of_ble_eq_true rfl)) dX5_readFree_32 ⟨Nat.le_of_ble_eq_true rfl, Nat.le_of_ble_eq_true rfl⟩) hS (fun q _ h => XA.le hS.1 q h) (XA.le hS.1) (fun r8 x t H locs ht hvm hw hB _ _ hS => ?_)
    have hP := xB.at ht hB
    clear hB ht hvm
    obtain ⟨st9, sl10, so11⟩ := x
    obtain ⟨hGst9, hLGst9, hOst9, hw⟩ := hw
    dsimp only at hGst9 hLGst9 hOst9 hw
    have hO : OG ad [2, 3, 4] so so11 := hO.tr hOst9 (by decide)
    have hP : va_P (dC, dI) vwCl (xw A C nb st9 sl10 so11) _ := hP
    have hG : XG [1, 2, 3, 4, 5, 6, 8, 9, 12, 13, 14, 15] st st9 := hG.tr hGst9 (by decide)
    rcases hw with ⟨n12, rfl, hf13, hf14⟩ | ⟨rfl, hf15⟩
    · refine lv_if_ne (tgt := 40) hx hb dX5_readFree_35 (by decide) (fun _ => ?_) (fun cc => absurd cc (by decide))
      refine lv_aload_n hx hb dX5_readFree_40 rfl (lv_at hl 1 rfl) ?_
      refine va_getN (host := "OffTheLead") (D := (dC, dI)) (ci := 9) (v := .int (st9 1 9)) (C := RX8) (T := TX8) (N := 15) hx hb hts ii_X5_readFree_X8 hown hK hP 1 (xw_is (r := 1) (by omega) (xc_fix (r := 1) (by omega))) rfl 9 (by decide) (va_Nw.use rfl (nf_X5_101 hEv)) (fun _ hh => hh) rfl dX5_readFree_41 ?_
      refine zz_top (v := (nI n12)) (by show st9 1 9 = _; rw [hf13]) ?_
      refine lv_istore_n (lv' := [(3, .int (nI n12)), (0, .ref (A 3)), (1, .ref (A 1)), (2, .ref (A (36 + 20 * 1)))]) hx hb dX5_readFree_44 rfl hl (by decide) rfl (fun ls hl => ?_)
      refine lv_aload_n hx hb dX5_readFree_45 rfl (lv_at hl 2 rfl) ?_
      refine va_calli (va_runV (As := []) (rest := []) ⟨hx, hb, hml, hown, hts⟩ (x_X8_takeHours l dC dI ad E hEE A C nb _ hN st9 sl10 so11  hG.1 hO.1) (cwV 0 hts gX5_readFree_X8_takeHours rfl rfl rfl (by decide +kernel) ⟨Nat.le_of_ble_eq_true rfl, Nat.le_of_ble_eq_true rfl⟩) ⟨fun a U g mk q => ⟨q.1, xPre.blind hEE q.2⟩, va_recv hK hP (ci := 9) (q0 := 1) rfl (xw_is (r := 1) (by omega) (xc_fix (r := 1) (by omega))), fun U hU hW => ⟨rfl, xPre.of hEE hP hK hE hS hU hW⟩⟩ rfl rfl hl.1 rfl (lv_room (Nat.le_of_ble_eq_true rfl)) dX5_readFree_46 ⟨Nat.le_of_ble_eq_true rfl, Nat.le_of_ble_eq_true rfl⟩) hS (fun q _ h => XA.le hS.1 q h) (XA.le hS.1) (fun r16 x t H locs ht hvm hw hB _ _ hS => ?_)
      have hP := xB.at ht hB
      clear hB ht hvm
      obtain ⟨st17, sl18, so19⟩ := x
      obtain ⟨hGst17, hLGst17, hOst17, hw⟩ := hw
      dsimp only at hGst17 hLGst17 hOst17 hw
      have hO : OG ad [2, 3, 4] so so19 := hO.tr hOst17 (by decide)
      have hP : va_P (dC, dI) vwCl (xw A C nb st17 sl18 so19) _ := hP
      have hG : XG [1, 2, 3, 4, 5, 6, 8, 9, 12, 13, 14, 15] st st17 := hG.tr hGst17 (by decide)
      rcases hw with rfl | ⟨rfl, hf20⟩
      · refine lv_if_ne (tgt := 54) hx hb dX5_readFree_49 (by decide) (fun _ => ?_) (fun cc => absurd cc (by decide))
        refine lv_aload_n hx hb dX5_readFree_54 rfl (lv_at hl 3 rfl) ?_
        refine va_getN (host := "OffTheLead") (D := (dC, dI)) (ci := 5) (v := .ref (A (36 + 20 * 1 + 2))) (C := RX4) (T := TX4) (N := 12) hx hb hts ii_X5_readFree_X4 hown hK hP (36 + 20 * 1) (xw_is (r := (36 + 20 * 1)) (by omega) (xc_pk (i := 1) (o := 0) (by omega) (by omega))) rfl 1 (by decide) (va_Nw.use rfl (nf_X5_147 hEv)) (fun _ hh => hh) rfl dX5_readFree_55 ?_
        refine lv_iload_n hx hb dX5_readFree_58 rfl (lv_at hl 0 rfl) ?_
        refine lv_dup2_11 hx hb dX5_readFree_59 rfl rfl ?_
        refine va_iald hx hb hK hP (36 + 20 * 1 + 2) (36 + 20 * 1 + 2) (xw_is (r := (36 + 20 * 1 + 2)) (by omega) (xc_pk (i := 1) (o := 2) (by omega) (by omega))) (xt_is (r := (36 + 20 * 1 + 2)) (by omega) ((xty_pk (i := 1) (o := 2) (by omega)).trans rfl)) (i := (nI n12)) (vp_in_nI (by omega) (by decide)) dX5_readFree_60 ?_
        obtain ⟨z21, ez21⟩ : ∃ y : Int32, st17 (36 + 20 * 1 + 2) n12 = y := ⟨_, rfl⟩
        refine zz_top (v := z21) (by rw [nI_clamp (by omega)]; exact ez21) ?_
        refine lv_aload_n hx hb dX5_readFree_61 rfl (lv_at hl 2 rfl) ?_
        refine va_getN (host := "OffTheLead") (D := (dC, dI)) (ci := 9) (v := .int (st17 1 11)) (C := RX8) (T := TX8) (N := 15) hx hb hts ii_X5_readFree_X8 hown hK hP 1 (xw_is (r := 1) (by omega) (xc_fix (r := 1) (by omega))) rfl 11 (by decide) (va_Nw.use rfl (nf_X5_121 hEv)) (fun _ hh => hh) rfl dX5_readFree_62 ?_
        obtain ⟨z22, ez22⟩ : ∃ y : Int32, st17 1 11 = y := ⟨_, rfl⟩
        refine zz_top (v := z22) (by exact ez22) ?_
        refine lv_aload_n hx hb dX5_readFree_65 rfl (lv_at hl 2 rfl) ?_
        refine va_getN (host := "OffTheLead") (D := (dC, dI)) (ci := 9) (v := .int (st17 1 12)) (C := RX8) (T := TX8) (N := 15) hx hb hts ii_X5_readFree_X8 hown hK hP 1 (xw_is (r := 1) (by omega) (xc_fix (r := 1) (by omega))) rfl 12 (by decide) (va_Nw.use rfl (nf_X5_125 hEv)) (fun _ hh => hh) rfl dX5_readFree_66 ?_
        obtain ⟨z23, ez23⟩ : ∃ y : Int32, st17 1 12 = y := ⟨_, rfl⟩
        refine zz_top (v := z23) (by exact ez23) ?_
        refine va_calli (va_runSN (As := [.int z22, .int z23]) (rest := [.int z21, .int (nI n12), .ref (A (36 + 20 * 1 + 2))]) ⟨hx, hb, hml, hown, hts⟩ (x_X11_hoursOf l dC dI ad E hEE A C nb _ hN st17 sl18 so19 z22 z23  hG.1) (⟨va_cnB 2 hts gX5_readFree_X11_hoursOf_n151 rfl rfl rfl (nm_X5_151 hEv) (hts _ mm_X5_readFree_122) (by decide +kernel) ⟨Nat.le_of_ble_eq_true rfl, Nat.le_of_ble_eq_true rfl⟩, (hts _ mm_X5_readFree_121), trivial⟩) ⟨fun a U g mk q => ⟨q.1, xPre.blind hEE q.2⟩, fun U hU hW => ⟨rfl, xPre.of hEE hP hK hE hS hU hW⟩⟩ rfl rfl hl.1 rfl (lv_room (Nat.le_of_ble_eq_true rfl)) dX5_readFree_69 ⟨Nat.le_of_ble_eq_true rfl, Nat.le_of_ble_eq_true rfl⟩) hS (fun q _ h => XA.le hS.1 q h) (XA.le hS.1) (fun r24 x t H locs ht hvm hw hB _ _ hS => ?_)
        have hP := xB.at ht hB
        clear hB ht hvm
        obtain ⟨rfl, hw⟩ := hw
        have hP : va_P (dC, dI) vwCl (xw A C nb st17 sl18 so19) _ := hP
        clear hw
        refine lv_ior hx hb dX5_readFree_72 ?_
        refine lv_topi (fun z25 ez25 => ?_)
        clear ez25
        refine va_iast hx hb hK hP (xD hN _ _ _ _ _ _) hS (36 + 20 * 1 + 2) (36 + 20 * 1 + 2) (xw_is (r := (36 + 20 * 1 + 2)) (by omega) (xc_pk (i := 1) (o := 2) (by omega) (by omega))) (xt_is (r := (36 + 20 * 1 + 2)) (by omega) ((xty_pk (i := 1) (o := 2) (by omega)).trans rfl)) (i := (nI n12)) (vp_in_nI (by omega) (by decide)) dX5_readFree_73 (fun H locs hP _ hS => ?_)
        rw [nI_clamp (by omega)] at hP
        have hP : va_P (dC, dI) vwCl (xw A C nb (up2 st17 (36 + 20 * 1 + 2) n12 z25) sl18 so19) H := by rw [← xset (r := (36 + 20 * 1 + 2)) (k := n12) (v := z25) (xc_pk (i := 1) (o := 2) (by omega) (by omega))]; exact hP
        obtain ⟨st26, est26⟩ : ∃ y, y = up2 st17 (36 + 20 * 1 + 2) n12 z25 := ⟨_, rfl⟩
        have hG : XG [1, 2, 3, 4, 5, 6, 8, 9, 12, 13, 14, 15] st st26 := by rw [est26]; exact hG.up (xz (r := (36 + 20 * 1 + 2)) (k := n12) ((xrg_pk (i := 1) (o := 2) (k := n12) (by omega)).trans (by first | rfl | decide))) (xpn (c := 0) ((xcl_pk (i := 1) (o := 2) (k := n12) (by omega)).trans (by first | rfl | decide)) (by decide))
        rw [← est26] at hP
        refine lv_aload_n hx hb dX5_readFree_74 rfl (lv_at hl 2 rfl) ?_
        refine lv_bipush (v := 59) hx hb dX5_readFree_75 (by decide) ?_
        refine va_calli (va_runV (As := [.int 59]) (rest := []) ⟨hx, hb, hml, hown, hts⟩ (x_X8_takeMark l dC dI ad E hEE A C nb _ hN st26 sl18 so19 59  hG.1 hO.1) (cwV 1 hts gX5_readFree_X8_takeMark rfl rfl rfl (by decide +kernel) ⟨Nat.le_of_ble_eq_true rfl, Nat.le_of_ble_eq_true rfl⟩) ⟨fun a U g mk q => ⟨q.1, xPre.blind hEE q.2⟩, va_recv hK hP (ci := 9) (q0 := 1) rfl (xw_is (r := 1) (by omega) (xc_fix (r := 1) (by omega))), fun U hU hW => ⟨rfl, xPre.of hEE hP hK hE hS hU hW⟩⟩ rfl rfl hl.1 rfl (lv_room (Nat.le_of_ble_eq_true rfl)) dX5_readFree_77 ⟨Nat.le_of_ble_eq_true rfl, Nat.le_of_ble_eq_true rfl⟩) hS (fun q _ h => XA.le hS.1 q h) (XA.le hS.1) (fun r27 x t H locs ht hvm hw hB _ _ hS => ?_)
        have hP := xB.at ht hB
        clear hB ht hvm
        obtain ⟨st28, sl29, so30⟩ := x
        obtain ⟨hGst28, hLGst28, hOst28, hw⟩ := hw
        dsimp only at hGst28 hLGst28 hOst28 hw
        have hO : OG ad [2, 3, 4] so so30 := hO.tr hOst28 (by decide)
        have hP : va_P (dC, dI) vwCl (xw A C nb st28 sl29 so30) _ := hP
        have hG : XG [1, 2, 3, 4, 5, 6, 8, 9, 12, 13, 14, 15] st st28 := hG.tr hGst28 (by decide)
        rcases hw with rfl | ⟨rfl, hf31⟩
        · exact W.zret (v := 1) hx hb hr rfl (fun t ht hW => ⟨⟨1, (st28, sl29, so30), rfl, ⟨hG, hO, Or.inl (rfl)⟩, xB.of ht hP⟩, hS.F ht⟩) hS.2.2 dX5_readFree_80
        · exact W.zret (v := 0) hx hb hr rfl (fun t ht hW => ⟨⟨0, (st28, sl29, so30), rfl, ⟨hG, hO, Or.inr (⟨rfl, by show ¬ st28 1 13 = 0; exact hf31⟩)⟩, xB.of ht hP⟩, hS.F ht⟩) hS.2.2 dX5_readFree_80
      · refine lv_if_ne (tgt := 54) hx hb dX5_readFree_49 (by decide) (fun cc => absurd (by decide) cc) (fun _ => ?_)
        refine lv_iconst (v := 0) hx hb dX5_readFree_52 (by decide) ?_
        exact W.zret (v := 0) hx hb hr rfl (fun t ht hW => ⟨⟨0, (st17, sl18, so19), rfl, ⟨hG, hO, Or.inr (⟨rfl, by show ¬ st17 1 13 = 0; exact hf20⟩)⟩, xB.of ht hP⟩, hS.F ht⟩) hS.2.2 dX5_readFree_53
    · refine lv_if_ne (tgt := 40) hx hb dX5_readFree_35 (by decide) (fun cc => absurd (by decide) cc) (fun _ => ?_)
      refine lv_iconst (v := 0) hx hb dX5_readFree_38 (by decide) ?_
      exact W.zret (v := 0) hx hb hr rfl (fun t ht hW => ⟨⟨0, (st9, sl10, so11), rfl, ⟨hG, hO, Or.inr (⟨rfl, by show ¬ st9 1 13 = 0; exact hf15⟩)⟩, xB.of ht hP⟩, hS.F ht⟩) hS.2.2 dX5_readFree_39
  · refine lv_aload_n hx hb dX5_readFree_9 rfl (lv_at hl 1 rfl) ?_
    refine lv_iconst (v := 4) hx hb dX5_readFree_10 (by decide) ?_
    refine va_calli (va_runV (As := [.int 4]) (rest := []) ⟨hx, hb, hml, hown, hts⟩ (x_X8_refuse l dC dI ad E hEE A C nb _ hN st sl so 4  hG.1) (cwV 1 hts gX5_readFree_X8_refuse rfl rfl rfl (by decide +kernel) ⟨Nat.le_of_ble_eq_true rfl, Nat.le_of_ble_eq_true rfl⟩) ⟨fun a U g mk q => ⟨q.1, xPre.blind hEE q.2⟩, va_recv hK hP (ci := 9) (q0 := 1) rfl (xw_is (r := 1) (by omega) (xc_fix (r := 1) (by omega))), fun U hU hW => ⟨rfl, xPre.of hEE hP hK hE hS hU hW⟩⟩ rfl rfl hl.1 rfl (lv_room (Nat.le_of_ble_eq_true rfl)) dX5_readFree_11 ⟨Nat.le_of_ble_eq_true rfl, Nat.le_of_ble_eq_true rfl⟩) hS (fun q _ h => XA.le hS.1 q h) (XA.le hS.1) (fun r32 x t H locs ht hvm hw hB _ _ hS => ?_)
    have hP := xB.at ht hB
    clear hB ht hvm
    obtain ⟨st33, sl34, so35⟩ := x
    obtain ⟨hGst33, hLGst33, hOst33, hw⟩ := hw
    dsimp only at hGst33 hLGst33 hOst33 hw
    replace hOst33 := hOst33.symm
    subst hOst33
    have hP : va_P (dC, dI) vwCl (xw A C nb st33 sl34 so) _ := hP
    have hG : XG [1, 2, 3, 4, 5, 6, 8, 9, 12, 13, 14, 15] st st33 := hG.tr hGst33 (by decide)
    obtain ⟨rfl, hf36⟩ := hw
    exact W.zret (v := 0) hx hb hr rfl (fun t ht hW => ⟨⟨0, (st33, sl34, so), rfl, ⟨hG, hO, Or.inr (⟨rfl, by show ¬ st33 1 13 = 0; rw [hf36]; decide⟩)⟩, xB.of ht hP⟩, hS.F ht⟩) hS.2.2 dX5_readFree_14
