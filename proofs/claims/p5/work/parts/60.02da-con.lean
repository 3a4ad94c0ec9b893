set_option maxHeartbeats 4000000 in
set_option maxRecDepth 100000 in
theorem x_X6_copyFrom (l : Launch) (dC : Nat → ClassId) (dI : Nat → Nat → Nat) (ad : Nat → Nat) (E : EP) (hEE : EC ad E) (A : Nat → Nat) (C : Nat → ClassId) (nb sz : Nat) (hN : XN A) (st : Nat → Nat → Int32) (sl : Nat → Nat → Int64) (so : Nat → XR) (i ip : Nat) (j jp : Nat) (hi : i < 13) (hip : ip < 8) (hj : j < 13) (hjp : jp < 8) (hI : XI st) : Met l yX6_copyFrom wsX6_copyFrom ({ frames := 0, cells := 0, slots := 0, locals := 0 }) (va_Pc [.ref (A (36 + 20 * i + (6 + ip))), .ref (A (36 + 20 * j + (6 + jp)))] (xPre E dC dI A C nb sz st sl so)) (va_Qv (fun (x : XT) => XG [1, 2, 3, 4, 5, 6, 7, 8, 9, 10, 11, 12, 13, 14, 15] st x.1 ∧ x.2.2 = so ∧ (x.2.1 = upL sl (36 + 20 * i + (6 + ip)) 0 (sl (36 + 20 * j + (6 + jp)) 0))) (xB dC dI A C nb) (XA A sz)) 0 0 (XA A sz) := by
  refine Met.ofW (cc := cX6_copyFrom) (maxL := 2) (ret := none) (by decide) rfl ?_
  intro p e s m args below meth c s₁ B hml hv
  obtain ⟨rfl, hsz, hP, hK, hE⟩ := hv
  have hx := B.exec
  have hb := B.bytes
  have hr := B.returns
  have hts := atoms_spec (ws := wsX6_copyFrom) B.pre
  have hown : s.vm.findClass RX6 = some m.cls := findClass_of_methodNamed B.named
  subst hsz
  have hEv := hEE.1 _ _ _ hE
  have hS : va_S (XA A s.heap.size) s.heap s.heap [] := va_S.rf
  have hG : XG [1, 2, 3, 4, 5, 6, 7, 8, 9, 10, 11, 12, 13, 14, 15] st st := XG.rf hI
  have hl := lv_entry ([.ref (A (36 + 20 * i + (6 + ip))), .ref (A (36 + 20 * j + (6 + jp)))]) (n := 2) (Nat.le_of_ble_eq_true rfl)
  rw [lg_entry_eq]
  generalize (lg_sl ([.ref (A (36 + 20 * i + (6 + ip))), .ref (A (36 + 20 * j + (6 + jp)))]) ++ List.replicate (2 - (lg_sl ([.ref (A (36 + 20 * i + (6 + ip))), .ref (A (36 + 20 * j + (6 + jp)))])).length) Slot.unset).toArray = ls at hl ⊢
  have hl : lv_has ls 2 [(0, .ref (A (36 + 20 * i + (6 + ip)))), (1, .ref (A (36 + 20 * j + (6 + jp))))] := hl
  clear hI
  refine lv_aload_n hx hb dX6_copyFrom_0 rfl (lv_at hl 0 rfl) ?_
  refine lv_aload_n hx hb dX6_copyFrom_1 rfl (lv_at hl 1 rfl) ?_
  refine va_get (D := (dC, dI)) (ci := 7) (v := .long (sl (36 + 20 * j + (6 + jp)) 0)) (C := RX6) (T := TX6) (N := 9) hx hb hts ii_X6_copyFrom_X6 hown hK hP (36 + 20 * j + (6 + jp)) (xw_is (r := (36 + 20 * j + (6 + jp))) (by omega) (xc_person (i := j) (p := jp) (by omega) (by omega))) rfl 0 (by decide) (hts _ mm_X6_copyFrom_1) (fun _ hh => hh) rfl dX6_copyFrom_2 ?_
  refine va_put (D := (dC, dI)) (ci := 7) (v := .long (sl (36 + 20 * j + (6 + jp)) 0)) (ty := .long) (C := RX6) (T := TX6) (N := 9) hx hb hts ii_X6_copyFrom_X6 tyX6 tyX6_ok nmX6 hown hK hP (xD hN _ _ _ _ _ _) hS (36 + 20 * i + (6 + ip)) (xw_is (r := (36 + 20 * i + (6 + ip))) (by omega) (xc_person (i := i) (p := ip) (by omega) (by omega))) rfl 0 (by decide) (hts _ mm_X6_copyFrom_1) (fun _ hh => hh) rfl (by decide +kernel) rfl rfl (Nat.le_of_ble_eq_true rfl) dX6_copyFrom_5 (fun H locs hP _ hS => ?_)
  have hP : va_P (dC, dI) vwCl (xw A C nb st (upL sl (36 + 20 * i + (6 + ip)) 0 (sl (36 + 20 * j + (6 + jp)) 0)) so) H := by rw [← xsetL (r := (36 + 20 * i + (6 + ip))) (k := 0) (v := (sl (36 + 20 * j + (6 + jp)) 0)) (xc_person (i := i) (p := ip) (by omega) (by omega))]; exact hP
  obtain ⟨sl1, esl1⟩ : ∃ y, y = upL sl (36 + 20 * i + (6 + ip)) 0 (sl (36 + 20 * j + (6 + jp)) 0) := ⟨_, rfl⟩
  rw [← esl1] at hP
  refine lv_aload_n hx hb dX6_copyFrom_8 rfl (lv_at hl 0 rfl) ?_
  refine lv_aload_n hx hb dX6_copyFrom_9 rfl (lv_at hl 1 rfl) ?_
  refine va_get (D := (dC, dI)) (ci := 7) (v := .int (st (36 + 20 * j + (6 + jp)) 1)) (C := RX6) (T := TX6) (N := 9) hx hb hts ii_X6_copyFrom_X6 hown hK hP (36 + 20 * j + (6 + jp)) (xw_is (r := (36 + 20 * j + (6 + jp))) (by omega) (xc_person (i := j) (p := jp) (by omega) (by omega))) rfl 1 (by decide) (hts _ mm_X6_copyFrom_2) (fun _ hh => hh) rfl dX6_copyFrom_10 ?_
  obtain ⟨n2, hn2, en2⟩ := hG.1.at (r := (36 + 20 * j + (6 + jp))) (k := 1) (b := 5) ((xrg_pe (i := j) (p := jp) (by omega)).trans (by decide)) (by decide)
  refine zz_top (v := nI n2) (by exact en2) ?_
  clear en2
  refine va_put (D := (dC, dI)) (ci := 7) (v := .int (nI n2)) (ty := .int) (C := RX6) (T := TX6) (N := 9) hx hb hts ii_X6_copyFrom_X6 tyX6 tyX6_ok nmX6 hown hK hP (xD hN _ _ _ _ _ _) hS (36 + 20 * i + (6 + ip)) (xw_is (r := (36 + 20 * i + (6 + ip))) (by omega) (xc_person (i := i) (p := ip) (by omega) (by omega))) rfl 1 (by decide) (hts _ mm_X6_copyFrom_2) (fun _ hh => hh) rfl (by decide +kernel) rfl rfl (Nat.le_of_ble_eq_true rfl) dX6_copyFrom_13 (fun H locs hP _ hS => ?_)
  have hP : va_P (dC, dI) vwCl (xw A C nb (up2 st (36 + 20 * i + (6 + ip)) 1 (nI n2)) sl1 so) H := by rw [← xset (r := (36 + 20 * i + (6 + ip))) (k := 1) (v := (nI n2)) (xc_person (i := i) (p := ip) (by omega) (by omega))]; exact hP
  obtain ⟨st3, hP, hG⟩ : ∃ y, va_P (dC, dI) vwCl (xw A C nb y sl1 so) H ∧ XG [1, 2, 3, 4, 5, 6, 7, 8, 9, 10, 11, 12, 13, 14, 15] st y := ⟨up2 st (36 + 20 * i + (6 + ip)) 1 (nI n2), hP, hG.up (xn (n := n2) (b := 5) ((xrg_pe (i := i) (p := ip) (by omega)).trans (by decide)) (by omega)) (xpn (c := 0) (xcl_pe (i := i) (p := ip) (k := 1) (by omega)) (by decide))⟩
  refine lv_aload_n hx hb dX6_copyFrom_16 rfl (lv_at hl 0 rfl) ?_
  refine lv_aload_n hx hb dX6_copyFrom_17 rfl (lv_at hl 1 rfl) ?_
  refine va_get (D := (dC, dI)) (ci := 7) (v := .int (st3 (36 + 20 * j + (6 + jp)) 2)) (C := RX6) (T := TX6) (N := 9) hx hb hts ii_X6_copyFrom_X6 hown hK hP (36 + 20 * j + (6 + jp)) (xw_is (r := (36 + 20 * j + (6 + jp))) (by omega) (xc_person (i := j) (p := jp) (by omega) (by omega))) rfl 2 (by decide) (hts _ mm_X6_copyFrom_3) (fun _ hh => hh) rfl dX6_copyFrom_18 ?_
  refine lv_topi (fun z4 ez4 => ?_)
  clear ez4
  refine va_put (D := (dC, dI)) (ci := 7) (v := .int z4) (ty := .int) (C := RX6) (T := TX6) (N := 9) hx hb hts ii_X6_copyFrom_X6 tyX6 tyX6_ok nmX6 hown hK hP (xD hN _ _ _ _ _ _) hS (36 + 20 * i + (6 + ip)) (xw_is (r := (36 + 20 * i + (6 + ip))) (by omega) (xc_person (i := i) (p := ip) (by omega) (by omega))) rfl 2 (by decide) (hts _ mm_X6_copyFrom_3) (fun _ hh => hh) rfl (by decide +kernel) rfl rfl (Nat.le_of_ble_eq_true rfl) dX6_copyFrom_21 (fun H locs hP _ hS => ?_)
  have hP : va_P (dC, dI) vwCl (xw A C nb (up2 st3 (36 + 20 * i + (6 + ip)) 2 z4) sl1 so) H := by rw [← xset (r := (36 + 20 * i + (6 + ip))) (k := 2) (v := z4) (xc_person (i := i) (p := ip) (by omega) (by omega))]; exact hP
  obtain ⟨st5, hP, hG⟩ : ∃ y, va_P (dC, dI) vwCl (xw A C nb y sl1 so) H ∧ XG [1, 2, 3, 4, 5, 6, 7, 8, 9, 10, 11, 12, 13, 14, 15] st y := ⟨up2 st3 (36 + 20 * i + (6 + ip)) 2 z4, hP, hG.up (xz (r := (36 + 20 * i + (6 + ip))) (k := 2) ((xrg_pe (i := i) (p := ip) (by omega)).trans (by decide))) (xpn (c := 0) (xcl_pe (i := i) (p := ip) (k := 2) (by omega)) (by decide))⟩
  refine lv_aload_n hx hb dX6_copyFrom_24 rfl (lv_at hl 0 rfl) ?_
  refine lv_aload_n hx hb dX6_copyFrom_25 rfl (lv_at hl 1 rfl) ?_
  refine va_get (D := (dC, dI)) (ci := 7) (v := .int (st5 (36 + 20 * j + (6 + jp)) 3)) (C := RX6) (T := TX6) (N := 9) hx hb hts ii_X6_copyFrom_X6 hown hK hP (36 + 20 * j + (6 + jp)) (xw_is (r := (36 + 20 * j + (6 + jp))) (by omega) (xc_person (i := j) (p := jp) (by omega) (by omega))) rfl 3 (by decide) (hts _ mm_X6_copyFrom_4) (fun _ hh => hh) rfl dX6_copyFrom_26 ?_
  refine lv_topi (fun z6 ez6 => ?_)
  clear ez6
  refine va_put (D := (dC, dI)) (ci := 7) (v := .int z6) (ty := .int) (C := RX6) (T := TX6) (N := 9) hx hb hts ii_X6_copyFrom_X6 tyX6 tyX6_ok nmX6 hown hK hP (xD hN _ _ _ _ _ _) hS (36 + 20 * i + (6 + ip)) (xw_is (r := (36 + 20 * i + (6 + ip))) (by omega) (xc_person (i := i) (p := ip) (by omega) (by omega))) rfl 3 (by decide) (hts _ mm_X6_copyFrom_4) (fun _ hh => hh) rfl (by decide +kernel) rfl rfl (Nat.le_of_ble_eq_true rfl) dX6_copyFrom_29 (fun H locs hP _ hS => ?_)
  have hP : va_P (dC, dI) vwCl (xw A C nb (up2 st5 (36 + 20 * i + (6 + ip)) 3 z6) sl1 so) H := by rw [← xset (r := (36 + 20 * i + (6 + ip))) (k := 3) (v := z6) (xc_person (i := i) (p := ip) (by omega) (by omega))]; exact hP
  obtain ⟨st7, hP, hG⟩ : ∃ y, va_P (dC, dI) vwCl (xw A C nb y sl1 so) H ∧ XG [1, 2, 3, 4, 5, 6, 7, 8, 9, 10, 11, 12, 13, 14, 15] st y := ⟨up2 st5 (36 + 20 * i + (6 + ip)) 3 z6, hP, hG.up (xz (r := (36 + 20 * i + (6 + ip))) (k := 3) ((xrg_pe (i := i) (p := ip) (by omega)).trans (by decide))) (xpn (c := 0) (xcl_pe (i := i) (p := ip) (k := 3) (by omega)) (by decide))⟩
  refine lv_aload_n hx hb dX6_copyFrom_32 rfl (lv_at hl 0 rfl) ?_
  refine lv_aload_n hx hb dX6_copyFrom_33 rfl (lv_at hl 1 rfl) ?_
  refine va_get (D := (dC, dI)) (ci := 7) (v := .int (st7 (36 + 20 * j + (6 + jp)) 4)) (C := RX6) (T := TX6) (N := 9) hx hb hts ii_X6_copyFrom_X6 hown hK hP (36 + 20 * j + (6 + jp)) (xw_is (r := (36 + 20 * j + (6 + jp))) (by omega) (xc_person (i := j) (p := jp) (by omega) (by omega))) rfl 4 (by decide) (hts _ mm_X6_copyFrom_5) (fun _ hh => hh) rfl dX6_copyFrom_34 ?_
  refine lv_topi (fun z8 ez8 => ?_)
  clear ez8
  refine va_put (D := (dC, dI)) (ci := 7) (v := .int z8) (ty := .int) (C := RX6) (T := TX6) (N := 9) hx hb hts ii_X6_copyFrom_X6 tyX6 tyX6_ok nmX6 hown hK hP (xD hN _ _ _ _ _ _) hS (36 + 20 * i + (6 + ip)) (xw_is (r := (36 + 20 * i + (6 + ip))) (by omega) (xc_person (i := i) (p := ip) (by omega) (by omega))) rfl 4 (by decide) (hts _ mm_X6_copyFrom_5) (fun _ hh => hh) rfl (by decide +kernel) rfl rfl (Nat.le_of_ble_eq_true rfl) dX6_copyFrom_37 (fun H locs hP _ hS => ?_)
  have hP : va_P (dC, dI) vwCl (xw A C nb (up2 st7 (36 + 20 * i + (6 + ip)) 4 z8) sl1 so) H := by rw [← xset (r := (36 + 20 * i + (6 + ip))) (k := 4) (v := z8) (xc_person (i := i) (p := ip) (by omega) (by omega))]; exact hP
  obtain ⟨st9, hP, hG⟩ : ∃ y, va_P (dC, dI) vwCl (xw A C nb y sl1 so) H ∧ XG [1, 2, 3, 4, 5, 6, 7, 8, 9, 10, 11, 12, 13, 14, 15] st y := ⟨up2 st7 (36 + 20 * i + (6 + ip)) 4 z8, hP, hG.up (xz (r := (36 + 20 * i + (6 + ip))) (k := 4) ((xrg_pe (i := i) (p := ip) (by omega)).trans (by decide))) (xpn (c := 0) (xcl_pe (i := i) (p := ip) (k := 4) (by omega)) (by decide))⟩
  refine lv_aload_n hx hb dX6_copyFrom_40 rfl (lv_at hl 0 rfl) ?_
  refine lv_aload_n hx hb dX6_copyFrom_41 rfl (lv_at hl 1 rfl) ?_
  refine va_get (D := (dC, dI)) (ci := 7) (v := .int (st9 (36 + 20 * j + (6 + jp)) 5)) (C := RX6) (T := TX6) (N := 9) hx hb hts ii_X6_copyFrom_X6 hown hK hP (36 + 20 * j + (6 + jp)) (xw_is (r := (36 + 20 * j + (6 + jp))) (by omega) (xc_person (i := j) (p := jp) (by omega) (by omega))) rfl 5 (by decide) (hts _ mm_X6_copyFrom_6) (fun _ hh => hh) rfl dX6_copyFrom_42 ?_
  refine lv_topi (fun z10 ez10 => ?_)
  clear ez10
  refine va_put (D := (dC, dI)) (ci := 7) (v := .int z10) (ty := .int) (C := RX6) (T := TX6) (N := 9) hx hb hts ii_X6_copyFrom_X6 tyX6 tyX6_ok nmX6 hown hK hP (xD hN _ _ _ _ _ _) hS (36 + 20 * i + (6 + ip)) (xw_is (r := (36 + 20 * i + (6 + ip))) (by omega) (xc_person (i := i) (p := ip) (by omega) (by omega))) rfl 5 (by decide) (hts _ mm_X6_copyFrom_6) (fun _ hh => hh) rfl (by decide +kernel) rfl rfl (Nat.le_of_ble_eq_true rfl) dX6_copyFrom_45 (fun H locs hP _ hS => ?_)
  have hP : va_P (dC, dI) vwCl (xw A C nb (up2 st9 (36 + 20 * i + (6 + ip)) 5 z10) sl1 so) H := by rw [← xset (r := (36 + 20 * i + (6 + ip))) (k := 5) (v := z10) (xc_person (i := i) (p := ip) (by omega) (by omega))]; exact hP
  obtain ⟨st11, hP, hG⟩ : ∃ y, va_P (dC, dI) vwCl (xw A C nb y sl1 so) H ∧ XG [1, 2, 3, 4, 5, 6, 7, 8, 9, 10, 11, 12, 13, 14, 15] st y := ⟨up2 st9 (36 + 20 * i + (6 + ip)) 5 z10, hP, hG.up (xz (r := (36 + 20 * i + (6 + ip))) (k := 5) ((xrg_pe (i := i) (p := ip) (by omega)).trans (by decide))) (xpn (c := 0) (xcl_pe (i := i) (p := ip) (k := 5) (by omega)) (by decide))⟩
  refine lv_aload_n hx hb dX6_copyFrom_48 rfl (lv_at hl 0 rfl) ?_
  refine lv_aload_n hx hb dX6_copyFrom_49 rfl (lv_at hl 1 rfl) ?_
  refine va_get (D := (dC, dI)) (ci := 7) (v := .int (st11 (36 + 20 * j + (6 + jp)) 6)) (C := RX6) (T := TX6) (N := 9) hx hb hts ii_X6_copyFrom_X6 hown hK hP (36 + 20 * j + (6 + jp)) (xw_is (r := (36 + 20 * j + (6 + jp))) (by omega) (xc_person (i := j) (p := jp) (by omega) (by omega))) rfl 6 (by decide) (hts _ mm_X6_copyFrom_7) (fun _ hh => hh) rfl dX6_copyFrom_50 ?_
  refine lv_topi (fun z12 ez12 => ?_)
  clear ez12
  refine va_put (D := (dC, dI)) (ci := 7) (v := .int z12) (ty := .int) (C := RX6) (T := TX6) (N := 9) hx hb hts ii_X6_copyFrom_X6 tyX6 tyX6_ok nmX6 hown hK hP (xD hN _ _ _ _ _ _) hS (36 + 20 * i + (6 + ip)) (xw_is (r := (36 + 20 * i + (6 + ip))) (by omega) (xc_person (i := i) (p := ip) (by omega) (by omega))) rfl 6 (by decide) (hts _ mm_X6_copyFrom_7) (fun _ hh => hh) rfl (by decide +kernel) rfl rfl (Nat.le_of_ble_eq_true rfl) dX6_copyFrom_53 (fun H locs hP _ hS => ?_)
  have hP : va_P (dC, dI) vwCl (xw A C nb (up2 st11 (36 + 20 * i + (6 + ip)) 6 z12) sl1 so) H := by rw [← xset (r := (36 + 20 * i + (6 + ip))) (k := 6) (v := z12) (xc_person (i := i) (p := ip) (by omega) (by omega))]; exact hP
  obtain ⟨st13, hP, hG⟩ : ∃ y, va_P (dC, dI) vwCl (xw A C nb y sl1 so) H ∧ XG [1, 2, 3, 4, 5, 6, 7, 8, 9, 10, 11, 12, 13, 14, 15] st y := ⟨up2 st11 (36 + 20 * i + (6 + ip)) 6 z12, hP, hG.up (xz (r := (36 + 20 * i + (6 + ip))) (k := 6) ((xrg_pe (i := i) (p := ip) (by omega)).trans (by decide))) (xpn (c := 0) (xcl_pe (i := i) (p := ip) (k := 6) (by omega)) (by decide))⟩
  refine lv_aload_n hx hb dX6_copyFrom_56 rfl (lv_at hl 0 rfl) ?_
  refine lv_aload_n hx hb dX6_copyFrom_57 rfl (lv_at hl 1 rfl) ?_
  refine va_get (D := (dC, dI)) (ci := 7) (v := .int (st13 (36 + 20 * j + (6 + jp)) 7)) (C := RX6) (T := TX6) (N := 9) hx hb hts ii_X6_copyFrom_X6 hown hK hP (36 + 20 * j + (6 + jp)) (xw_is (r := (36 + 20 * j + (6 + jp))) (by omega) (xc_person (i := j) (p := jp) (by omega) (by omega))) rfl 7 (by decide) (hts _ mm_X6_copyFrom_8) (fun _ hh => hh) rfl dX6_copyFrom_58 ?_
  refine lv_topi (fun z14 ez14 => ?_)
  clear ez14
  refine va_put (D := (dC, dI)) (ci := 7) (v := .int z14) (ty := .int) (C := RX6) (T := TX6) (N := 9) hx hb hts ii_X6_copyFrom_X6 tyX6 tyX6_ok nmX6 hown hK hP (xD hN _ _ _ _ _ _) hS (36 + 20 * i + (6 + ip)) (xw_is (r := (36 + 20 * i + (6 + ip))) (by omega) (xc_person (i := i) (p := ip) (by omega) (by omega))) rfl 7 (by decide) (hts _ mm_X6_copyFrom_8) (fun _ hh => hh) rfl (by decide +kernel) rfl rfl (Nat.le_of_ble_eq_true rfl) dX6_copyFrom_61 (fun H locs hP _ hS => ?_)
  have hP : va_P (dC, dI) vwCl (xw A C nb (up2 st13 (36 + 20 * i + (6 + ip)) 7 z14) sl1 so) H := by rw [← xset (r := (36 + 20 * i + (6 + ip))) (k := 7) (v := z14) (xc_person (i := i) (p := ip) (by omega) (by omega))]; exact hP
  obtain ⟨st15, hP, hG⟩ : ∃ y, va_P (dC, dI) vwCl (xw A C nb y sl1 so) H ∧ XG [1, 2, 3, 4, 5, 6, 7, 8, 9, 10, 11, 12, 13, 14, 15] st y := ⟨up2 st13 (36 + 20 * i + (6 + ip)) 7 z14, hP, hG.up (xz (r := (36 + 20 * i + (6 + ip))) (k := 7) ((xrg_pe (i := i) (p := ip) (by omega)).trans (by decide))) (xpn (c := 0) (xcl_pe (i := i) (p := ip) (k := 7) (by omega)) (by decide))⟩
  refine lv_aload_n hx hb dX6_copyFrom_64 rfl (lv_at hl 0 rfl) ?_
  refine lv_aload_n hx hb dX6_copyFrom_65 rfl (lv_at hl 1 rfl) ?_
  refine va_get (D := (dC, dI)) (ci := 7) (v := .int (st15 (36 + 20 * j + (6 + jp)) 8)) (C := RX6) (T := TX6) (N := 9) hx hb hts ii_X6_copyFrom_X6 hown hK hP (36 + 20 * j + (6 + jp)) (xw_is (r := (36 + 20 * j + (6 + jp))) (by omega) (xc_person (i := j) (p := jp) (by omega) (by omega))) rfl 8 (by decide) (hts _ mm_X6_copyFrom_9) (fun _ hh => hh) rfl dX6_copyFrom_66 ?_
  refine lv_topi (fun z16 ez16 => ?_)
  clear ez16
  refine va_put (D := (dC, dI)) (ci := 7) (v := .int z16) (ty := .int) (C := RX6) (T := TX6) (N := 9) hx hb hts ii_X6_copyFrom_X6 tyX6 tyX6_ok nmX6 hown hK hP (xD hN _ _ _ _ _ _) hS (36 + 20 * i + (6 + ip)) (xw_is (r := (36 + 20 * i + (6 + ip))) (by omega) (xc_person (i := i) (p := ip) (by omega) (by omega))) rfl 8 (by decide) (hts _ mm_X6_copyFrom_9) (fun _ hh => hh) rfl (by decide +kernel) rfl rfl (Nat.le_of_ble_eq_true rfl) dX6_copyFrom_69 (fun H locs hP _ hS => ?_)
  have hP : va_P (dC, dI) vwCl (xw A C nb (up2 st15 (36 + 20 * i + (6 + ip)) 8 z16) sl1 so) H := by rw [← xset (r := (36 + 20 * i + (6 + ip))) (k := 8) (v := z16) (xc_person (i := i) (p := ip) (by omega) (by omega))]; exact hP
  obtain ⟨st17, hP, hG⟩ : ∃ y, va_P (dC, dI) vwCl (xw A C nb y sl1 so) H ∧ XG [1, 2, 3, 4, 5, 6, 7, 8, 9, 10, 11, 12, 13, 14, 15] st y := ⟨up2 st15 (36 + 20 * i + (6 + ip)) 8 z16, hP, hG.up (xz (r := (36 + 20 * i + (6 + ip))) (k := 8) ((xrg_pe (i := i) (p := ip) (by omega)).trans (by decide))) (xpn (c := 0) (xcl_pe (i := i) (p := ip) (k := 8) (by omega)) (by decide))⟩
  exact W.vret hx hb hr (fun t ht hW => ⟨⟨(st17, sl1, so), rfl, ⟨hG, rfl, esl1⟩, xB.of ht hP⟩, hS.F ht⟩) hS.2.2 dX6_copyFrom_72
set_option maxHeartbeats 4000000 in
set_option maxRecDepth 100000 in
theorem x_X2_copyFrom (l : Launch) (dC : Nat → ClassId) (dI : Nat → Nat → Nat) (ad : Nat → Nat) (E : EP) (hEE : EC ad E) (A : Nat → Nat) (C : Nat → ClassId) (nb sz : Nat) (hN : XN A) (st : Nat → Nat → Int32) (sl : Nat → Nat → Int64) (so : Nat → XR) (i ip : Nat) (j jp : Nat) (hi : i < 13) (hip : ip < 6) (hj : j < 13) (hjp : jp < 6) (hI : XI st) : Met l yX2_copyFrom wsX2_copyFrom ({ frames := 0, cells := 0, slots := 0, locals := 0 }) (va_Pc [.ref (A (36 + 20 * i + (14 + ip))), .ref (A (36 + 20 * j + (14 + jp)))] (xPre E dC dI A C nb sz st sl so)) (va_Qv (fun (x : XT) => XG [1, 2, 3, 4, 5, 6, 7, 8, 9, 10, 11, 12, 13, 14, 15] st x.1 ∧ x.2.2 = so ∧ (x.2.1 = upL sl (36 + 20 * i + (14 + ip)) 0 (sl (36 + 20 * j + (14 + jp)) 0))) (xB dC dI A C nb) (XA A sz)) 0 0 (XA A sz) := by
  refine Met.ofW (cc := cX2_copyFrom) (maxL := 2) (ret := none) (by decide) rfl ?_
  intro p e s m args below meth c s₁ B hml hv
  obtain ⟨rfl, hsz, hP, hK, hE⟩ := hv
  have hx := B.exec
  have hb := B.bytes
  have hr := B.returns
  have hts := atoms_spec (ws := wsX2_copyFrom) B.pre
  have hown : s.vm.findClass RX2 = some m.cls := findClass_of_methodNamed B.named
  subst hsz
  have hEv := hEE.1 _ _ _ hE
  have hS : va_S (XA A s.heap.size) s.heap s.heap [] := va_S.rf
  have hG : XG [1, 2, 3, 4, 5, 6, 7, 8, 9, 10, 11, 12, 13, 14, 15] st st := XG.rf hI
  have hl := lv_entry ([.ref (A (36 + 20 * i + (14 + ip))), .ref (A (36 + 20 * j + (14 + jp)))]) (n := 2) (Nat.le_of_ble_eq_true rfl)
  rw [lg_entry_eq]
  generalize (lg_sl ([.ref (A (36 + 20 * i + (14 + ip))), .ref (A (36 + 20 * j + (14 + jp)))]) ++ List.replicate (2 - (lg_sl ([.ref (A (36 + 20 * i + (14 + ip))), .ref (A (36 + 20 * j + (14 + jp)))])).length) Slot.unset).toArray = ls at hl ⊢
  have hl : lv_has ls 2 [(0, .ref (A (36 + 20 * i + (14 + ip)))), (1, .ref (A (36 + 20 * j + (14 + jp))))] := hl
  clear hI
  refine lv_aload_n hx hb dX2_copyFrom_0 rfl (lv_at hl 0 rfl) ?_
  refine lv_aload_n hx hb dX2_copyFrom_1 rfl (lv_at hl 1 rfl) ?_
  refine va_get (D := (dC, dI)) (ci := 3) (v := .long (sl (36 + 20 * j + (14 + jp)) 0)) (C := RX2) (T := TX2) (N := 7) hx hb hts ii_X2_copyFrom_X2 hown hK hP (36 + 20 * j + (14 + jp)) (xw_is (r := (36 + 20 * j + (14 + jp))) (by omega) (xc_dog (i := j) (p := jp) (by omega) (by omega))) rfl 0 (by decide) (hts _ mm_X2_copyFrom_1) (fun _ hh => hh) rfl dX2_copyFrom_2 ?_
  refine va_put (D := (dC, dI)) (ci := 3) (v := .long (sl (36 + 20 * j + (14 + jp)) 0)) (ty := .long) (C := RX2) (T := TX2) (N := 7) hx hb hts ii_X2_copyFrom_X2 tyX2 tyX2_ok nmX2 hown hK hP (xD hN _ _ _ _ _ _) hS (36 + 20 * i + (14 + ip)) (xw_is (r := (36 + 20 * i + (14 + ip))) (by omega) (xc_dog (i := i) (p := ip) (by omega) (by omega))) rfl 0 (by decide) (hts _ mm_X2_copyFrom_1) (fun _ hh => hh) rfl (by decide +kernel) rfl rfl (Nat.le_of_ble_eq_true rfl) dX2_copyFrom_5 (fun H locs hP _ hS => ?_)
  have hP : va_P (dC, dI) vwCl (xw A C nb st (upL sl (36 + 20 * i + (14 + ip)) 0 (sl (36 + 20 * j + (14 + jp)) 0)) so) H := by rw [← xsetL (r := (36 + 20 * i + (14 + ip))) (k := 0) (v := (sl (36 + 20 * j + (14 + jp)) 0)) (xc_dog (i := i) (p := ip) (by omega) (by omega))]; exact hP
  obtain ⟨sl1, esl1⟩ : ∃ y, y = upL sl (36 + 20 * i + (14 + ip)) 0 (sl (36 + 20 * j + (14 + jp)) 0) := ⟨_, rfl⟩
  rw [← esl1] at hP
  refine lv_aload_n hx hb dX2_copyFrom_8 rfl (lv_at hl 0 rfl) ?_
  refine lv_aload_n hx hb dX2_copyFrom_9 rfl (lv_at hl 1 rfl) ?_
  refine va_get (D := (dC, dI)) (ci := 3) (v := .int (st (36 + 20 * j + (14 + jp)) 1)) (C := RX2) (T := TX2) (N := 7) hx hb hts ii_X2_copyFrom_X2 hown hK hP (36 + 20 * j + (14 + jp)) (xw_is (r := (36 + 20 * j + (14 + jp))) (by omega) (xc_dog (i := j) (p := jp) (by omega) (by omega))) rfl 1 (by decide) (hts _ mm_X2_copyFrom_2) (fun _ hh => hh) rfl dX2_copyFrom_10 ?_
  obtain ⟨n2, hn2, en2⟩ := hG.1.at (r := (36 + 20 * j + (14 + jp))) (k := 1) (b := 8) ((xrg_do (i := j) (p := jp) (by omega)).trans (by decide)) (by decide)
  refine zz_top (v := nI n2) (by exact en2) ?_
  clear en2
  refine va_put (D := (dC, dI)) (ci := 3) (v := .int (nI n2)) (ty := .int) (C := RX2) (T := TX2) (N := 7) hx hb hts ii_X2_copyFrom_X2 tyX2 tyX2_ok nmX2 hown hK hP (xD hN _ _ _ _ _ _) hS (36 + 20 * i + (14 + ip)) (xw_is (r := (36 + 20 * i + (14 + ip))) (by omega) (xc_dog (i := i) (p := ip) (by omega) (by omega))) rfl 1 (by decide) (hts _ mm_X2_copyFrom_2) (fun _ hh => hh) rfl (by decide +kernel) rfl rfl (Nat.le_of_ble_eq_true rfl) dX2_copyFrom_13 (fun H locs hP _ hS => ?_)
  have hP : va_P (dC, dI) vwCl (xw A C nb (up2 st (36 + 20 * i + (14 + ip)) 1 (nI n2)) sl1 so) H := by rw [← xset (r := (36 + 20 * i + (14 + ip))) (k := 1) (v := (nI n2)) (xc_dog (i := i) (p := ip) (by omega) (by omega))]; exact hP
  obtain ⟨st3, hP, hG⟩ : ∃ y, va_P (dC, dI) vwCl (xw A C nb y sl1 so) H ∧ XG [1, 2, 3, 4, 5, 6, 7, 8, 9, 10, 11, 12, 13, 14, 15] st y := ⟨up2 st (36 + 20 * i + (14 + ip)) 1 (nI n2), hP, hG.up (xn (n := n2) (b := 8) ((xrg_do (i := i) (p := ip) (by omega)).trans (by decide)) (by omega)) (xpn (c := 0) (xcl_do (i := i) (p := ip) (k := 1) (by omega)) (by decide))⟩
  refine lv_aload_n hx hb dX2_copyFrom_16 rfl (lv_at hl 0 rfl) ?_
  refine lv_aload_n hx hb dX2_copyFrom_17 rfl (lv_at hl 1 rfl) ?_
  refine va_get (D := (dC, dI)) (ci := 3) (v := .int (st3 (36 + 20 * j + (14 + jp)) 2)) (C := RX2) (T := TX2) (N := 7) hx hb hts ii_X2_copyFrom_X2 hown hK hP (36 + 20 * j + (14 + jp)) (xw_is (r := (36 + 20 * j + (14 + jp))) (by omega) (xc_dog (i := j) (p := jp) (by omega) (by omega))) rfl 2 (by decide) (hts _ mm_X2_copyFrom_3) (fun _ hh => hh) rfl dX2_copyFrom_18 ?_
  refine lv_topi (fun z4 ez4 => ?_)
  clear ez4
  refine va_put (D := (dC, dI)) (ci := 3) (v := .int z4) (ty := .int) (C := RX2) (T := TX2) (N := 7) hx hb hts ii_X2_copyFrom_X2 tyX2 tyX2_ok nmX2 hown hK hP (xD hN _ _ _ _ _ _) hS (36 + 20 * i + (14 + ip)) (xw_is (r := (36 + 20 * i + (14 + ip))) (by omega) (xc_dog (i := i) (p := ip) (by omega) (by omega))) rfl 2 (by decide) (hts _ mm_X2_copyFrom_3) (fun _ hh => hh) rfl (by decide +kernel) rfl rfl (Nat.le_of_ble_eq_true rfl) dX2_copyFrom_21 (fun H locs hP _ hS => ?_)
  have hP : va_P (dC, dI) vwCl (xw A C nb (up2 st3 (36 + 20 * i + (14 + ip)) 2 z4) sl1 so) H := by rw [← xset (r := (36 + 20 * i + (14 + ip))) (k := 2) (v := z4) (xc_dog (i := i) (p := ip) (by omega) (by omega))]; exact hP
  obtain ⟨st5, hP, hG⟩ : ∃ y, va_P (dC, dI) vwCl (xw A C nb y sl1 so) H ∧ XG [1, 2, 3, 4, 5, 6, 7, 8, 9, 10, 11, 12, 13, 14, 15] st y := ⟨up2 st3 (36 + 20 * i + (14 + ip)) 2 z4, hP, hG.up (xz (r := (36 + 20 * i + (14 + ip))) (k := 2) ((xrg_do (i := i) (p := ip) (by omega)).trans (by decide))) (xpn (c := 0) (xcl_do (i := i) (p := ip) (k := 2) (by omega)) (by decide))⟩
  refine lv_aload_n hx hb dX2_copyFrom_24 rfl (lv_at hl 0 rfl) ?_
  refine lv_aload_n hx hb dX2_copyFrom_25 rfl (lv_at hl 1 rfl) ?_
  refine va_get (D := (dC, dI)) (ci := 3) (v := .int (st5 (36 + 20 * j + (14 + jp)) 3)) (C := RX2) (T := TX2) (N := 7) hx hb hts ii_X2_copyFrom_X2 hown hK hP (36 + 20 * j + (14 + jp)) (xw_is (r := (36 + 20 * j + (14 + jp))) (by omega) (xc_dog (i := j) (p := jp) (by omega) (by omega))) rfl 3 (by decide) (hts _ mm_X2_copyFrom_4) (fun _ hh => hh) rfl dX2_copyFrom_26 ?_
  refine lv_topi (fun z6 ez6 => ?_)
  clear ez6
  refine va_put (D := (dC, dI)) (ci := 3) (v := .int z6) (ty := .int) (C := RX2) (T := TX2) (N := 7) hx hb hts ii_X2_copyFrom_X2 tyX2 tyX2_ok nmX2 hown hK hP (xD hN _ _ _ _ _ _) hS (36 + 20 * i + (14 + ip)) (xw_is (r := (36 + 20 * i + (14 + ip))) (by omega) (xc_dog (i := i) (p := ip) (by omega) (by omega))) rfl 3 (by decide) (hts _ mm_X2_copyFrom_4) (fun _ hh => hh) rfl (by decide +kernel) rfl rfl (Nat.le_of_ble_eq_true rfl) dX2_copyFrom_29 (fun H locs hP _ hS => ?_)
  have hP : va_P (dC, dI) vwCl (xw A C nb (up2 st5 (36 + 20 * i + (14 + ip)) 3 z6) sl1 so) H := by rw [← xset (r := (36 + 20 * i + (14 + ip))) (k := 3) (v := z6) (xc_dog (i := i) (p := ip) (by omega) (by omega))]; exact hP
  obtain ⟨st7, hP, hG⟩ : ∃ y, va_P (dC, dI) vwCl (xw A C nb y sl1 so) H ∧ XG [1, 2, 3, 4, 5, 6, 7, 8, 9, 10, 11, 12, 13, 14, 15] st y := ⟨up2 st5 (36 + 20 * i + (14 + ip)) 3 z6, hP, hG.up (xz (r := (36 + 20 * i + (14 + ip))) (k := 3) ((xrg_do (i := i) (p := ip) (by omega)).trans (by decide))) (xpn (c := 0) (xcl_do (i := i) (p := ip) (k := 3) (by omega)) (by decide))⟩
  refine lv_aload_n hx hb dX2_copyFrom_32 rfl (lv_at hl 0 rfl) ?_
  refine lv_aload_n hx hb dX2_copyFrom_33 rfl (lv_at hl 1 rfl) ?_
  refine va_get (D := (dC, dI)) (ci := 3) (v := .int (st7 (36 + 20 * j + (14 + jp)) 4)) (C := RX2) (T := TX2) (N := 7) hx hb hts ii_X2_copyFrom_X2 hown hK hP (36 + 20 * j + (14 + jp)) (xw_is (r := (36 + 20 * j + (14 + jp))) (by omega) (xc_dog (i := j) (p := jp) (by omega) (by omega))) rfl 4 (by decide) (hts _ mm_X2_copyFrom_5) (fun _ hh => hh) rfl dX2_copyFrom_34 ?_
  obtain ⟨n8, hn8, en8⟩ := hG.1.at (r := (36 + 20 * j + (14 + jp))) (k := 4) (b := 2) ((xrg_do (i := j) (p := jp) (by omega)).trans (by decide)) (by decide)
  refine zz_top (v := nI n8) (by exact en8) ?_
  clear en8
  refine va_put (D := (dC, dI)) (ci := 3) (v := .int (nI n8)) (ty := .boolean) (C := RX2) (T := TX2) (N := 7) hx hb hts ii_X2_copyFrom_X2 tyX2 tyX2_ok nmX2 hown hK hP (xD hN _ _ _ _ _ _) hS (36 + 20 * i + (14 + ip)) (xw_is (r := (36 + 20 * i + (14 + ip))) (by omega) (xc_dog (i := i) (p := ip) (by omega) (by omega))) rfl 4 (by decide) (hts _ mm_X2_copyFrom_5) (fun _ hh => hh) rfl (by decide +kernel) (zz_nb (by omega)) (zz_fb (by omega)) (Nat.le_of_ble_eq_true rfl) dX2_copyFrom_37 (fun H locs hP _ hS => ?_)
  have hP : va_P (dC, dI) vwCl (xw A C nb (up2 st7 (36 + 20 * i + (14 + ip)) 4 (nI n8)) sl1 so) H := by rw [← xset (r := (36 + 20 * i + (14 + ip))) (k := 4) (v := (nI n8)) (xc_dog (i := i) (p := ip) (by omega) (by omega))]; exact hP
  obtain ⟨st9, hP, hG⟩ : ∃ y, va_P (dC, dI) vwCl (xw A C nb y sl1 so) H ∧ XG [1, 2, 3, 4, 5, 6, 7, 8, 9, 10, 11, 12, 13, 14, 15] st y := ⟨up2 st7 (36 + 20 * i + (14 + ip)) 4 (nI n8), hP, hG.up (xn (n := n8) (b := 2) ((xrg_do (i := i) (p := ip) (by omega)).trans (by decide)) (by omega)) (xpn (c := 0) (xcl_do (i := i) (p := ip) (k := 4) (by omega)) (by decide))⟩
  refine lv_aload_n hx hb dX2_copyFrom_40 rfl (lv_at hl 0 rfl) ?_
  refine lv_aload_n hx hb dX2_copyFrom_41 rfl (lv_at hl 1 rfl) ?_
  refine va_get (D := (dC, dI)) (ci := 3) (v := .int (st9 (36 + 20 * j + (14 + jp)) 5)) (C := RX2) (T := TX2) (N := 7) hx hb hts ii_X2_copyFrom_X2 hown hK hP (36 + 20 * j + (14 + jp)) (xw_is (r := (36 + 20 * j + (14 + jp))) (by omega) (xc_dog (i := j) (p := jp) (by omega) (by omega))) rfl 5 (by decide) (hts _ mm_X2_copyFrom_6) (fun _ hh => hh) rfl dX2_copyFrom_42 ?_
  refine lv_topi (fun z10 ez10 => ?_)
  clear ez10
  refine va_put (D := (dC, dI)) (ci := 3) (v := .int z10) (ty := .int) (C := RX2) (T := TX2) (N := 7) hx hb hts ii_X2_copyFrom_X2 tyX2 tyX2_ok nmX2 hown hK hP (xD hN _ _ _ _ _ _) hS (36 + 20 * i + (14 + ip)) (xw_is (r := (36 + 20 * i + (14 + ip))) (by omega) (xc_dog (i := i) (p := ip) (by omega) (by omega))) rfl 5 (by decide) (hts _ mm_X2_copyFrom_6) (fun _ hh => hh) rfl (by decide +kernel) rfl rfl (Nat.le_of_ble_eq_true rfl) dX2_copyFrom_45 (fun H locs hP _ hS => ?_)
  have hP : va_P (dC, dI) vwCl (xw A C nb (up2 st9 (36 + 20 * i + (14 + ip)) 5 z10) sl1 so) H := by rw [← xset (r := (36 + 20 * i + (14 + ip))) (k := 5) (v := z10) (xc_dog (i := i) (p := ip) (by omega) (by omega))]; exact hP
  obtain ⟨st11, hP, hG⟩ : ∃ y, va_P (dC, dI) vwCl (xw A C nb y sl1 so) H ∧ XG [1, 2, 3, 4, 5, 6, 7, 8, 9, 10, 11, 12, 13, 14, 15] st y := ⟨up2 st9 (36 + 20 * i + (14 + ip)) 5 z10, hP, hG.up (xz (r := (36 + 20 * i + (14 + ip))) (k := 5) ((xrg_do (i := i) (p := ip) (by omega)).trans (by decide))) (xpn (c := 0) (xcl_do (i := i) (p := ip) (k := 5) (by omega)) (by decide))⟩
  refine lv_aload_n hx hb dX2_copyFrom_48 rfl (lv_at hl 0 rfl) ?_
  refine lv_aload_n hx hb dX2_copyFrom_49 rfl (lv_at hl 1 rfl) ?_
  refine va_get (D := (dC, dI)) (ci := 3) (v := .int (st11 (36 + 20 * j + (14 + jp)) 6)) (C := RX2) (T := TX2) (N := 7) hx hb hts ii_X2_copyFrom_X2 hown hK hP (36 + 20 * j + (14 + jp)) (xw_is (r := (36 + 20 * j + (14 + jp))) (by omega) (xc_dog (i := j) (p := jp) (by omega) (by omega))) rfl 6 (by decide) (hts _ mm_X2_copyFrom_7) (fun _ hh => hh) rfl dX2_copyFrom_50 ?_
  refine lv_topi (fun z12 ez12 => ?_)
  clear ez12
  refine va_put (D := (dC, dI)) (ci := 3) (v := .int z12) (ty := .int) (C := RX2) (T := TX2) (N := 7) hx hb hts ii_X2_copyFrom_X2 tyX2 tyX2_ok nmX2 hown hK hP (xD hN _ _ _ _ _ _) hS (36 + 20 * i + (14 + ip)) (xw_is (r := (36 + 20 * i + (14 + ip))) (by omega) (xc_dog (i := i) (p := ip) (by omega) (by omega))) rfl 6 (by decide) (hts _ mm_X2_copyFrom_7) (fun _ hh => hh) rfl (by decide +kernel) rfl rfl (Nat.le_of_ble_eq_true rfl) dX2_copyFrom_53 (fun H locs hP _ hS => ?_)
  have hP : va_P (dC, dI) vwCl (xw A C nb (up2 st11 (36 + 20 * i + (14 + ip)) 6 z12) sl1 so) H := by rw [← xset (r := (36 + 20 * i + (14 + ip))) (k := 6) (v := z12) (xc_dog (i := i) (p := ip) (by omega) (by omega))]; exact hP
  obtain ⟨st13, hP, hG⟩ : ∃ y, va_P (dC, dI) vwCl (xw A C nb y sl1 so) H ∧ XG [1, 2, 3, 4, 5, 6, 7, 8, 9, 10, 11, 12, 13, 14, 15] st y := ⟨up2 st11 (36 + 20 * i + (14 + ip)) 6 z12, hP, hG.up (xz (r := (36 + 20 * i + (14 + ip))) (k := 6) ((xrg_do (i := i) (p := ip) (by omega)).trans (by decide))) (xpn (c := 0) (xcl_do (i := i) (p := ip) (k := 6) (by omega)) (by decide))⟩
  exact W.vret hx hb hr (fun t ht hW => ⟨⟨(st13, sl1, so), rfl, ⟨hG, rfl, esl1⟩, xB.of ht hP⟩, hS.F ht⟩) hS.2.2 dX2_copyFrom_56
set_option maxHeartbeats 4000000 in
set_option maxRecDepth 100000 in
theorem x_X4_copyFrom (l : Launch) (dC : Nat → ClassId) (dI : Nat → Nat → Nat) (ad : Nat → Nat) (E : EP) (hEE : EC ad E) (A : Nat → Nat) (C : Nat → ClassId) (nb sz : Nat) (hN : XN A) (st : Nat → Nat → Int32) (sl : Nat → Nat → Int64) (so : Nat → XR) (i : Nat) (j : Nat) (hi : i < 13) (hj : j < 13) (hI : XI st) (hij : ¬ i = j) : Met l yX4_copyFrom wsX4_copyFrom ({ frames := 1, cells := 0, slots := 0, locals := 21 }) (va_Pc [.ref (A (36 + 20 * i)), .ref (A (36 + 20 * j))] (xPre E dC dI A C nb sz st sl so)) (va_Qv (fun (x : XT) => XG [1, 2, 3, 4, 5, 6, 8, 9, 10, 11, 12, 13, 14, 15] st x.1 ∧ x.2.2 = so ∧ (CQ i j st sl x.1 x.2.1)) (xB dC dI A C nb) (XA A sz)) 0 0 (XA A sz) := by
  refine Met.ofW (cc := cX4_copyFrom) (maxL := 3) (ret := none) (by decide) rfl ?_
  intro p e s m args below meth c s₁ B hml hv
  obtain ⟨rfl, hsz, hP, hK, hE⟩ := hv
  have hx := B.exec
  have hb := B.bytes
  have hr := B.returns
  have hts := atoms_spec (ws := wsX4_copyFrom) B.pre
  have hown : s.vm.findClass RX4 = some m.cls := findClass_of_methodNamed B.named
  subst hsz
  have hEv := hEE.1 _ _ _ hE
  have hS : va_S (XA A s.heap.size) s.heap s.heap [] := va_S.rf
  have hG : XG [1, 2, 3, 4, 5, 6, 8, 9, 10, 11, 12, 13, 14, 15] st st := XG.rf hI
  have hl := lv_entry ([.ref (A (36 + 20 * i)), .ref (A (36 + 20 * j))]) (n := 3) (Nat.le_of_ble_eq_true rfl)
  rw [lg_entry_eq]
  generalize (lg_sl ([.ref (A (36 + 20 * i)), .ref (A (36 + 20 * j))]) ++ List.replicate (3 - (lg_sl ([.ref (A (36 + 20 * i)), .ref (A (36 + 20 * j))])).length) Slot.unset).toArray = ls at hl ⊢
  have hl : lv_has ls 3 [(0, .ref (A (36 + 20 * i))), (1, .ref (A (36 + 20 * j)))] := hl
  have hbc := cnq_le hI
  refine lv_aload_n hx hb dX4_copyFrom_0 rfl (lv_at hl 0 rfl) ?_
  refine lv_aload_n hx hb dX4_copyFrom_1 rfl (lv_at hl 1 rfl) ?_
  refine va_get (D := (dC, dI)) (ci := 5) (v := .int (st (36 + 20 * j) 5)) (C := RX4) (T := TX4) (N := 12) hx hb hts ii_X4_copyFrom_X4 hown hK hP (36 + 20 * j) (xw_is (r := (36 + 20 * j)) (by omega) (xc_pk (i := j) (o := 0) (by omega) (by omega))) rfl 5 (by decide) (hts _ mm_X4_copyFrom_1) (fun _ hh => hh) rfl dX4_copyFrom_2 ?_
  obtain ⟨n1, hn1, en1⟩ := hG.1.at (r := (36 + 20 * j)) (k := 5) (b := 6) ((xrg_pk (i := j) (o := 0) (k := 5) (by omega)).trans (by first | rfl | decide)) (by decide)
  refine zz_top (v := nI n1) (by exact en1) ?_
  refine va_put (D := (dC, dI)) (ci := 5) (v := .int (nI n1)) (ty := .int) (C := RX4) (T := TX4) (N := 12) hx hb hts ii_X4_copyFrom_X4 tyX4 tyX4_ok nmX4 hown hK hP (xD hN _ _ _ _ _ _) hS (36 + 20 * i) (xw_is (r := (36 + 20 * i)) (by omega) (xc_pk (i := i) (o := 0) (by omega) (by omega))) rfl 5 (by decide) (hts _ mm_X4_copyFrom_1) (fun _ hh => hh) rfl (by decide +kernel) rfl rfl (Nat.le_of_ble_eq_true rfl) dX4_copyFrom_5 (fun H locs hP _ hS => ?_)
  have hP : va_P (dC, dI) vwCl (xw A C nb (up2 st (36 + 20 * i) 5 (nI n1)) sl so) H := by rw [← xset (r := (36 + 20 * i)) (k := 5) (v := (nI n1)) (xc_pk (i := i) (o := 0) (by omega) (by omega))]; exact hP
  obtain ⟨st2, est2⟩ : ∃ y, y = up2 st (36 + 20 * i) 5 (nI n1) := ⟨_, rfl⟩
  have hG : XG [1, 2, 3, 4, 5, 6, 8, 9, 10, 11, 12, 13, 14, 15] st st2 := by rw [est2]; exact hG.up (xn (n := n1) (b := 6) ((xrg_pk (i := i) (o := 0) (k := 5) (by omega)).trans (by first | rfl | decide)) (by omega)) (xpn (c := 7) ((xcl_pk (i := i) (o := 0) (k := 5) (by omega)).trans (by first | rfl | decide)) (by decide))
  rw [← est2] at hP
  refine lv_aload_n hx hb dX4_copyFrom_8 rfl (lv_at hl 0 rfl) ?_
  refine lv_aload_n hx hb dX4_copyFrom_9 rfl (lv_at hl 1 rfl) ?_
  refine va_get (D := (dC, dI)) (ci := 5) (v := .int (st2 (36 + 20 * j) 6)) (C := RX4) (T := TX4) (N := 12) hx hb hts ii_X4_copyFrom_X4 hown hK hP (36 + 20 * j) (xw_is (r := (36 + 20 * j)) (by omega) (xc_pk (i := j) (o := 0) (by omega) (by omega))) rfl 6 (by decide) (hts _ mm_X4_copyFrom_2) (fun _ hh => hh) rfl dX4_copyFrom_10 ?_
  obtain ⟨n3, hn3, en3⟩ := hG.1.at (r := (36 + 20 * j)) (k := 6) (b := 9) ((xrg_pk (i := j) (o := 0) (k := 6) (by omega)).trans (by first | rfl | decide)) (by decide)
  refine zz_top (v := nI n3) (by exact en3) ?_
  refine va_put (D := (dC, dI)) (ci := 5) (v := .int (nI n3)) (ty := .int) (C := RX4) (T := TX4) (N := 12) hx hb hts ii_X4_copyFrom_X4 tyX4 tyX4_ok nmX4 hown hK hP (xD hN _ _ _ _ _ _) hS (36 + 20 * i) (xw_is (r := (36 + 20 * i)) (by omega) (xc_pk (i := i) (o := 0) (by omega) (by omega))) rfl 6 (by decide) (hts _ mm_X4_copyFrom_2) (fun _ hh => hh) rfl (by decide +kernel) rfl rfl (Nat.le_of_ble_eq_true rfl) dX4_copyFrom_13 (fun H locs hP _ hS => ?_)
  have hP : va_P (dC, dI) vwCl (xw A C nb (up2 st2 (36 + 20 * i) 6 (nI n3)) sl so) H := by rw [← xset (r := (36 + 20 * i)) (k := 6) (v := (nI n3)) (xc_pk (i := i) (o := 0) (by omega) (by omega))]; exact hP
  obtain ⟨st4, est4⟩ : ∃ y, y = up2 st2 (36 + 20 * i) 6 (nI n3) := ⟨_, rfl⟩
  have hG : XG [1, 2, 3, 4, 5, 6, 8, 9, 10, 11, 12, 13, 14, 15] st st4 := by rw [est4]; exact hG.up (xn (n := n3) (b := 9) ((xrg_pk (i := i) (o := 0) (k := 6) (by omega)).trans (by first | rfl | decide)) (by omega)) (xpn (c := 7) ((xcl_pk (i := i) (o := 0) (k := 6) (by omega)).trans (by first | rfl | decide)) (by decide))
  rw [← est4] at hP
  refine lv_aload_n hx hb dX4_copyFrom_16 rfl (lv_at hl 0 rfl) ?_
  refine lv_aload_n hx hb dX4_copyFrom_17 rfl (lv_at hl 1 rfl) ?_
  refine va_get (D := (dC, dI)) (ci := 5) (v := .int (st4 (36 + 20 * j) 7)) (C := RX4) (T := TX4) (N := 12) hx hb hts ii_X4_copyFrom_X4 hown hK hP (36 + 20 * j) (xw_is (r := (36 + 20 * j)) (by omega) (xc_pk (i := j) (o := 0) (by omega) (by omega))) rfl 7 (by decide) (hts _ mm_X4_copyFrom_3) (fun _ hh => hh) rfl dX4_copyFrom_18 ?_
  obtain ⟨n5, hn5, en5⟩ := hG.1.at (r := (36 + 20 * j)) (k := 7) (b := 7) ((xrg_pk (i := j) (o := 0) (k := 7) (by omega)).trans (by first | rfl | decide)) (by decide)
  refine zz_top (v := nI n5) (by exact en5) ?_
  refine va_put (D := (dC, dI)) (ci := 5) (v := .int (nI n5)) (ty := .int) (C := RX4) (T := TX4) (N := 12) hx hb hts ii_X4_copyFrom_X4 tyX4 tyX4_ok nmX4 hown hK hP (xD hN _ _ _ _ _ _) hS (36 + 20 * i) (xw_is (r := (36 + 20 * i)) (by omega) (xc_pk (i := i) (o := 0) (by omega) (by omega))) rfl 7 (by decide) (hts _ mm_X4_copyFrom_3) (fun _ hh => hh) rfl (by decide +kernel) rfl rfl (Nat.le_of_ble_eq_true rfl) dX4_copyFrom_21 (fun H locs hP _ hS => ?_)
  have hP : va_P (dC, dI) vwCl (xw A C nb (up2 st4 (36 + 20 * i) 7 (nI n5)) sl so) H := by rw [← xset (r := (36 + 20 * i)) (k := 7) (v := (nI n5)) (xc_pk (i := i) (o := 0) (by omega) (by omega))]; exact hP
  obtain ⟨st6, est6⟩ : ∃ y, y = up2 st4 (36 + 20 * i) 7 (nI n5) := ⟨_, rfl⟩
  have hG : XG [1, 2, 3, 4, 5, 6, 8, 9, 10, 11, 12, 13, 14, 15] st st6 := by rw [est6]; exact hG.up (xn (n := n5) (b := 7) ((xrg_pk (i := i) (o := 0) (k := 7) (by omega)).trans (by first | rfl | decide)) (by omega)) (xpn (c := 7) ((xcl_pk (i := i) (o := 0) (k := 7) (by omega)).trans (by first | rfl | decide)) (by decide))
  rw [← est6] at hP
  have hcq : KC 0 0 0 i j st sl st6 sl := KC.of0 (by subst est6 est4 est2; exact CQ0.mk _ _ _ en1 en3 en5)
  refine lv_aload_n hx hb dX4_copyFrom_24 rfl (lv_at hl 0 rfl) ?_
  refine lv_aload_n hx hb dX4_copyFrom_25 rfl (lv_at hl 1 rfl) ?_
  refine va_get (D := (dC, dI)) (ci := 5) (v := .int (st6 (36 + 20 * j) 8)) (C := RX4) (T := TX4) (N := 12) hx hb hts ii_X4_copyFrom_X4 hown hK hP (36 + 20 * j) (xw_is (r := (36 + 20 * j)) (by omega) (xc_pk (i := j) (o := 0) (by omega) (by omega))) rfl 8 (by decide) (hts _ mm_X4_copyFrom_4) (fun _ hh => hh) rfl dX4_copyFrom_26 ?_
  obtain ⟨z7, ez7⟩ : ∃ y : Int32, st6 (36 + 20 * j) 8 = y := ⟨_, rfl⟩
  refine zz_top (v := z7) (by exact ez7) ?_
  refine va_put (D := (dC, dI)) (ci := 5) (v := .int z7) (ty := .int) (C := RX4) (T := TX4) (N := 12) hx hb hts ii_X4_copyFrom_X4 tyX4 tyX4_ok nmX4 hown hK hP (xD hN _ _ _ _ _ _) hS (36 + 20 * i) (xw_is (r := (36 + 20 * i)) (by omega) (xc_pk (i := i) (o := 0) (by omega) (by omega))) rfl 8 (by decide) (hts _ mm_X4_copyFrom_4) (fun _ hh => hh) rfl (by decide +kernel) rfl rfl (Nat.le_of_ble_eq_true rfl) dX4_copyFrom_29 (fun H locs hP _ hS => ?_)
  have hP : va_P (dC, dI) vwCl (xw A C nb (up2 st6 (36 + 20 * i) 8 z7) sl so) H := by rw [← xset (r := (36 + 20 * i)) (k := 8) (v := z7) (xc_pk (i := i) (o := 0) (by omega) (by omega))]; exact hP
  obtain ⟨st8, est8⟩ : ∃ y, y = up2 st6 (36 + 20 * i) 8 z7 := ⟨_, rfl⟩
  have hG : XG [1, 2, 3, 4, 5, 6, 8, 9, 10, 11, 12, 13, 14, 15] st st8 := by rw [est8]; exact hG.up (xz (r := (36 + 20 * i)) (k := 8) ((xrg_pk (i := i) (o := 0) (k := 8) (by omega)).trans (by first | rfl | decide))) (xpn (c := 0) ((xcl_pk (i := i) (o := 0) (k := 8) (by omega)).trans (by first | rfl | decide)) (by decide))
  rw [← est8] at hP
  have hcq : KC 0 0 0 i j st sl st8 sl := by rw [est8]; exact hcq.up (fun q9 a9 h9 => by omega)
  refine lv_aload_n hx hb dX4_copyFrom_32 rfl (lv_at hl 0 rfl) ?_
  refine lv_aload_n hx hb dX4_copyFrom_33 rfl (lv_at hl 1 rfl) ?_
  refine va_get (D := (dC, dI)) (ci := 5) (v := .int (st8 (36 + 20 * j) 9)) (C := RX4) (T := TX4) (N := 12) hx hb hts ii_X4_copyFrom_X4 hown hK hP (36 + 20 * j) (xw_is (r := (36 + 20 * j)) (by omega) (xc_pk (i := j) (o := 0) (by omega) (by omega))) rfl 9 (by decide) (hts _ mm_X4_copyFrom_5) (fun _ hh => hh) rfl dX4_copyFrom_34 ?_
  obtain ⟨z9, ez9⟩ : ∃ y : Int32, st8 (36 + 20 * j) 9 = y := ⟨_, rfl⟩
  refine zz_top (v := z9) (by exact ez9) ?_
  refine va_put (D := (dC, dI)) (ci := 5) (v := .int z9) (ty := .int) (C := RX4) (T := TX4) (N := 12) hx hb hts ii_X4_copyFrom_X4 tyX4 tyX4_ok nmX4 hown hK hP (xD hN _ _ _ _ _ _) hS (36 + 20 * i) (xw_is (r := (36 + 20 * i)) (by omega) (xc_pk (i := i) (o := 0) (by omega) (by omega))) rfl 9 (by decide) (hts _ mm_X4_copyFrom_5) (fun _ hh => hh) rfl (by decide +kernel) rfl rfl (Nat.le_of_ble_eq_true rfl) dX4_copyFrom_37 (fun H locs hP _ hS => ?_)
  have hP : va_P (dC, dI) vwCl (xw A C nb (up2 st8 (36 + 20 * i) 9 z9) sl so) H := by rw [← xset (r := (36 + 20 * i)) (k := 9) (v := z9) (xc_pk (i := i) (o := 0) (by omega) (by omega))]; exact hP
  obtain ⟨st10, est10⟩ : ∃ y, y = up2 st8 (36 + 20 * i) 9 z9 := ⟨_, rfl⟩
  have hG : XG [1, 2, 3, 4, 5, 6, 8, 9, 10, 11, 12, 13, 14, 15] st st10 := by rw [est10]; exact hG.up (xz (r := (36 + 20 * i)) (k := 9) ((xrg_pk (i := i) (o := 0) (k := 9) (by omega)).trans (by first | rfl | decide))) (xpn (c := 0) ((xcl_pk (i := i) (o := 0) (k := 9) (by omega)).trans (by first | rfl | decide)) (by decide))
  rw [← est10] at hP
  have hcq : KC 0 0 0 i j st sl st10 sl := by rw [est10]; exact hcq.up (fun q9 a9 h9 => by omega)
  refine lv_aload_n hx hb dX4_copyFrom_40 rfl (lv_at hl 0 rfl) ?_
  refine lv_aload_n hx hb dX4_copyFrom_41 rfl (lv_at hl 1 rfl) ?_
  refine va_get (D := (dC, dI)) (ci := 5) (v := .int (st10 (36 + 20 * j) 10)) (C := RX4) (T := TX4) (N := 12) hx hb hts ii_X4_copyFrom_X4 hown hK hP (36 + 20 * j) (xw_is (r := (36 + 20 * j)) (by omega) (xc_pk (i := j) (o := 0) (by omega) (by omega))) rfl 10 (by decide) (hts _ mm_X4_copyFrom_6) (fun _ hh => hh) rfl dX4_copyFrom_42 ?_
  obtain ⟨z11, ez11⟩ : ∃ y : Int32, st10 (36 + 20 * j) 10 = y := ⟨_, rfl⟩
  refine zz_top (v := z11) (by exact ez11) ?_
  refine va_put (D := (dC, dI)) (ci := 5) (v := .int z11) (ty := .int) (C := RX4) (T := TX4) (N := 12) hx hb hts ii_X4_copyFrom_X4 tyX4 tyX4_ok nmX4 hown hK hP (xD hN _ _ _ _ _ _) hS (36 + 20 * i) (xw_is (r := (36 + 20 * i)) (by omega) (xc_pk (i := i) (o := 0) (by omega) (by omega))) rfl 10 (by decide) (hts _ mm_X4_copyFrom_6) (fun _ hh => hh) rfl (by decide +kernel) rfl rfl (Nat.le_of_ble_eq_true rfl) dX4_copyFrom_45 (fun H locs hP _ hS => ?_)
  have hP : va_P (dC, dI) vwCl (xw A C nb (up2 st10 (36 + 20 * i) 10 z11) sl so) H := by rw [← xset (r := (36 + 20 * i)) (k := 10) (v := z11) (xc_pk (i := i) (o := 0) (by omega) (by omega))]; exact hP
  obtain ⟨st12, est12⟩ : ∃ y, y = up2 st10 (36 + 20 * i) 10 z11 := ⟨_, rfl⟩
  have hG : XG [1, 2, 3, 4, 5, 6, 8, 9, 10, 11, 12, 13, 14, 15] st st12 := by rw [est12]; exact hG.up (xz (r := (36 + 20 * i)) (k := 10) ((xrg_pk (i := i) (o := 0) (k := 10) (by omega)).trans (by first | rfl | decide))) (xpn (c := 0) ((xcl_pk (i := i) (o := 0) (k := 10) (by omega)).trans (by first | rfl | decide)) (by decide))
  rw [← est12] at hP
  have hcq : KC 0 0 0 i j st sl st12 sl := by rw [est12]; exact hcq.up (fun q9 a9 h9 => by omega)
  refine lv_aload_n hx hb dX4_copyFrom_48 rfl (lv_at hl 0 rfl) ?_
  refine lv_aload_n hx hb dX4_copyFrom_49 rfl (lv_at hl 1 rfl) ?_
  refine va_get (D := (dC, dI)) (ci := 5) (v := .int (st12 (36 + 20 * j) 11)) (C := RX4) (T := TX4) (N := 12) hx hb hts ii_X4_copyFrom_X4 hown hK hP (36 + 20 * j) (xw_is (r := (36 + 20 * j)) (by omega) (xc_pk (i := j) (o := 0) (by omega) (by omega))) rfl 11 (by decide) (hts _ mm_X4_copyFrom_7) (fun _ hh => hh) rfl dX4_copyFrom_50 ?_
  obtain ⟨z13, ez13⟩ : ∃ y : Int32, st12 (36 + 20 * j) 11 = y := ⟨_, rfl⟩
  refine zz_top (v := z13) (by exact ez13) ?_
  refine va_put (D := (dC, dI)) (ci := 5) (v := .int z13) (ty := .int) (C := RX4) (T := TX4) (N := 12) hx hb hts ii_X4_copyFrom_X4 tyX4 tyX4_ok nmX4 hown hK hP (xD hN _ _ _ _ _ _) hS (36 + 20 * i) (xw_is (r := (36 + 20 * i)) (by omega) (xc_pk (i := i) (o := 0) (by omega) (by omega))) rfl 11 (by decide) (hts _ mm_X4_copyFrom_7) (fun _ hh => hh) rfl (by decide +kernel) rfl rfl (Nat.le_of_ble_eq_true rfl) dX4_copyFrom_53 (fun H locs hP _ hS => ?_)
  have hP : va_P (dC, dI) vwCl (xw A C nb (up2 st12 (36 + 20 * i) 11 z13) sl so) H := by rw [← xset (r := (36 + 20 * i)) (k := 11) (v := z13) (xc_pk (i := i) (o := 0) (by omega) (by omega))]; exact hP
  obtain ⟨st14, est14⟩ : ∃ y, y = up2 st12 (36 + 20 * i) 11 z13 := ⟨_, rfl⟩
  have hG : XG [1, 2, 3, 4, 5, 6, 8, 9, 10, 11, 12, 13, 14, 15] st st14 := by rw [est14]; exact hG.up (xz (r := (36 + 20 * i)) (k := 11) ((xrg_pk (i := i) (o := 0) (k := 11) (by omega)).trans (by first | rfl | decide))) (xpn (c := 0) ((xcl_pk (i := i) (o := 0) (k := 11) (by omega)).trans (by first | rfl | decide)) (by decide))
  rw [← est14] at hP
  have hcq : KC 0 0 0 i j st sl st14 sl := by rw [est14]; exact hcq.up (fun q9 a9 h9 => by omega)
  refine lv_iconst (v := 0) hx hb dX4_copyFrom_56 (by decide) ?_
  refine lv_istore_n (lv' := [(2, .int 0), (0, .ref (A (36 + 20 * i))), (1, .ref (A (36 + 20 * j)))]) hx hb dX4_copyFrom_57 rfl hl (by decide) rfl (fun ls hl => ?_)
  refine zz_wf (fun n stk H locs ls => ∃ k15 : Nat, ∃ st16 : Nat → Nat → Int32, ∃ sl17 : Nat → Nat → Int64, n = 6 - k15 ∧ 0 ≤ k15 ∧ k15 < 6 ∧ KC k15 0 0 i j st sl st16 sl17 ∧ va_P (dC, dI) vwCl (xw A C nb st16 sl17 so) H ∧ XG [1, 2, 3, 4, 5, 6, 8, 9, 10, 11, 12, 13, 14, 15] st st16 ∧ va_S (XA A s.heap.size) s.heap H locs ∧ lv_has ls 3 [(2, .int (nI k15)), (0, .ref (A (36 + 20 * i))), (1, .ref (A (36 + 20 * j)))] ∧ stk = []) ?_ (6 - 0) _ _ _ _ ⟨0, st14, sl, rfl, by omega, by omega, hcq, hP, hG, hS, lv_sub hl [0, 1, 2] rfl, rfl⟩
  rintro nn stk H locs ls ⟨k15, st16, sl17, hm20, hv18_0, hv19_1, hv20_0, hP, hG, hS, hl, rfl⟩ ih21
  have hcq := hv20_0
  refine lv_iload_n hx hb dX4_copyFrom_58 rfl (lv_at hl 0 rfl) ?_
  refine lv_aload_n hx hb dX4_copyFrom_59 rfl (lv_at hl 1 rfl) ?_
  refine va_get (D := (dC, dI)) (ci := 5) (v := .int (st16 (36 + 20 * i) 5)) (C := RX4) (T := TX4) (N := 12) hx hb hts ii_X4_copyFrom_X4 hown hK hP (36 + 20 * i) (xw_is (r := (36 + 20 * i)) (by omega) (xc_pk (i := i) (o := 0) (by omega) (by omega))) rfl 5 (by decide) (hts _ mm_X4_copyFrom_1) (fun _ hh => hh) rfl dX4_copyFrom_60 ?_
  obtain ⟨n22, hn22, en22⟩ := hG.1.at (r := (36 + 20 * i)) (k := 5) (b := 6) ((xrg_pk (i := i) (o := 0) (k := 5) (by omega)).trans (by first | rfl | decide)) (by decide)
  refine zz_top (v := nI n22) (by exact en22) ?_
  refine lv_icmp_ge (tgt := 108) hx hb dX4_copyFrom_63 (by decide) (fun c1 => ?_) (fun c1 => ?_)
  · have c1 : n22 ≤ k15 := (nI_leI (a := n22) (b := k15) (by omega) (by omega)).mp c1
    refine lv_iconst (v := 0) hx hb dX4_copyFrom_108 (by decide) ?_
    refine lv_istore_n (lv' := [(2, .int 0), (0, .ref (A (36 + 20 * i))), (1, .ref (A (36 + 20 * j)))]) hx hb dX4_copyFrom_109 rfl hl (by decide) rfl (fun ls hl => ?_)
    refine zz_wf (fun n stk H locs ls => ∃ k23 : Nat, ∃ st24 : Nat → Nat → Int32, ∃ sl25 : Nat → Nat → Int64, n = 9 - k23 ∧ 0 ≤ k23 ∧ k23 < 9 ∧ KC (cnq st j 0) k23 0 i j st sl st24 sl25 ∧ va_P (dC, dI) vwCl (xw A C nb st24 sl25 so) H ∧ XG [1, 2, 3, 4, 5, 6, 8, 9, 10, 11, 12, 13, 14, 15] st st24 ∧ va_S (XA A s.heap.size) s.heap H locs ∧ lv_has ls 3 [(2, .int (nI k23)), (0, .ref (A (36 + 20 * i))), (1, .ref (A (36 + 20 * j)))] ∧ stk = []) ?_ (9 - 0) _ _ _ _ ⟨0, st16, sl17, rfl, by omega, by omega, KC.a (n := n22) hcq en22 (by omega) (by omega), hP, hG, hS, lv_sub hl [0, 1, 2] rfl, rfl⟩
    rintro nn stk H locs ls ⟨k23, st24, sl25, hm28, hv26_0, hv27_1, hv28_0, hP, hG, hS, hl, rfl⟩ ih29
    have hcq := hv28_0
    refine lv_iload_n hx hb dX4_copyFrom_110 rfl (lv_at hl 0 rfl) ?_
    refine lv_aload_n hx hb dX4_copyFrom_111 rfl (lv_at hl 1 rfl) ?_
    refine va_get (D := (dC, dI)) (ci := 5) (v := .int (st24 (36 + 20 * i) 6)) (C := RX4) (T := TX4) (N := 12) hx hb hts ii_X4_copyFrom_X4 hown hK hP (36 + 20 * i) (xw_is (r := (36 + 20 * i)) (by omega) (xc_pk (i := i) (o := 0) (by omega) (by omega))) rfl 6 (by decide) (hts _ mm_X4_copyFrom_2) (fun _ hh => hh) rfl dX4_copyFrom_112 ?_
    obtain ⟨n30, hn30, en30⟩ := hG.1.at (r := (36 + 20 * i)) (k := 6) (b := 9) ((xrg_pk (i := i) (o := 0) (k := 6) (by omega)).trans (by first | rfl | decide)) (by decide)
    refine zz_top (v := nI n30) (by exact en30) ?_
    refine lv_icmp_ge (tgt := 139) hx hb dX4_copyFrom_115 (by decide) (fun c2 => ?_) (fun c2 => ?_)
    · have c2 : n30 ≤ k23 := (nI_leI (a := n30) (b := k23) (by omega) (by omega)).mp c2
      refine lv_iconst (v := 0) hx hb dX4_copyFrom_139 (by decide) ?_
      refine lv_istore_n (lv' := [(2, .int 0), (0, .ref (A (36 + 20 * i))), (1, .ref (A (36 + 20 * j)))]) hx hb dX4_copyFrom_140 rfl hl (by decide) rfl (fun ls hl => ?_)
      refine zz_wf (fun n stk H locs ls => ∃ k31 : Nat, ∃ st32 : Nat → Nat → Int32, ∃ sl33 : Nat → Nat → Int64, n = 7 - k31 ∧ 0 ≤ k31 ∧ k31 < 7 ∧ KC (cnq st j 0) (cnq st j 1) k31 i j st sl st32 sl33 ∧ va_P (dC, dI) vwCl (xw A C nb st32 sl33 so) H ∧ XG [1, 2, 3, 4, 5, 6, 8, 9, 10, 11, 12, 13, 14, 15] st st32 ∧ va_S (XA A s.heap.size) s.heap H locs ∧ lv_has ls 3 [(2, .int (nI k31)), (0, .ref (A (36 + 20 * i))), (1, .ref (A (36 + 20 * j)))] ∧ stk = []) ?_ (7 - 0) _ _ _ _ ⟨0, st24, sl25, rfl, by omega, by omega, KC.b (n := n30) hcq en30 (by omega) (by omega), hP, hG, hS, lv_sub hl [0, 1, 2] rfl, rfl⟩
      rintro nn stk H locs ls ⟨k31, st32, sl33, hm36, hv34_0, hv35_1, hv36_0, hP, hG, hS, hl, rfl⟩ ih37
      have hcq := hv36_0
      refine lv_iload_n hx hb dX4_copyFrom_141 rfl (lv_at hl 0 rfl) ?_
      refine lv_aload_n hx hb dX4_copyFrom_142 rfl (lv_at hl 1 rfl) ?_
      refine va_get (D := (dC, dI)) (ci := 5) (v := .int (st32 (36 + 20 * i) 7)) (C := RX4) (T := TX4) (N := 12) hx hb hts ii_X4_copyFrom_X4 hown hK hP (36 + 20 * i) (xw_is (r := (36 + 20 * i)) (by omega) (xc_pk (i := i) (o := 0) (by omega) (by omega))) rfl 7 (by decide) (hts _ mm_X4_copyFrom_3) (fun _ hh => hh) rfl dX4_copyFrom_143 ?_
      obtain ⟨n38, hn38, en38⟩ := hG.1.at (r := (36 + 20 * i)) (k := 7) (b := 7) ((xrg_pk (i := i) (o := 0) (k := 7) (by omega)).trans (by first | rfl | decide)) (by decide)
      refine zz_top (v := nI n38) (by exact en38) ?_
      refine lv_icmp_ge (tgt := 170) hx hb dX4_copyFrom_146 (by decide) (fun c3 => ?_) (fun c3 => ?_)
      · have c3 : n38 ≤ k31 := (nI_leI (a := n38) (b := k31) (by omega) (by omega)).mp c3
        exact W.vret hx hb hr (fun t ht hW => ⟨⟨(st32, sl33, so), rfl, ⟨hG, rfl, KC.cq (KC.c (n := n38) hcq en38 (by omega) (by omega)) hbc⟩, xB.of ht hP⟩, hS.F ht⟩) hS.2.2 dX4_copyFrom_170
      · have c3 : ¬ n38 ≤ k31 := fun hh => c3 ((nI_leI (a := n38) (b := k31) (by omega) (by omega)).mpr hh)
        refine lv_aload_n hx hb dX4_copyFrom_149 rfl (lv_at hl 1 rfl) ?_
        refine va_get (D := (dC, dI)) (ci := 5) (v := .ref (A (36 + 20 * i + 5))) (C := RX4) (T := TX4) (N := 12) hx hb hts ii_X4_copyFrom_X4 hown hK hP (36 + 20 * i) (xw_is (r := (36 + 20 * i)) (by omega) (xc_pk (i := i) (o := 0) (by omega) (by omega))) rfl 4 (by decide) (hts _ mm_X4_copyFrom_12) (fun _ hh => hh) rfl dX4_copyFrom_150 ?_
        refine lv_iload_n hx hb dX4_copyFrom_153 rfl (lv_at hl 0 rfl) ?_
        refine va_aldq hx hb hK hP (36 + 20 * i + 5) (36 + 20 * i + 5) (xw_is (r := (36 + 20 * i + 5)) (by omega) (xc_pk (i := i) (o := 5) (by omega) (by omega))) (xt_is (r := (36 + 20 * i + 5)) (by omega) ((xty_pk (i := i) (o := 5) (by omega)).trans rfl)) (i := (nI k31)) (vp_in_nI (by omega) (by decide)) dX4_copyFrom_154 ?_
        refine zz_topq (r := some (A (36 + 20 * i + (14 + k31)))) (by rw [nI_clamp (by omega)]; exact congrArg some (congrArg A (by omega))) ?_
        refine lv_aload_n hx hb dX4_copyFrom_155 rfl (lv_at hl 2 rfl) ?_
        refine va_get (D := (dC, dI)) (ci := 5) (v := .ref (A (36 + 20 * j + 5))) (C := RX4) (T := TX4) (N := 12) hx hb hts ii_X4_copyFrom_X4 hown hK hP (36 + 20 * j) (xw_is (r := (36 + 20 * j)) (by omega) (xc_pk (i := j) (o := 0) (by omega) (by omega))) rfl 4 (by decide) (hts _ mm_X4_copyFrom_12) (fun _ hh => hh) rfl dX4_copyFrom_156 ?_
        refine lv_iload_n hx hb dX4_copyFrom_159 rfl (lv_at hl 0 rfl) ?_
        refine va_aldq hx hb hK hP (36 + 20 * j + 5) (36 + 20 * j + 5) (xw_is (r := (36 + 20 * j + 5)) (by omega) (xc_pk (i := j) (o := 5) (by omega) (by omega))) (xt_is (r := (36 + 20 * j + 5)) (by omega) ((xty_pk (i := j) (o := 5) (by omega)).trans rfl)) (i := (nI k31)) (vp_in_nI (by omega) (by decide)) dX4_copyFrom_160 ?_
        refine zz_topq (r := some (A (36 + 20 * j + (14 + k31)))) (by rw [nI_clamp (by omega)]; exact congrArg some (congrArg A (by omega))) ?_
        refine va_callv (va_runV (As := [.ref (A (36 + 20 * j + (14 + k31)))]) (rest := []) ⟨hx, hb, hml, hown, hts⟩ (x_X2_copyFrom l dC dI ad E hEE A C nb _ hN st32 sl33 so i k31 j k31 (by omega) (by omega) (by omega) (by omega) hG.1) (cwV 1 hts gX4_copyFrom_X2_copyFrom rfl rfl rfl (by decide +kernel) ⟨Nat.le_of_ble_eq_true rfl, Nat.le_of_ble_eq_true rfl⟩) ⟨fun a U g mk q => ⟨q.1, xPre.blind hEE q.2⟩, va_recv hK hP (ci := 3) (q0 := (36 + 20 * i + (14 + k31))) rfl (xw_is (r := (36 + 20 * i + (14 + k31))) (by omega) (xc_dog (i := i) (p := k31) (by omega) (by omega))), fun U hU hW => ⟨rfl, xPre.of hEE hP hK hE hS hU hW⟩⟩ rfl rfl hl.1 rfl (lv_room (Nat.le_of_ble_eq_true rfl)) dX4_copyFrom_161 ⟨Nat.le_of_ble_eq_true rfl, Nat.le_of_ble_eq_true rfl⟩) hS (fun q _ h => XA.le hS.1 q h) (XA.le hS.1) (fun x t H locs ht hvm hw hB _ _ hS => ?_)
        have hP := xB.at ht hB
        clear hB ht hvm
        obtain ⟨st40, sl41, so42⟩ := x
        obtain ⟨hGst40, hOst40, hw⟩ := hw
        dsimp only at hGst40 hOst40 hw
        replace hOst40 := hOst40.symm
        subst hOst40
        have hP : va_P (dC, dI) vwCl (xw A C nb st40 sl41 so) _ := hP
        have hG : XG [1, 2, 3, 4, 5, 6, 8, 9, 10, 11, 12, 13, 14, 15] st st40 := hG.tr hGst40 (by decide)
        have hf43 := hw
        have hcq : KC (cnq st j 0) (cnq st j 1) (k31 + 1) i j st sl st40 sl41 := KC.do_ hcq hij ⟨by omega, (hbc j hj).1⟩ hf43 hGst40 (by decide)
        refine lv_iinc (v := (nI (k31 + 1))) (lv' := [(2, .int (nI (k31 + 1))), (0, .ref (A (36 + 20 * i))), (1, .ref (A (36 + 20 * j)))]) hx hb dX4_copyFrom_164 hl (k := 0) rfl (nI_add k31 1) (by decide) rfl (fun ls hl => ?_)
        refine lv_goto (tgt := 141) hx hb dX4_copyFrom_167 (by decide) ?_
        exact ih37 (7 - (k31 + 1)) _ _ _ _ (by omega) ⟨(k31 + 1), st40, sl41, rfl, by omega, by omega, hcq, hP, hG, hS, lv_sub hl [0, 1, 2] rfl, rfl⟩
    · have c2 : ¬ n30 ≤ k23 := fun hh => c2 ((nI_leI (a := n30) (b := k23) (by omega) (by omega)).mpr hh)
      refine lv_aload_n hx hb dX4_copyFrom_118 rfl (lv_at hl 1 rfl) ?_
      refine va_get (D := (dC, dI)) (ci := 5) (v := .ref (A (36 + 20 * i + 4))) (C := RX4) (T := TX4) (N := 12) hx hb hts ii_X4_copyFrom_X4 hown hK hP (36 + 20 * i) (xw_is (r := (36 + 20 * i)) (by omega) (xc_pk (i := i) (o := 0) (by omega) (by omega))) rfl 3 (by decide) (hts _ mm_X4_copyFrom_11) (fun _ hh => hh) rfl dX4_copyFrom_119 ?_
      refine lv_iload_n hx hb dX4_copyFrom_122 rfl (lv_at hl 0 rfl) ?_
      refine va_aldq hx hb hK hP (36 + 20 * i + 4) (36 + 20 * i + 4) (xw_is (r := (36 + 20 * i + 4)) (by omega) (xc_pk (i := i) (o := 4) (by omega) (by omega))) (xt_is (r := (36 + 20 * i + 4)) (by omega) ((xty_pk (i := i) (o := 4) (by omega)).trans rfl)) (i := (nI k23)) (vp_in_nI (by omega) (by decide)) dX4_copyFrom_123 ?_
      refine zz_topq (r := some (A (36 + 20 * i + (6 + k23)))) (by rw [nI_clamp (by omega)]; exact congrArg some (congrArg A (by omega))) ?_
      refine lv_aload_n hx hb dX4_copyFrom_124 rfl (lv_at hl 2 rfl) ?_
      refine va_get (D := (dC, dI)) (ci := 5) (v := .ref (A (36 + 20 * j + 4))) (C := RX4) (T := TX4) (N := 12) hx hb hts ii_X4_copyFrom_X4 hown hK hP (36 + 20 * j) (xw_is (r := (36 + 20 * j)) (by omega) (xc_pk (i := j) (o := 0) (by omega) (by omega))) rfl 3 (by decide) (hts _ mm_X4_copyFrom_11) (fun _ hh => hh) rfl dX4_copyFrom_125 ?_
      refine lv_iload_n hx hb dX4_copyFrom_128 rfl (lv_at hl 0 rfl) ?_
      refine va_aldq hx hb hK hP (36 + 20 * j + 4) (36 + 20 * j + 4) (xw_is (r := (36 + 20 * j + 4)) (by omega) (xc_pk (i := j) (o := 4) (by omega) (by omega))) (xt_is (r := (36 + 20 * j + 4)) (by omega) ((xty_pk (i := j) (o := 4) (by omega)).trans rfl)) (i := (nI k23)) (vp_in_nI (by omega) (by decide)) dX4_copyFrom_129 ?_
      refine zz_topq (r := some (A (36 + 20 * j + (6 + k23)))) (by rw [nI_clamp (by omega)]; exact congrArg some (congrArg A (by omega))) ?_
      refine va_callv (va_runV (As := [.ref (A (36 + 20 * j + (6 + k23)))]) (rest := []) ⟨hx, hb, hml, hown, hts⟩ (x_X6_copyFrom l dC dI ad E hEE A C nb _ hN st24 sl25 so i k23 j k23 (by omega) (by omega) (by omega) (by omega) hG.1) (cwV 1 hts gX4_copyFrom_X6_copyFrom rfl rfl rfl (by decide +kernel) ⟨Nat.le_of_ble_eq_true rfl, Nat.le_of_ble_eq_true rfl⟩) ⟨fun a U g mk q => ⟨q.1, xPre.blind hEE q.2⟩, va_recv hK hP (ci := 7) (q0 := (36 + 20 * i + (6 + k23))) rfl (xw_is (r := (36 + 20 * i + (6 + k23))) (by omega) (xc_person (i := i) (p := k23) (by omega) (by omega))), fun U hU hW => ⟨rfl, xPre.of hEE hP hK hE hS hU hW⟩⟩ rfl rfl hl.1 rfl (lv_room (Nat.le_of_ble_eq_true rfl)) dX4_copyFrom_130 ⟨Nat.le_of_ble_eq_true rfl, Nat.le_of_ble_eq_true rfl⟩) hS (fun q _ h => XA.le hS.1 q h) (XA.le hS.1) (fun x t H locs ht hvm hw hB _ _ hS => ?_)
      have hP := xB.at ht hB
      clear hB ht hvm
      obtain ⟨st45, sl46, so47⟩ := x
      obtain ⟨hGst45, hOst45, hw⟩ := hw
      dsimp only at hGst45 hOst45 hw
      replace hOst45 := hOst45.symm
      subst hOst45
      have hP : va_P (dC, dI) vwCl (xw A C nb st45 sl46 so) _ := hP
      have hG : XG [1, 2, 3, 4, 5, 6, 8, 9, 10, 11, 12, 13, 14, 15] st st45 := hG.tr hGst45 (by decide)
      have hf48 := hw
      have hcq : KC (cnq st j 0) (k23 + 1) 0 i j st sl st45 sl46 := KC.pe hcq hij (by omega) hf48 hGst45 (by decide)
      refine lv_iinc (v := (nI (k23 + 1))) (lv' := [(2, .int (nI (k23 + 1))), (0, .ref (A (36 + 20 * i))), (1, .ref (A (36 + 20 * j)))]) hx hb dX4_copyFrom_133 hl (k := 0) rfl (nI_add k23 1) (by decide) rfl (fun ls hl => ?_)
      refine lv_goto (tgt := 110) hx hb dX4_copyFrom_136 (by decide) ?_
      exact ih29 (9 - (k23 + 1)) _ _ _ _ (by omega) ⟨(k23 + 1), st45, sl46, rfl, by omega, by omega, hcq, hP, hG, hS, lv_sub hl [0, 1, 2] rfl, rfl⟩
  · have c1 : ¬ n22 ≤ k15 := fun hh => c1 ((nI_leI (a := n22) (b := k15) (by omega) (by omega)).mpr hh)
    refine lv_aload_n hx hb dX4_copyFrom_66 rfl (lv_at hl 1 rfl) ?_
    refine va_get (D := (dC, dI)) (ci := 5) (v := .ref (A (36 + 20 * i + 1))) (C := RX4) (T := TX4) (N := 12) hx hb hts ii_X4_copyFrom_X4 hown hK hP (36 + 20 * i) (xw_is (r := (36 + 20 * i)) (by omega) (xc_pk (i := i) (o := 0) (by omega) (by omega))) rfl 0 (by decide) (hts _ mm_X4_copyFrom_8) (fun _ hh => hh) rfl dX4_copyFrom_67 ?_
    refine lv_iload_n hx hb dX4_copyFrom_70 rfl (lv_at hl 0 rfl) ?_
    refine lv_aload_n hx hb dX4_copyFrom_71 rfl (lv_at hl 2 rfl) ?_
    refine va_get (D := (dC, dI)) (ci := 5) (v := .ref (A (36 + 20 * j + 1))) (C := RX4) (T := TX4) (N := 12) hx hb hts ii_X4_copyFrom_X4 hown hK hP (36 + 20 * j) (xw_is (r := (36 + 20 * j)) (by omega) (xc_pk (i := j) (o := 0) (by omega) (by omega))) rfl 0 (by decide) (hts _ mm_X4_copyFrom_8) (fun _ hh => hh) rfl dX4_copyFrom_72 ?_
    refine lv_iload_n hx hb dX4_copyFrom_75 rfl (lv_at hl 0 rfl) ?_
    refine va_lald hx hb hK hP (36 + 20 * j + 1) (36 + 20 * j + 1) (xw_is (r := (36 + 20 * j + 1)) (by omega) (xc_pk (i := j) (o := 1) (by omega) (by omega))) (xt_is (r := (36 + 20 * j + 1)) (by omega) ((xty_pk (i := j) (o := 1) (by omega)).trans rfl)) (i := (nI k15)) (vp_in_nI (by omega) (by decide)) dX4_copyFrom_76 ?_
    refine zz_topl (v := sl17 (36 + 20 * j + 1) k15) (by rw [nI_clamp (by omega)]) ?_
    refine va_last hx hb hK hP (xD hN _ _ _ _ _ _) hS (36 + 20 * i + 1) (36 + 20 * i + 1) (xw_is (r := (36 + 20 * i + 1)) (by omega) (xc_pk (i := i) (o := 1) (by omega) (by omega))) (xt_is (r := (36 + 20 * i + 1)) (by omega) ((xty_pk (i := i) (o := 1) (by omega)).trans rfl)) (i := (nI k15)) (vp_in_nI (by omega) (by decide)) dX4_copyFrom_77 (fun H locs hP _ hS => ?_)
    rw [nI_clamp (by omega)] at hP
    have hP : va_P (dC, dI) vwCl (xw A C nb st16 (upL sl17 (36 + 20 * i + 1) k15 (sl17 (36 + 20 * j + 1) k15)) so) H := by rw [← xsetL (r := (36 + 20 * i + 1)) (k := k15) (v := (sl17 (36 + 20 * j + 1) k15)) (xc_pk (i := i) (o := 1) (by omega) (by omega))]; exact hP
    obtain ⟨sl49, esl49⟩ : ∃ y, y = upL sl17 (36 + 20 * i + 1) k15 (sl17 (36 + 20 * j + 1) k15) := ⟨_, rfl⟩
    rw [← esl49] at hP
    have hcq : KC (k15 + 1) 0 0 i j st sl st16 sl49 := by rw [esl49]; exact KC.pl hcq hij
    refine lv_aload_n hx hb dX4_copyFrom_78 rfl (lv_at hl 1 rfl) ?_
    refine va_get (D := (dC, dI)) (ci := 5) (v := .ref (A (36 + 20 * i + 2))) (C := RX4) (T := TX4) (N := 12) hx hb hts ii_X4_copyFrom_X4 hown hK hP (36 + 20 * i) (xw_is (r := (36 + 20 * i)) (by omega) (xc_pk (i := i) (o := 0) (by omega) (by omega))) rfl 1 (by decide) (hts _ mm_X4_copyFrom_9) (fun _ hh => hh) rfl dX4_copyFrom_79 ?_
    refine lv_iload_n hx hb dX4_copyFrom_82 rfl (lv_at hl 0 rfl) ?_
    refine lv_aload_n hx hb dX4_copyFrom_83 rfl (lv_at hl 2 rfl) ?_
    refine va_get (D := (dC, dI)) (ci := 5) (v := .ref (A (36 + 20 * j + 2))) (C := RX4) (T := TX4) (N := 12) hx hb hts ii_X4_copyFrom_X4 hown hK hP (36 + 20 * j) (xw_is (r := (36 + 20 * j)) (by omega) (xc_pk (i := j) (o := 0) (by omega) (by omega))) rfl 1 (by decide) (hts _ mm_X4_copyFrom_9) (fun _ hh => hh) rfl dX4_copyFrom_84 ?_
    refine lv_iload_n hx hb dX4_copyFrom_87 rfl (lv_at hl 0 rfl) ?_
    refine va_iald hx hb hK hP (36 + 20 * j + 2) (36 + 20 * j + 2) (xw_is (r := (36 + 20 * j + 2)) (by omega) (xc_pk (i := j) (o := 2) (by omega) (by omega))) (xt_is (r := (36 + 20 * j + 2)) (by omega) ((xty_pk (i := j) (o := 2) (by omega)).trans rfl)) (i := (nI k15)) (vp_in_nI (by omega) (by decide)) dX4_copyFrom_88 ?_
    obtain ⟨z50, ez50⟩ : ∃ y : Int32, st16 (36 + 20 * j + 2) k15 = y := ⟨_, rfl⟩
    refine zz_top (v := z50) (by rw [nI_clamp (by omega)]; exact ez50) ?_
    refine va_iast hx hb hK hP (xD hN _ _ _ _ _ _) hS (36 + 20 * i + 2) (36 + 20 * i + 2) (xw_is (r := (36 + 20 * i + 2)) (by omega) (xc_pk (i := i) (o := 2) (by omega) (by omega))) (xt_is (r := (36 + 20 * i + 2)) (by omega) ((xty_pk (i := i) (o := 2) (by omega)).trans rfl)) (i := (nI k15)) (vp_in_nI (by omega) (by decide)) dX4_copyFrom_89 (fun H locs hP _ hS => ?_)
    rw [nI_clamp (by omega)] at hP
    have hP : va_P (dC, dI) vwCl (xw A C nb (up2 st16 (36 + 20 * i + 2) k15 z50) sl49 so) H := by rw [← xset (r := (36 + 20 * i + 2)) (k := k15) (v := z50) (xc_pk (i := i) (o := 2) (by omega) (by omega))]; exact hP
    obtain ⟨st51, est51⟩ : ∃ y, y = up2 st16 (36 + 20 * i + 2) k15 z50 := ⟨_, rfl⟩
    have hG : XG [1, 2, 3, 4, 5, 6, 8, 9, 10, 11, 12, 13, 14, 15] st st51 := by rw [est51]; exact hG.up (xz (r := (36 + 20 * i + 2)) (k := k15) ((xrg_pk (i := i) (o := 2) (k := k15) (by omega)).trans (by first | rfl | decide))) (xpn (c := 0) ((xcl_pk (i := i) (o := 2) (k := k15) (by omega)).trans (by first | rfl | decide)) (by decide))
    rw [← est51] at hP
    have hcq : KC (k15 + 1) 0 0 i j st sl st51 sl49 := by rw [est51]; exact hcq.up (fun q9 a9 h9 => by omega)
    refine lv_aload_n hx hb dX4_copyFrom_90 rfl (lv_at hl 1 rfl) ?_
    refine va_get (D := (dC, dI)) (ci := 5) (v := .ref (A (36 + 20 * i + 3))) (C := RX4) (T := TX4) (N := 12) hx hb hts ii_X4_copyFrom_X4 hown hK hP (36 + 20 * i) (xw_is (r := (36 + 20 * i)) (by omega) (xc_pk (i := i) (o := 0) (by omega) (by omega))) rfl 2 (by decide) (hts _ mm_X4_copyFrom_10) (fun _ hh => hh) rfl dX4_copyFrom_91 ?_
    refine lv_iload_n hx hb dX4_copyFrom_94 rfl (lv_at hl 0 rfl) ?_
    refine lv_aload_n hx hb dX4_copyFrom_95 rfl (lv_at hl 2 rfl) ?_
    refine va_get (D := (dC, dI)) (ci := 5) (v := .ref (A (36 + 20 * j + 3))) (C := RX4) (T := TX4) (N := 12) hx hb hts ii_X4_copyFrom_X4 hown hK hP (36 + 20 * j) (xw_is (r := (36 + 20 * j)) (by omega) (xc_pk (i := j) (o := 0) (by omega) (by omega))) rfl 2 (by decide) (hts _ mm_X4_copyFrom_10) (fun _ hh => hh) rfl dX4_copyFrom_96 ?_
    refine lv_iload_n hx hb dX4_copyFrom_99 rfl (lv_at hl 0 rfl) ?_
    refine va_zald hx hb hK hP (36 + 20 * j + 3) (36 + 20 * j + 3) (xw_is (r := (36 + 20 * j + 3)) (by omega) (xc_pk (i := j) (o := 3) (by omega) (by omega))) (xt_is (r := (36 + 20 * j + 3)) (by omega) ((xty_pk (i := j) (o := 3) (by omega)).trans rfl)) (i := (nI k15)) (vp_in_nI (by omega) (by decide)) dX4_copyFrom_100 ?_
    obtain ⟨z52, ez52⟩ : ∃ y : Int32, st51 (36 + 20 * j + 3) k15 = y := ⟨_, rfl⟩
    refine zz_top (v := z52) (by rw [nI_clamp (by omega)]; exact ez52) ?_
    refine va_zast hx hb hK hP (xD hN _ _ _ _ _ _) hS (36 + 20 * i + 3) (36 + 20 * i + 3) (xw_is (r := (36 + 20 * i + 3)) (by omega) (xc_pk (i := i) (o := 3) (by omega) (by omega))) (xt_is (r := (36 + 20 * i + 3)) (by omega) ((xty_pk (i := i) (o := 3) (by omega)).trans rfl)) (i := (nI k15)) (vp_in_nI (by omega) (by decide)) dX4_copyFrom_101 (fun H locs hP _ hS => ?_)
    rw [nI_clamp (by omega)] at hP
    obtain ⟨z53, ez53⟩ : ∃ y : Int32, y = vp_nar .boolean z52 := ⟨_, rfl⟩
    rw [← ez53] at hP
    have hP : va_P (dC, dI) vwCl (xw A C nb (up2 st51 (36 + 20 * i + 3) k15 z53) sl49 so) H := by rw [← xset (r := (36 + 20 * i + 3)) (k := k15) (v := z53) (xc_pk (i := i) (o := 3) (by omega) (by omega))]; exact hP
    obtain ⟨st54, est54⟩ : ∃ y, y = up2 st51 (36 + 20 * i + 3) k15 z53 := ⟨_, rfl⟩
    have hG : XG [1, 2, 3, 4, 5, 6, 8, 9, 10, 11, 12, 13, 14, 15] st st54 := by rw [est54]; exact hG.up (xz (r := (36 + 20 * i + 3)) (k := k15) ((xrg_pk (i := i) (o := 3) (k := k15) (by omega)).trans (by first | rfl | decide))) (xpn (c := 0) ((xcl_pk (i := i) (o := 3) (k := k15) (by omega)).trans (by first | rfl | decide)) (by decide))
    rw [← est54] at hP
    have hcq : KC (k15 + 1) 0 0 i j st sl st54 sl49 := by rw [est54]; exact hcq.up (fun q9 a9 h9 => by omega)
    refine lv_iinc (v := (nI (k15 + 1))) (lv' := [(2, .int (nI (k15 + 1))), (0, .ref (A (36 + 20 * i))), (1, .ref (A (36 + 20 * j)))]) hx hb dX4_copyFrom_102 hl (k := 0) rfl (nI_add k15 1) (by decide) rfl (fun ls hl => ?_)
    refine lv_goto (tgt := 58) hx hb dX4_copyFrom_105 (by decide) ?_
    exact ih21 (6 - (k15 + 1)) _ _ _ _ (by omega) ⟨(k15 + 1), st54, sl49, rfl, by omega, by omega, hcq, hP, hG, hS, lv_sub hl [0, 1, 2] rfl, rfl⟩
set_option maxHeartbeats 4000000 in
set_option maxRecDepth 100000 in
theorem x_X4_clear (l : Launch) (dC : Nat → ClassId) (dI : Nat → Nat → Nat) (ad : Nat → Nat) (E : EP) (hEE : EC ad E) (A : Nat → Nat) (C : Nat → ClassId) (nb sz : Nat) (hN : XN A) (st : Nat → Nat → Int32) (sl : Nat → Nat → Int64) (so : Nat → XR) (i : Nat) (hi : i < 13) (hI : XI st) : Met l yX4_clear wsX4_clear ({ frames := 0, cells := 0, slots := 0, locals := 0 }) (va_Pc [.ref (A (36 + 20 * i))] (xPre E dC dI A C nb sz st sl so)) (va_Qv (fun (x : XT) => XG [1, 2, 3, 4, 5, 6, 8, 9, 10, 11, 12, 13, 14, 15] st x.1 ∧ LGq sl x.2.1 ∧ x.2.2 = so ∧ (True)) (xB dC dI A C nb) (XA A sz)) 0 0 (XA A sz) := by
  refine Met.ofW (cc := cX4_clear) (maxL := 1) (ret := none) (by decide) rfl ?_
  intro p e s m args below meth c s₁ B hml hv
  obtain ⟨rfl, hsz, hP, hK, hE⟩ := hv
  have hx := B.exec
  have hb := B.bytes
  have hr := B.returns
  have hts := atoms_spec (ws := wsX4_clear) B.pre
  have hown : s.vm.findClass RX4 = some m.cls := findClass_of_methodNamed B.named
  subst hsz
  have hEv := hEE.1 _ _ _ hE
  have hS : va_S (XA A s.heap.size) s.heap s.heap [] := va_S.rf
  have hG : XG [1, 2, 3, 4, 5, 6, 8, 9, 10, 11, 12, 13, 14, 15] st st := XG.rf hI
  have hl := lv_entry ([.ref (A (36 + 20 * i))]) (n := 1) (Nat.le_of_ble_eq_true rfl)
  rw [lg_entry_eq]
  generalize (lg_sl ([.ref (A (36 + 20 * i))]) ++ List.replicate (1 - (lg_sl ([.ref (A (36 + 20 * i))])).length) Slot.unset).toArray = ls at hl ⊢
  have hl : lv_has ls 1 [(0, .ref (A (36 + 20 * i)))] := hl
  clear hI
  have hL : LGq sl sl := LGq.rf
  refine lv_aload_n hx hb dX4_clear_0 rfl (lv_at hl 0 rfl) ?_
  refine lv_iconst (v := 0) hx hb dX4_clear_1 (by decide) ?_
  refine va_put (D := (dC, dI)) (ci := 5) (v := .int 0) (ty := .int) (C := RX4) (T := TX4) (N := 12) hx hb hts ii_X4_clear_X4 tyX4 tyX4_ok nmX4 hown hK hP (xD hN _ _ _ _ _ _) hS (36 + 20 * i) (xw_is (r := (36 + 20 * i)) (by omega) (xc_pk (i := i) (o := 0) (by omega) (by omega))) rfl 5 (by decide) (hts _ mm_X4_clear_1) (fun _ hh => hh) rfl (by decide +kernel) rfl rfl (Nat.le_of_ble_eq_true rfl) dX4_clear_2 (fun H locs hP _ hS => ?_)
  have hP : va_P (dC, dI) vwCl (xw A C nb (up2 st (36 + 20 * i) 5 0) sl so) H := by rw [← xset (r := (36 + 20 * i)) (k := 5) (v := 0) (xc_pk (i := i) (o := 0) (by omega) (by omega))]; exact hP
  obtain ⟨st1, hP, hG⟩ : ∃ y, va_P (dC, dI) vwCl (xw A C nb y sl so) H ∧ XG [1, 2, 3, 4, 5, 6, 8, 9, 10, 11, 12, 13, 14, 15] st y := ⟨up2 st (36 + 20 * i) 5 0, hP, hG.up (xn (n := 0) (b := 6) ((xrg_pk (i := i) (o := 0) (k := 5) (by omega)).trans (by first | rfl | decide)) (by omega)) (xpn (c := 7) ((xcl_pk (i := i) (o := 0) (k := 5) (by omega)).trans (by first | rfl | decide)) (by decide))⟩
  refine lv_aload_n hx hb dX4_clear_5 rfl (lv_at hl 0 rfl) ?_
  refine lv_iconst (v := 0) hx hb dX4_clear_6 (by decide) ?_
  refine va_put (D := (dC, dI)) (ci := 5) (v := .int 0) (ty := .int) (C := RX4) (T := TX4) (N := 12) hx hb hts ii_X4_clear_X4 tyX4 tyX4_ok nmX4 hown hK hP (xD hN _ _ _ _ _ _) hS (36 + 20 * i) (xw_is (r := (36 + 20 * i)) (by omega) (xc_pk (i := i) (o := 0) (by omega) (by omega))) rfl 6 (by decide) (hts _ mm_X4_clear_2) (fun _ hh => hh) rfl (by decide +kernel) rfl rfl (Nat.le_of_ble_eq_true rfl) dX4_clear_7 (fun H locs hP _ hS => ?_)
  have hP : va_P (dC, dI) vwCl (xw A C nb (up2 st1 (36 + 20 * i) 6 0) sl so) H := by rw [← xset (r := (36 + 20 * i)) (k := 6) (v := 0) (xc_pk (i := i) (o := 0) (by omega) (by omega))]; exact hP
  obtain ⟨st2, hP, hG⟩ : ∃ y, va_P (dC, dI) vwCl (xw A C nb y sl so) H ∧ XG [1, 2, 3, 4, 5, 6, 8, 9, 10, 11, 12, 13, 14, 15] st y := ⟨up2 st1 (36 + 20 * i) 6 0, hP, hG.up (xn (n := 0) (b := 9) ((xrg_pk (i := i) (o := 0) (k := 6) (by omega)).trans (by first | rfl | decide)) (by omega)) (xpn (c := 7) ((xcl_pk (i := i) (o := 0) (k := 6) (by omega)).trans (by first | rfl | decide)) (by decide))⟩
  refine lv_aload_n hx hb dX4_clear_10 rfl (lv_at hl 0 rfl) ?_
  refine lv_iconst (v := 0) hx hb dX4_clear_11 (by decide) ?_
  refine va_put (D := (dC, dI)) (ci := 5) (v := .int 0) (ty := .int) (C := RX4) (T := TX4) (N := 12) hx hb hts ii_X4_clear_X4 tyX4 tyX4_ok nmX4 hown hK hP (xD hN _ _ _ _ _ _) hS (36 + 20 * i) (xw_is (r := (36 + 20 * i)) (by omega) (xc_pk (i := i) (o := 0) (by omega) (by omega))) rfl 7 (by decide) (hts _ mm_X4_clear_3) (fun _ hh => hh) rfl (by decide +kernel) rfl rfl (Nat.le_of_ble_eq_true rfl) dX4_clear_12 (fun H locs hP _ hS => ?_)
  have hP : va_P (dC, dI) vwCl (xw A C nb (up2 st2 (36 + 20 * i) 7 0) sl so) H := by rw [← xset (r := (36 + 20 * i)) (k := 7) (v := 0) (xc_pk (i := i) (o := 0) (by omega) (by omega))]; exact hP
  obtain ⟨st3, hP, hG⟩ : ∃ y, va_P (dC, dI) vwCl (xw A C nb y sl so) H ∧ XG [1, 2, 3, 4, 5, 6, 8, 9, 10, 11, 12, 13, 14, 15] st y := ⟨up2 st2 (36 + 20 * i) 7 0, hP, hG.up (xn (n := 0) (b := 7) ((xrg_pk (i := i) (o := 0) (k := 7) (by omega)).trans (by first | rfl | decide)) (by omega)) (xpn (c := 7) ((xcl_pk (i := i) (o := 0) (k := 7) (by omega)).trans (by first | rfl | decide)) (by decide))⟩
  refine lv_aload_n hx hb dX4_clear_15 rfl (lv_at hl 0 rfl) ?_
  refine lv_iconst (v := 2) hx hb dX4_clear_16 (by decide) ?_
  refine va_put (D := (dC, dI)) (ci := 5) (v := .int 2) (ty := .int) (C := RX4) (T := TX4) (N := 12) hx hb hts ii_X4_clear_X4 tyX4 tyX4_ok nmX4 hown hK hP (xD hN _ _ _ _ _ _) hS (36 + 20 * i) (xw_is (r := (36 + 20 * i)) (by omega) (xc_pk (i := i) (o := 0) (by omega) (by omega))) rfl 8 (by decide) (hts _ mm_X4_clear_4) (fun _ hh => hh) rfl (by decide +kernel) rfl rfl (Nat.le_of_ble_eq_true rfl) dX4_clear_17 (fun H locs hP _ hS => ?_)
  have hP : va_P (dC, dI) vwCl (xw A C nb (up2 st3 (36 + 20 * i) 8 2) sl so) H := by rw [← xset (r := (36 + 20 * i)) (k := 8) (v := 2) (xc_pk (i := i) (o := 0) (by omega) (by omega))]; exact hP
  obtain ⟨st4, hP, hG⟩ : ∃ y, va_P (dC, dI) vwCl (xw A C nb y sl so) H ∧ XG [1, 2, 3, 4, 5, 6, 8, 9, 10, 11, 12, 13, 14, 15] st y := ⟨up2 st3 (36 + 20 * i) 8 2, hP, hG.up (xz (r := (36 + 20 * i)) (k := 8) ((xrg_pk (i := i) (o := 0) (k := 8) (by omega)).trans (by first | rfl | decide))) (xpn (c := 0) ((xcl_pk (i := i) (o := 0) (k := 8) (by omega)).trans (by first | rfl | decide)) (by decide))⟩
  refine lv_aload_n hx hb dX4_clear_20 rfl (lv_at hl 0 rfl) ?_
  refine lv_iconst (v := 0) hx hb dX4_clear_21 (by decide) ?_
  refine va_put (D := (dC, dI)) (ci := 5) (v := .int 0) (ty := .int) (C := RX4) (T := TX4) (N := 12) hx hb hts ii_X4_clear_X4 tyX4 tyX4_ok nmX4 hown hK hP (xD hN _ _ _ _ _ _) hS (36 + 20 * i) (xw_is (r := (36 + 20 * i)) (by omega) (xc_pk (i := i) (o := 0) (by omega) (by omega))) rfl 9 (by decide) (hts _ mm_X4_clear_5) (fun _ hh => hh) rfl (by decide +kernel) rfl rfl (Nat.le_of_ble_eq_true rfl) dX4_clear_22 (fun H locs hP _ hS => ?_)
  have hP : va_P (dC, dI) vwCl (xw A C nb (up2 st4 (36 + 20 * i) 9 0) sl so) H := by rw [← xset (r := (36 + 20 * i)) (k := 9) (v := 0) (xc_pk (i := i) (o := 0) (by omega) (by omega))]; exact hP
  obtain ⟨st5, hP, hG⟩ : ∃ y, va_P (dC, dI) vwCl (xw A C nb y sl so) H ∧ XG [1, 2, 3, 4, 5, 6, 8, 9, 10, 11, 12, 13, 14, 15] st y := ⟨up2 st4 (36 + 20 * i) 9 0, hP, hG.up (xz (r := (36 + 20 * i)) (k := 9) ((xrg_pk (i := i) (o := 0) (k := 9) (by omega)).trans (by first | rfl | decide))) (xpn (c := 0) ((xcl_pk (i := i) (o := 0) (k := 9) (by omega)).trans (by first | rfl | decide)) (by decide))⟩
  refine lv_aload_n hx hb dX4_clear_25 rfl (lv_at hl 0 rfl) ?_
  refine lv_iconst (v := 0) hx hb dX4_clear_26 (by decide) ?_
  refine va_put (D := (dC, dI)) (ci := 5) (v := .int 0) (ty := .int) (C := RX4) (T := TX4) (N := 12) hx hb hts ii_X4_clear_X4 tyX4 tyX4_ok nmX4 hown hK hP (xD hN _ _ _ _ _ _) hS (36 + 20 * i) (xw_is (r := (36 + 20 * i)) (by omega) (xc_pk (i := i) (o := 0) (by omega) (by omega))) rfl 10 (by decide) (hts _ mm_X4_clear_6) (fun _ hh => hh) rfl (by decide +kernel) rfl rfl (Nat.le_of_ble_eq_true rfl) dX4_clear_27 (fun H locs hP _ hS => ?_)
  have hP : va_P (dC, dI) vwCl (xw A C nb (up2 st5 (36 + 20 * i) 10 0) sl so) H := by rw [← xset (r := (36 + 20 * i)) (k := 10) (v := 0) (xc_pk (i := i) (o := 0) (by omega) (by omega))]; exact hP
  obtain ⟨st6, hP, hG⟩ : ∃ y, va_P (dC, dI) vwCl (xw A C nb y sl so) H ∧ XG [1, 2, 3, 4, 5, 6, 8, 9, 10, 11, 12, 13, 14, 15] st y := ⟨up2 st5 (36 + 20 * i) 10 0, hP, hG.up (xz (r := (36 + 20 * i)) (k := 10) ((xrg_pk (i := i) (o := 0) (k := 10) (by omega)).trans (by first | rfl | decide))) (xpn (c := 0) ((xcl_pk (i := i) (o := 0) (k := 10) (by omega)).trans (by first | rfl | decide)) (by decide))⟩
  refine lv_aload_n hx hb dX4_clear_30 rfl (lv_at hl 0 rfl) ?_
  refine lv_iconst (v := 0) hx hb dX4_clear_31 (by decide) ?_
  refine va_put (D := (dC, dI)) (ci := 5) (v := .int 0) (ty := .int) (C := RX4) (T := TX4) (N := 12) hx hb hts ii_X4_clear_X4 tyX4 tyX4_ok nmX4 hown hK hP (xD hN _ _ _ _ _ _) hS (36 + 20 * i) (xw_is (r := (36 + 20 * i)) (by omega) (xc_pk (i := i) (o := 0) (by omega) (by omega))) rfl 11 (by decide) (hts _ mm_X4_clear_7) (fun _ hh => hh) rfl (by decide +kernel) rfl rfl (Nat.le_of_ble_eq_true rfl) dX4_clear_32 (fun H locs hP _ hS => ?_)
  have hP : va_P (dC, dI) vwCl (xw A C nb (up2 st6 (36 + 20 * i) 11 0) sl so) H := by rw [← xset (r := (36 + 20 * i)) (k := 11) (v := 0) (xc_pk (i := i) (o := 0) (by omega) (by omega))]; exact hP
  obtain ⟨st7, hP, hG⟩ : ∃ y, va_P (dC, dI) vwCl (xw A C nb y sl so) H ∧ XG [1, 2, 3, 4, 5, 6, 8, 9, 10, 11, 12, 13, 14, 15] st y := ⟨up2 st6 (36 + 20 * i) 11 0, hP, hG.up (xz (r := (36 + 20 * i)) (k := 11) ((xrg_pk (i := i) (o := 0) (k := 11) (by omega)).trans (by first | rfl | decide))) (xpn (c := 0) ((xcl_pk (i := i) (o := 0) (k := 11) (by omega)).trans (by first | rfl | decide)) (by decide))⟩
  exact W.vret hx hb hr (fun t ht hW => ⟨⟨(st7, sl, so), rfl, ⟨hG, hL, rfl, trivial⟩, xB.of ht hP⟩, hS.F ht⟩) hS.2.2 dX4_clear_35
set_option maxHeartbeats 4000000 in
set_option maxRecDepth 100000 in
theorem x_X4_allowHours (l : Launch) (dC : Nat → ClassId) (dI : Nat → Nat → Nat) (ad : Nat → Nat) (E : EP) (hEE : EC ad E) (A : Nat → Nat) (C : Nat → ClassId) (nb sz : Nat) (hN : XN A) (st : Nat → Nat → Int32) (sl : Nat → Nat → Int64) (so : Nat → XR) (i : Nat) (va : Nat) (vb : Int32) (vc : Int32) (hi : i < 13) (hva : va < 5) (hI : XI st) : Met l yX4_allowHours wsX4_allowHours ({ frames := 1, cells := 0, slots := 0, locals := 21 }) (va_Pc [.ref (A (36 + 20 * i)), .int (nI va), .int vb, .int vc] (xPre E dC dI A C nb sz st sl so)) (va_Qi (fun (r : Int32) (x : XT) => XG [1, 2, 3, 4, 5, 6, 7, 8, 9, 10, 11, 12, 13, 14, 15] st x.1 ∧ LGq sl x.2.1 ∧ x.2.2 = so ∧ (True)) (xB dC dI A C nb) (XA A sz)) 0 0 (XA A sz) := by
  refine Met.ofW (cc := cX4_allowHours) (maxL := 5) (ret := (some .int)) (by decide) rfl ?_
  intro p e s m args below meth c s₁ B hml hv
  obtain ⟨rfl, hsz, hP, hK, hE⟩ := hv
  have hx := B.exec
  have hb := B.bytes
  have hr := B.returns
  have hts := atoms_spec (ws := wsX4_allowHours) B.pre
  have hown : s.vm.findClass RX4 = some m.cls := findClass_of_methodNamed B.named
  subst hsz
  have hEv := hEE.1 _ _ _ hE
  have hS : va_S (XA A s.heap.size) s.heap s.heap [] := va_S.rf
  have hG : XG [1, 2, 3, 4, 5, 6, 7, 8, 9, 10, 11, 12, 13, 14, 15] st st := XG.rf hI
  have hl := lv_entry ([.ref (A (36 + 20 * i)), .int (nI va), .int vb, .int vc]) (n := 5) (Nat.le_of_ble_eq_true rfl)
  rw [lg_entry_eq]
  generalize (lg_sl ([.ref (A (36 + 20 * i)), .int (nI va), .int vb, .int vc]) ++ List.replicate (5 - (lg_sl ([.ref (A (36 + 20 * i)), .int (nI va), .int vb, .int vc])).length) Slot.unset).toArray = ls at hl ⊢
  have hl : lv_has ls 5 [(0, .ref (A (36 + 20 * i))), (1, .int (nI va)), (2, .int vb), (3, .int vc)] := hl
  clear hI
  have hL : LGq sl sl := LGq.rf
  refine lv_iload_n hx hb dX4_allowHours_0 rfl (lv_at hl 2 rfl) ?_
  refine lv_iload_n hx hb dX4_allowHours_1 rfl (lv_at hl 3 rfl) ?_
  refine va_calli (va_runSN (As := [.int vb, .int vc]) (rest := []) ⟨hx, hb, hml, hown, hts⟩ (x_X11_hoursOf l dC dI ad E hEE A C nb _ hN st sl so vb vc  hG.1) (⟨va_cnB 2 hts gX4_allowHours_X11_hoursOf_n93 rfl rfl rfl (nm_X4_93 hEv) (hts _ mm_X4_allowHours_3) (by decide +kernel) ⟨Nat.le_of_ble_eq_true rfl, Nat.le_of_ble_eq_true rfl⟩, (hts _ mm_X4_allowHours_2), trivial⟩) ⟨fun a U g mk q => ⟨q.1, xPre.blind hEE q.2⟩, fun U hU hW => ⟨rfl, xPre.of hEE hP hK hE hS hU hW⟩⟩ rfl rfl hl.1 rfl (lv_room (Nat.le_of_ble_eq_true rfl)) dX4_allowHours_2 ⟨Nat.le_of_ble_eq_true rfl, Nat.le_of_ble_eq_true rfl⟩) hS (fun q _ h => XA.le hS.1 q h) (XA.le hS.1) (fun r1 x t H locs ht hvm hw hB _ _ hS => ?_)
  have hP := xB.at ht hB
  clear hB ht hvm
  obtain ⟨rfl, hw⟩ := hw
  have hP : va_P (dC, dI) vwCl (xw A C nb st sl so) _ := hP
  clear hw
  refine lv_istore (lv' := [(4, .int r1), (0, .ref (A (36 + 20 * i))), (1, .int (nI va)), (2, .int vb), (3, .int vc)]) hx hb dX4_allowHours_5 hl (by decide) rfl (fun ls hl => ?_)
  refine lv_aload_n hx hb dX4_allowHours_7 rfl (lv_at hl 1 rfl) ?_
  refine va_get (D := (dC, dI)) (ci := 5) (v := .ref (A (36 + 20 * i + 2))) (C := RX4) (T := TX4) (N := 12) hx hb hts ii_X4_allowHours_X4 hown hK hP (36 + 20 * i) (xw_is (r := (36 + 20 * i)) (by omega) (xc_pk (i := i) (o := 0) (by omega) (by omega))) rfl 1 (by decide) (hts _ mm_X4_allowHours_1) (fun _ hh => hh) rfl dX4_allowHours_8 ?_
  refine lv_iload_n hx hb dX4_allowHours_11 rfl (lv_at hl 2 rfl) ?_
  refine va_iald hx hb hK hP (36 + 20 * i + 2) (36 + 20 * i + 2) (xw_is (r := (36 + 20 * i + 2)) (by omega) (xc_pk (i := i) (o := 2) (by omega) (by omega))) (xt_is (r := (36 + 20 * i + 2)) (by omega) ((xty_pk (i := i) (o := 2) (by omega)).trans rfl)) (i := (nI va)) (vp_in_nI (by omega) (by decide)) dX4_allowHours_12 ?_
  refine lv_topi (fun z2 ez2 => ?_)
  clear ez2
  refine lv_iload hx hb dX4_allowHours_13 (lv_at hl 0 rfl) ?_
  refine lv_iand hx hb dX4_allowHours_15 ?_
  refine lv_topi (fun z3 ez3 => ?_)
  clear ez3
  refine lv_iload hx hb dX4_allowHours_16 (lv_at hl 0 rfl) ?_
  refine lv_icmp_ne (tgt := 23) hx hb dX4_allowHours_18 (by decide) (fun c1 => ?_) (fun c1 => ?_)
  · refine lv_aload_n hx hb dX4_allowHours_23 rfl (lv_at hl 1 rfl) ?_
    refine va_get (D := (dC, dI)) (ci := 5) (v := .ref (A (36 + 20 * i + 2))) (C := RX4) (T := TX4) (N := 12) hx hb hts ii_X4_allowHours_X4 hown hK hP (36 + 20 * i) (xw_is (r := (36 + 20 * i)) (by omega) (xc_pk (i := i) (o := 0) (by omega) (by omega))) rfl 1 (by decide) (hts _ mm_X4_allowHours_1) (fun _ hh => hh) rfl dX4_allowHours_24 ?_
    refine lv_iload_n hx hb dX4_allowHours_27 rfl (lv_at hl 2 rfl) ?_
    refine lv_dup2_11 hx hb dX4_allowHours_28 rfl rfl ?_
    refine va_iald hx hb hK hP (36 + 20 * i + 2) (36 + 20 * i + 2) (xw_is (r := (36 + 20 * i + 2)) (by omega) (xc_pk (i := i) (o := 2) (by omega) (by omega))) (xt_is (r := (36 + 20 * i + 2)) (by omega) ((xty_pk (i := i) (o := 2) (by omega)).trans rfl)) (i := (nI va)) (vp_in_nI (by omega) (by decide)) dX4_allowHours_29 ?_
    refine lv_topi (fun z4 ez4 => ?_)
    clear ez4
    refine lv_iload hx hb dX4_allowHours_30 (lv_at hl 0 rfl) ?_
    refine lv_ior hx hb dX4_allowHours_32 ?_
    refine lv_topi (fun z5 ez5 => ?_)
    clear ez5
    refine va_iast hx hb hK hP (xD hN _ _ _ _ _ _) hS (36 + 20 * i + 2) (36 + 20 * i + 2) (xw_is (r := (36 + 20 * i + 2)) (by omega) (xc_pk (i := i) (o := 2) (by omega) (by omega))) (xt_is (r := (36 + 20 * i + 2)) (by omega) ((xty_pk (i := i) (o := 2) (by omega)).trans rfl)) (i := (nI va)) (vp_in_nI (by omega) (by decide)) dX4_allowHours_33 (fun H locs hP _ hS => ?_)
    rw [nI_clamp (by omega)] at hP
    have hP : va_P (dC, dI) vwCl (xw A C nb (up2 st (36 + 20 * i + 2) va z5) sl so) H := by rw [← xset (r := (36 + 20 * i + 2)) (k := va) (v := z5) (xc_pk (i := i) (o := 2) (by omega) (by omega))]; exact hP
    obtain ⟨st6, hP, hG⟩ : ∃ y, va_P (dC, dI) vwCl (xw A C nb y sl so) H ∧ XG [1, 2, 3, 4, 5, 6, 7, 8, 9, 10, 11, 12, 13, 14, 15] st y := ⟨up2 st (36 + 20 * i + 2) va z5, hP, hG.up (xz (r := (36 + 20 * i + 2)) (k := va) ((xrg_pk (i := i) (o := 2) (k := va) (by omega)).trans (by first | rfl | decide))) (xpn (c := 0) ((xcl_pk (i := i) (o := 2) (k := va) (by omega)).trans (by first | rfl | decide)) (by decide))⟩
    refine lv_iconst (v := 0) hx hb dX4_allowHours_34 (by decide) ?_
    exact W.iret (v := 0) hx hb hr (fun t ht hW => ⟨⟨0, (st6, sl, so), rfl, ⟨hG, hL, rfl, trivial⟩, xB.of ht hP⟩, hS.F ht⟩) hS.2.2 dX4_allowHours_35
  · refine lv_iconst (v := 1) hx hb dX4_allowHours_21 (by decide) ?_
    exact W.iret (v := 1) hx hb hr (fun t ht hW => ⟨⟨1, (st, sl, so), rfl, ⟨hG, hL, rfl, trivial⟩, xB.of ht hP⟩, hS.F ht⟩) hS.2.2 dX4_allowHours_22
set_option maxHeartbeats 4000000 in
set_option maxRecDepth 100000 in
theorem x_X4_forbidHours (l : Launch) (dC : Nat → ClassId) (dI : Nat → Nat → Nat) (ad : Nat → Nat) (E : EP) (hEE : EC ad E) (A : Nat → Nat) (C : Nat → ClassId) (nb sz : Nat) (hN : XN A) (st : Nat → Nat → Int32) (sl : Nat → Nat → Int64) (so : Nat → XR) (i : Nat) (va : Nat) (vb : Int32) (vc : Int32) (hi : i < 13) (hva : va < 5) (hI : XI st) : Met l yX4_forbidHours wsX4_forbidHours ({ frames := 1, cells := 0, slots := 0, locals := 21 }) (va_Pc [.ref (A (36 + 20 * i)), .int (nI va), .int vb, .int vc] (xPre E dC dI A C nb sz st sl so)) (va_Qi (fun (r : Int32) (x : XT) => XG [1, 2, 3, 4, 5, 6, 7, 8, 9, 10, 11, 12, 13, 14, 15] st x.1 ∧ LGq sl x.2.1 ∧ x.2.2 = so ∧ (True)) (xB dC dI A C nb) (XA A sz)) 0 0 (XA A sz) := by
  refine Met.ofW (cc := cX4_forbidHours) (maxL := 5) (ret := (some .int)) (by decide) rfl ?_
  intro p e s m args below meth c s₁ B hml hv
  obtain ⟨rfl, hsz, hP, hK, hE⟩ := hv
  have hx := B.exec
  have hb := B.bytes
  have hr := B.returns
  have hts := atoms_spec (ws := wsX4_forbidHours) B.pre
  have hown : s.vm.findClass RX4 = some m.cls := findClass_of_methodNamed B.named
  subst hsz
  have hEv := hEE.1 _ _ _ hE
  have hS : va_S (XA A s.heap.size) s.heap s.heap [] := va_S.rf
  have hG : XG [1, 2, 3, 4, 5, 6, 7, 8, 9, 10, 11, 12, 13, 14, 15] st st := XG.rf hI
  have hl := lv_entry ([.ref (A (36 + 20 * i)), .int (nI va), .int vb, .int vc]) (n := 5) (Nat.le_of_ble_eq_true rfl)
  rw [lg_entry_eq]
  generalize (lg_sl ([.ref (A (36 + 20 * i)), .int (nI va), .int vb, .int vc]) ++ List.replicate (5 - (lg_sl ([.ref (A (36 + 20 * i)), .int (nI va), .int vb, .int vc])).length) Slot.unset).toArray = ls at hl ⊢
  have hl : lv_has ls 5 [(0, .ref (A (36 + 20 * i))), (1, .int (nI va)), (2, .int vb), (3, .int vc)] := hl
  clear hI
  have hL : LGq sl sl := LGq.rf
  refine lv_iload_n hx hb dX4_forbidHours_0 rfl (lv_at hl 2 rfl) ?_
  refine lv_iload_n hx hb dX4_forbidHours_1 rfl (lv_at hl 3 rfl) ?_
  refine va_calli (va_runSN (As := [.int vb, .int vc]) (rest := []) ⟨hx, hb, hml, hown, hts⟩ (x_X11_hoursOf l dC dI ad E hEE A C nb _ hN st sl so vb vc  hG.1) (⟨va_cnB 2 hts gX4_forbidHours_X11_hoursOf_n93 rfl rfl rfl (nm_X4_93 hEv) (hts _ mm_X4_forbidHours_3) (by decide +kernel) ⟨Nat.le_of_ble_eq_true rfl, Nat.le_of_ble_eq_true rfl⟩, (hts _ mm_X4_forbidHours_2), trivial⟩) ⟨fun a U g mk q => ⟨q.1, xPre.blind hEE q.2⟩, fun U hU hW => ⟨rfl, xPre.of hEE hP hK hE hS hU hW⟩⟩ rfl rfl hl.1 rfl (lv_room (Nat.le_of_ble_eq_true rfl)) dX4_forbidHours_2 ⟨Nat.le_of_ble_eq_true rfl, Nat.le_of_ble_eq_true rfl⟩) hS (fun q _ h => XA.le hS.1 q h) (XA.le hS.1) (fun r1 x t H locs ht hvm hw hB _ _ hS => ?_)
  have hP := xB.at ht hB
  clear hB ht hvm
  obtain ⟨rfl, hw⟩ := hw
  have hP : va_P (dC, dI) vwCl (xw A C nb st sl so) _ := hP
  clear hw
  refine lv_istore (lv' := [(4, .int r1), (0, .ref (A (36 + 20 * i))), (1, .int (nI va)), (2, .int vb), (3, .int vc)]) hx hb dX4_forbidHours_5 hl (by decide) rfl (fun ls hl => ?_)
  refine lv_aload_n hx hb dX4_forbidHours_7 rfl (lv_at hl 1 rfl) ?_
  refine va_get (D := (dC, dI)) (ci := 5) (v := .ref (A (36 + 20 * i + 2))) (C := RX4) (T := TX4) (N := 12) hx hb hts ii_X4_forbidHours_X4 hown hK hP (36 + 20 * i) (xw_is (r := (36 + 20 * i)) (by omega) (xc_pk (i := i) (o := 0) (by omega) (by omega))) rfl 1 (by decide) (hts _ mm_X4_forbidHours_1) (fun _ hh => hh) rfl dX4_forbidHours_8 ?_
  refine lv_iload_n hx hb dX4_forbidHours_11 rfl (lv_at hl 2 rfl) ?_
  refine va_iald hx hb hK hP (36 + 20 * i + 2) (36 + 20 * i + 2) (xw_is (r := (36 + 20 * i + 2)) (by omega) (xc_pk (i := i) (o := 2) (by omega) (by omega))) (xt_is (r := (36 + 20 * i + 2)) (by omega) ((xty_pk (i := i) (o := 2) (by omega)).trans rfl)) (i := (nI va)) (vp_in_nI (by omega) (by decide)) dX4_forbidHours_12 ?_
  refine lv_topi (fun z2 ez2 => ?_)
  clear ez2
  refine lv_iload hx hb dX4_forbidHours_13 (lv_at hl 0 rfl) ?_
  refine lv_iand hx hb dX4_forbidHours_15 ?_
  refine lv_topi (fun z3 ez3 => ?_)
  clear ez3
  refine lv_if_ne (tgt := 21) hx hb dX4_forbidHours_16 (by decide) (fun c1 => ?_) (fun c1 => ?_)
  · refine lv_aload_n hx hb dX4_forbidHours_21 rfl (lv_at hl 1 rfl) ?_
    refine va_get (D := (dC, dI)) (ci := 5) (v := .ref (A (36 + 20 * i + 2))) (C := RX4) (T := TX4) (N := 12) hx hb hts ii_X4_forbidHours_X4 hown hK hP (36 + 20 * i) (xw_is (r := (36 + 20 * i)) (by omega) (xc_pk (i := i) (o := 0) (by omega) (by omega))) rfl 1 (by decide) (hts _ mm_X4_forbidHours_1) (fun _ hh => hh) rfl dX4_forbidHours_22 ?_
    refine lv_iload_n hx hb dX4_forbidHours_25 rfl (lv_at hl 2 rfl) ?_
    refine lv_dup2_11 hx hb dX4_forbidHours_26 rfl rfl ?_
    refine va_iald hx hb hK hP (36 + 20 * i + 2) (36 + 20 * i + 2) (xw_is (r := (36 + 20 * i + 2)) (by omega) (xc_pk (i := i) (o := 2) (by omega) (by omega))) (xt_is (r := (36 + 20 * i + 2)) (by omega) ((xty_pk (i := i) (o := 2) (by omega)).trans rfl)) (i := (nI va)) (vp_in_nI (by omega) (by decide)) dX4_forbidHours_27 ?_
    refine lv_topi (fun z4 ez4 => ?_)
    clear ez4
    refine lv_iload hx hb dX4_forbidHours_28 (lv_at hl 0 rfl) ?_
    refine lv_iconst (v := (-1)) hx hb dX4_forbidHours_30 (by decide) ?_
    refine lv_ixor hx hb dX4_forbidHours_31 ?_
    refine lv_topi (fun z5 ez5 => ?_)
    clear ez5
    refine lv_iand hx hb dX4_forbidHours_32 ?_
    refine lv_topi (fun z6 ez6 => ?_)
    clear ez6
    refine va_iast hx hb hK hP (xD hN _ _ _ _ _ _) hS (36 + 20 * i + 2) (36 + 20 * i + 2) (xw_is (r := (36 + 20 * i + 2)) (by omega) (xc_pk (i := i) (o := 2) (by omega) (by omega))) (xt_is (r := (36 + 20 * i + 2)) (by omega) ((xty_pk (i := i) (o := 2) (by omega)).trans rfl)) (i := (nI va)) (vp_in_nI (by omega) (by decide)) dX4_forbidHours_33 (fun H locs hP _ hS => ?_)
    rw [nI_clamp (by omega)] at hP
    have hP : va_P (dC, dI) vwCl (xw A C nb (up2 st (36 + 20 * i + 2) va z6) sl so) H := by rw [← xset (r := (36 + 20 * i + 2)) (k := va) (v := z6) (xc_pk (i := i) (o := 2) (by omega) (by omega))]; exact hP
    obtain ⟨st7, hP, hG⟩ : ∃ y, va_P (dC, dI) vwCl (xw A C nb y sl so) H ∧ XG [1, 2, 3, 4, 5, 6, 7, 8, 9, 10, 11, 12, 13, 14, 15] st y := ⟨up2 st (36 + 20 * i + 2) va z6, hP, hG.up (xz (r := (36 + 20 * i + 2)) (k := va) ((xrg_pk (i := i) (o := 2) (k := va) (by omega)).trans (by first | rfl | decide))) (xpn (c := 0) ((xcl_pk (i := i) (o := 2) (k := va) (by omega)).trans (by first | rfl | decide)) (by decide))⟩
    refine lv_iconst (v := 0) hx hb dX4_forbidHours_34 (by decide) ?_
    exact W.iret (v := 0) hx hb hr (fun t ht hW => ⟨⟨0, (st7, sl, so), rfl, ⟨hG, hL, rfl, trivial⟩, xB.of ht hP⟩, hS.F ht⟩) hS.2.2 dX4_forbidHours_35
  · refine lv_iconst (v := 1) hx hb dX4_forbidHours_19 (by decide) ?_
    exact W.iret (v := 1) hx hb hr (fun t ht hW => ⟨⟨1, (st, sl, so), rfl, ⟨hG, hL, rfl, trivial⟩, xB.of ht hP⟩, hS.F ht⟩) hS.2.2 dX4_forbidHours_20
set_option maxHeartbeats 4000000 in
set_option maxRecDepth 100000 in
theorem x_X4_turnFence (l : Launch) (dC : Nat → ClassId) (dI : Nat → Nat → Nat) (ad : Nat → Nat) (E : EP) (hEE : EC ad E) (A : Nat → Nat) (C : Nat → ClassId) (nb sz : Nat) (hN : XN A) (st : Nat → Nat → Int32) (sl : Nat → Nat → Int64) (so : Nat → XR) (i : Nat) (va : Nat) (hi : i < 13) (hva : va < 5) (hI : XI st) : Met l yX4_turnFence wsX4_turnFence ({ frames := 0, cells := 0, slots := 0, locals := 0 }) (va_Pc [.ref (A (36 + 20 * i)), .int (nI va)] (xPre E dC dI A C nb sz st sl so)) (va_Qi (fun (r : Int32) (x : XT) => XG [1, 2, 3, 4, 5, 6, 7, 8, 9, 10, 11, 12, 13, 14, 15] st x.1 ∧ LGq sl x.2.1 ∧ x.2.2 = so ∧ (True)) (xB dC dI A C nb) (XA A sz)) 0 0 (XA A sz) := by
  refine Met.ofW (cc := cX4_turnFence) (maxL := 2) (ret := (some .int)) (by decide) rfl ?_
  intro p e s m args below meth c s₁ B hml hv
  obtain ⟨rfl, hsz, hP, hK, hE⟩ := hv
  have hx := B.exec
  have hb := B.bytes
  have hr := B.returns
  have hts := atoms_spec (ws := wsX4_turnFence) B.pre
  have hown : s.vm.findClass RX4 = some m.cls := findClass_of_methodNamed B.named
  subst hsz
  have hEv := hEE.1 _ _ _ hE
  have hS : va_S (XA A s.heap.size) s.heap s.heap [] := va_S.rf
  have hG : XG [1, 2, 3, 4, 5, 6, 7, 8, 9, 10, 11, 12, 13, 14, 15] st st := XG.rf hI
  have hl := lv_entry ([.ref (A (36 + 20 * i)), .int (nI va)]) (n := 2) (Nat.le_of_ble_eq_true rfl)
  rw [lg_entry_eq]
  generalize (lg_sl ([.ref (A (36 + 20 * i)), .int (nI va)]) ++ List.replicate (2 - (lg_sl ([.ref (A (36 + 20 * i)), .int (nI va)])).length) Slot.unset).toArray = ls at hl ⊢
  have hl : lv_has ls 2 [(0, .ref (A (36 + 20 * i))), (1, .int (nI va))] := hl
  clear hI
  have hL : LGq sl sl := LGq.rf
  refine lv_aload_n hx hb dX4_turnFence_0 rfl (lv_at hl 0 rfl) ?_
  refine va_get (D := (dC, dI)) (ci := 5) (v := .ref (A (36 + 20 * i + 3))) (C := RX4) (T := TX4) (N := 12) hx hb hts ii_X4_turnFence_X4 hown hK hP (36 + 20 * i) (xw_is (r := (36 + 20 * i)) (by omega) (xc_pk (i := i) (o := 0) (by omega) (by omega))) rfl 2 (by decide) (hts _ mm_X4_turnFence_1) (fun _ hh => hh) rfl dX4_turnFence_1 ?_
  refine lv_iload_n hx hb dX4_turnFence_4 rfl (lv_at hl 1 rfl) ?_
  refine lv_aload_n hx hb dX4_turnFence_5 rfl (lv_at hl 0 rfl) ?_
  refine va_get (D := (dC, dI)) (ci := 5) (v := .ref (A (36 + 20 * i + 3))) (C := RX4) (T := TX4) (N := 12) hx hb hts ii_X4_turnFence_X4 hown hK hP (36 + 20 * i) (xw_is (r := (36 + 20 * i)) (by omega) (xc_pk (i := i) (o := 0) (by omega) (by omega))) rfl 2 (by decide) (hts _ mm_X4_turnFence_1) (fun _ hh => hh) rfl dX4_turnFence_6 ?_
  refine lv_iload_n hx hb dX4_turnFence_9 rfl (lv_at hl 1 rfl) ?_
  refine va_zald hx hb hK hP (36 + 20 * i + 3) (36 + 20 * i + 3) (xw_is (r := (36 + 20 * i + 3)) (by omega) (xc_pk (i := i) (o := 3) (by omega) (by omega))) (xt_is (r := (36 + 20 * i + 3)) (by omega) ((xty_pk (i := i) (o := 3) (by omega)).trans rfl)) (i := (nI va)) (vp_in_nI (by omega) (by decide)) dX4_turnFence_10 ?_
  refine lv_topi (fun z1 ez1 => ?_)
  clear ez1
  refine lv_if_ne (tgt := 18) hx hb dX4_turnFence_11 (by decide) (fun c1 => ?_) (fun c1 => ?_)
  · refine lv_iconst (v := 0) hx hb dX4_turnFence_18 (by decide) ?_
    refine va_zast hx hb hK hP (xD hN _ _ _ _ _ _) hS (36 + 20 * i + 3) (36 + 20 * i + 3) (xw_is (r := (36 + 20 * i + 3)) (by omega) (xc_pk (i := i) (o := 3) (by omega) (by omega))) (xt_is (r := (36 + 20 * i + 3)) (by omega) ((xty_pk (i := i) (o := 3) (by omega)).trans rfl)) (i := (nI va)) (vp_in_nI (by omega) (by decide)) dX4_turnFence_19 (fun H locs hP _ hS => ?_)
    rw [nI_clamp (by omega)] at hP
    have hP : va_P (dC, dI) vwCl (xw A C nb (up2 st (36 + 20 * i + 3) va 0) sl so) H := by rw [← xset (r := (36 + 20 * i + 3)) (k := va) (v := 0) (xc_pk (i := i) (o := 3) (by omega) (by omega))]; exact hP
    obtain ⟨st2, hP, hG⟩ : ∃ y, va_P (dC, dI) vwCl (xw A C nb y sl so) H ∧ XG [1, 2, 3, 4, 5, 6, 7, 8, 9, 10, 11, 12, 13, 14, 15] st y := ⟨up2 st (36 + 20 * i + 3) va 0, hP, hG.up (xz (r := (36 + 20 * i + 3)) (k := va) ((xrg_pk (i := i) (o := 3) (k := va) (by omega)).trans (by first | rfl | decide))) (xpn (c := 0) ((xcl_pk (i := i) (o := 3) (k := va) (by omega)).trans (by first | rfl | decide)) (by decide))⟩
    refine lv_iconst (v := 0) hx hb dX4_turnFence_20 (by decide) ?_
    exact W.iret (v := 0) hx hb hr (fun t ht hW => ⟨⟨0, (st2, sl, so), rfl, ⟨hG, hL, rfl, trivial⟩, xB.of ht hP⟩, hS.F ht⟩) hS.2.2 dX4_turnFence_21
  · refine lv_iconst (v := 1) hx hb dX4_turnFence_14 (by decide) ?_
    refine lv_goto (tgt := 19) hx hb dX4_turnFence_15 (by decide) ?_
    refine va_zast hx hb hK hP (xD hN _ _ _ _ _ _) hS (36 + 20 * i + 3) (36 + 20 * i + 3) (xw_is (r := (36 + 20 * i + 3)) (by omega) (xc_pk (i := i) (o := 3) (by omega) (by omega))) (xt_is (r := (36 + 20 * i + 3)) (by omega) ((xty_pk (i := i) (o := 3) (by omega)).trans rfl)) (i := (nI va)) (vp_in_nI (by omega) (by decide)) dX4_turnFence_19 (fun H locs hP _ hS => ?_)
    rw [nI_clamp (by omega)] at hP
    have hP : va_P (dC, dI) vwCl (xw A C nb (up2 st (36 + 20 * i + 3) va 1) sl so) H := by rw [← xset (r := (36 + 20 * i + 3)) (k := va) (v := 1) (xc_pk (i := i) (o := 3) (by omega) (by omega))]; exact hP
    obtain ⟨st3, hP, hG⟩ : ∃ y, va_P (dC, dI) vwCl (xw A C nb y sl so) H ∧ XG [1, 2, 3, 4, 5, 6, 7, 8, 9, 10, 11, 12, 13, 14, 15] st y := ⟨up2 st (36 + 20 * i + 3) va 1, hP, hG.up (xz (r := (36 + 20 * i + 3)) (k := va) ((xrg_pk (i := i) (o := 3) (k := va) (by omega)).trans (by first | rfl | decide))) (xpn (c := 0) ((xcl_pk (i := i) (o := 3) (k := va) (by omega)).trans (by first | rfl | decide)) (by decide))⟩
    refine lv_iconst (v := 0) hx hb dX4_turnFence_20 (by decide) ?_
    exact W.iret (v := 0) hx hb hr (fun t ht hW => ⟨⟨0, (st3, sl, so), rfl, ⟨hG, hL, rfl, trivial⟩, xB.of ht hP⟩, hS.F ht⟩) hS.2.2 dX4_turnFence_21
set_option maxHeartbeats 4000000 in
set_option maxRecDepth 100000 in
theorem x_X4_writeSign (l : Launch) (dC : Nat → ClassId) (dI : Nat → Nat → Nat) (ad : Nat → Nat) (E : EP) (hEE : EC ad E) (A : Nat → Nat) (C : Nat → ClassId) (nb sz : Nat) (hN : XN A) (st : Nat → Nat → Int32) (sl : Nat → Nat → Int64) (so : Nat → XR) (i : Nat) (va : Int32) (hi : i < 13) (hI : XI st) : Met l yX4_writeSign wsX4_writeSign ({ frames := 0, cells := 0, slots := 0, locals := 0 }) (va_Pc [.ref (A (36 + 20 * i)), .int va] (xPre E dC dI A C nb sz st sl so)) (va_Qi (fun (r : Int32) (x : XT) => XG [1, 2, 3, 4, 5, 6, 7, 8, 9, 10, 11, 12, 13, 14, 15] st x.1 ∧ LGq sl x.2.1 ∧ x.2.2 = so ∧ (True)) (xB dC dI A C nb) (XA A sz)) 0 0 (XA A sz) := by
  refine Met.ofW (cc := cX4_writeSign) (maxL := 2) (ret := (some .int)) (by decide) rfl ?_
  intro p e s m args below meth c s₁ B hml hv
  obtain ⟨rfl, hsz, hP, hK, hE⟩ := hv
  have hx := B.exec
  have hb := B.bytes
  have hr := B.returns
  have hts := atoms_spec (ws := wsX4_writeSign) B.pre
  have hown : s.vm.findClass RX4 = some m.cls := findClass_of_methodNamed B.named
  subst hsz
  have hEv := hEE.1 _ _ _ hE
  have hS : va_S (XA A s.heap.size) s.heap s.heap [] := va_S.rf
  have hG : XG [1, 2, 3, 4, 5, 6, 7, 8, 9, 10, 11, 12, 13, 14, 15] st st := XG.rf hI
  have hl := lv_entry ([.ref (A (36 + 20 * i)), .int va]) (n := 2) (Nat.le_of_ble_eq_true rfl)
  rw [lg_entry_eq]
  generalize (lg_sl ([.ref (A (36 + 20 * i)), .int va]) ++ List.replicate (2 - (lg_sl ([.ref (A (36 + 20 * i)), .int va])).length) Slot.unset).toArray = ls at hl ⊢
  have hl : lv_has ls 2 [(0, .ref (A (36 + 20 * i))), (1, .int va)] := hl
  clear hI
  have hL : LGq sl sl := LGq.rf
  refine lv_aload_n hx hb dX4_writeSign_0 rfl (lv_at hl 0 rfl) ?_
  refine va_get (D := (dC, dI)) (ci := 5) (v := .int (st (36 + 20 * i) 8)) (C := RX4) (T := TX4) (N := 12) hx hb hts ii_X4_writeSign_X4 hown hK hP (36 + 20 * i) (xw_is (r := (36 + 20 * i)) (by omega) (xc_pk (i := i) (o := 0) (by omega) (by omega))) rfl 8 (by decide) (hts _ mm_X4_writeSign_1) (fun _ hh => hh) rfl dX4_writeSign_1 ?_
  refine lv_topi (fun z1 ez1 => ?_)
  clear ez1
  refine lv_iload_n hx hb dX4_writeSign_4 rfl (lv_at hl 1 rfl) ?_
  refine lv_icmp_ne (tgt := 10) hx hb dX4_writeSign_5 (by decide) (fun c1 => ?_) (fun c1 => ?_)
  · refine lv_aload_n hx hb dX4_writeSign_10 rfl (lv_at hl 0 rfl) ?_
    refine lv_iload_n hx hb dX4_writeSign_11 rfl (lv_at hl 1 rfl) ?_
    refine va_put (D := (dC, dI)) (ci := 5) (v := .int va) (ty := .int) (C := RX4) (T := TX4) (N := 12) hx hb hts ii_X4_writeSign_X4 tyX4 tyX4_ok nmX4 hown hK hP (xD hN _ _ _ _ _ _) hS (36 + 20 * i) (xw_is (r := (36 + 20 * i)) (by omega) (xc_pk (i := i) (o := 0) (by omega) (by omega))) rfl 8 (by decide) (hts _ mm_X4_writeSign_1) (fun _ hh => hh) rfl (by decide +kernel) rfl rfl (Nat.le_of_ble_eq_true rfl) dX4_writeSign_12 (fun H locs hP _ hS => ?_)
    have hP : va_P (dC, dI) vwCl (xw A C nb (up2 st (36 + 20 * i) 8 va) sl so) H := by rw [← xset (r := (36 + 20 * i)) (k := 8) (v := va) (xc_pk (i := i) (o := 0) (by omega) (by omega))]; exact hP
    obtain ⟨st2, hP, hG⟩ : ∃ y, va_P (dC, dI) vwCl (xw A C nb y sl so) H ∧ XG [1, 2, 3, 4, 5, 6, 7, 8, 9, 10, 11, 12, 13, 14, 15] st y := ⟨up2 st (36 + 20 * i) 8 va, hP, hG.up (xz (r := (36 + 20 * i)) (k := 8) ((xrg_pk (i := i) (o := 0) (k := 8) (by omega)).trans (by first | rfl | decide))) (xpn (c := 0) ((xcl_pk (i := i) (o := 0) (k := 8) (by omega)).trans (by first | rfl | decide)) (by decide))⟩
    refine lv_iconst (v := 0) hx hb dX4_writeSign_15 (by decide) ?_
    exact W.iret (v := 0) hx hb hr (fun t ht hW => ⟨⟨0, (st2, sl, so), rfl, ⟨hG, hL, rfl, trivial⟩, xB.of ht hP⟩, hS.F ht⟩) hS.2.2 dX4_writeSign_16
  · refine lv_iconst (v := 1) hx hb dX4_writeSign_8 (by decide) ?_
    exact W.iret (v := 1) hx hb hr (fun t ht hW => ⟨⟨1, (st, sl, so), rfl, ⟨hG, hL, rfl, trivial⟩, xB.of ht hP⟩, hS.F ht⟩) hS.2.2 dX4_writeSign_9
set_option maxHeartbeats 4000000 in
set_option maxRecDepth 100000 in
theorem x_X4_holdDog (l : Launch) (dC : Nat → ClassId) (dI : Nat → Nat → Nat) (ad : Nat → Nat) (E : EP) (hEE : EC ad E) (A : Nat → Nat) (C : Nat → ClassId) (nb sz : Nat) (hN : XN A) (st : Nat → Nat → Int32) (sl : Nat → Nat → Int64) (so : Nat → XR) (i : Nat) (va : Nat) (vb : Nat) (hi : i < 13) (hva : va < 6) (hvb : vb < 2) (hI : XI st) : Met l yX4_holdDog wsX4_holdDog ({ frames := 0, cells := 0, slots := 0, locals := 0 }) (va_Pc [.ref (A (36 + 20 * i)), .int (nI va), .int (nI vb)] (xPre E dC dI A C nb sz st sl so)) (va_Qi (fun (r : Int32) (x : XT) => XG [1, 2, 3, 4, 5, 6, 7, 8, 9, 10, 11, 12, 13, 14, 15] st x.1 ∧ LGq sl x.2.1 ∧ x.2.2 = so ∧ (True)) (xB dC dI A C nb) (XA A sz)) 0 0 (XA A sz) := by
  refine Met.ofW (cc := cX4_holdDog) (maxL := 3) (ret := (some .int)) (by decide) rfl ?_
  intro p e s m args below meth c s₁ B hml hv
  obtain ⟨rfl, hsz, hP, hK, hE⟩ := hv
  have hx := B.exec
  have hb := B.bytes
  have hr := B.returns
  have hts := atoms_spec (ws := wsX4_holdDog) B.pre
  have hown : s.vm.findClass RX4 = some m.cls := findClass_of_methodNamed B.named
  subst hsz
  have hEv := hEE.1 _ _ _ hE
  have hS : va_S (XA A s.heap.size) s.heap s.heap [] := va_S.rf
  have hG : XG [1, 2, 3, 4, 5, 6, 7, 8, 9, 10, 11, 12, 13, 14, 15] st st := XG.rf hI
  have hl := lv_entry ([.ref (A (36 + 20 * i)), .int (nI va), .int (nI vb)]) (n := 3) (Nat.le_of_ble_eq_true rfl)
  rw [lg_entry_eq]
  generalize (lg_sl ([.ref (A (36 + 20 * i)), .int (nI va), .int (nI vb)]) ++ List.replicate (3 - (lg_sl ([.ref (A (36 + 20 * i)), .int (nI va), .int (nI vb)])).length) Slot.unset).toArray = ls at hl ⊢
  have hl : lv_has ls 3 [(0, .ref (A (36 + 20 * i))), (1, .int (nI va)), (2, .int (nI vb))] := hl
  clear hI
  have hL : LGq sl sl := LGq.rf
  refine lv_aload_n hx hb dX4_holdDog_0 rfl (lv_at hl 0 rfl) ?_
  refine va_get (D := (dC, dI)) (ci := 5) (v := .ref (A (36 + 20 * i + 5))) (C := RX4) (T := TX4) (N := 12) hx hb hts ii_X4_holdDog_X4 hown hK hP (36 + 20 * i) (xw_is (r := (36 + 20 * i)) (by omega) (xc_pk (i := i) (o := 0) (by omega) (by omega))) rfl 4 (by decide) (hts _ mm_X4_holdDog_1) (fun _ hh => hh) rfl dX4_holdDog_1 ?_
  refine lv_iload_n hx hb dX4_holdDog_4 rfl (lv_at hl 1 rfl) ?_
  refine va_aldq hx hb hK hP (36 + 20 * i + 5) (36 + 20 * i + 5) (xw_is (r := (36 + 20 * i + 5)) (by omega) (xc_pk (i := i) (o := 5) (by omega) (by omega))) (xt_is (r := (36 + 20 * i + 5)) (by omega) ((xty_pk (i := i) (o := 5) (by omega)).trans rfl)) (i := (nI va)) (vp_in_nI (by omega) (by decide)) dX4_holdDog_5 ?_
  refine zz_topq (r := some (A (36 + 20 * i + (14 + va)))) (by rw [nI_clamp (by omega)]; exact congrArg some (congrArg A (by omega))) ?_
  refine va_getN (host := "OffTheLead") (D := (dC, dI)) (ci := 3) (v := .int (st (36 + 20 * i + (14 + va)) 4)) (C := RX2) (T := TX2) (N := 7) hx hb hts ii_X4_holdDog_X2 hown hK hP (36 + 20 * i + (14 + va)) (xw_is (r := (36 + 20 * i + (14 + va))) (by omega) (xc_dog (i := i) (p := va) (by omega) (by omega))) rfl 4 (by decide) (va_Nw.use rfl (nf_X4_83 hEv)) (fun _ hh => hh) rfl dX4_holdDog_6 ?_
  obtain ⟨n1, hn1, en1⟩ := hG.1.at (r := (36 + 20 * i + (14 + va))) (k := 4) (b := 2) ((xrg_do (i := i) (p := va) (by omega)).trans (by decide)) (by decide)
  refine zz_top (v := nI n1) (by exact en1) ?_
  clear en1
  refine lv_iload_n hx hb dX4_holdDog_9 rfl (lv_at hl 2 rfl) ?_
  refine lv_icmp_ne (tgt := 23) hx hb dX4_holdDog_10 (by decide) (fun c1 => ?_) (fun c1 => ?_)
  · have c1 : ¬ n1 = vb := fun hh => c1 ((nI_eq (a := n1) (b := vb) (by omega) (by omega)).mpr hh)
    refine lv_aload_n hx hb dX4_holdDog_23 rfl (lv_at hl 0 rfl) ?_
    refine va_get (D := (dC, dI)) (ci := 5) (v := .ref (A (36 + 20 * i + 5))) (C := RX4) (T := TX4) (N := 12) hx hb hts ii_X4_holdDog_X4 hown hK hP (36 + 20 * i) (xw_is (r := (36 + 20 * i)) (by omega) (xc_pk (i := i) (o := 0) (by omega) (by omega))) rfl 4 (by decide) (hts _ mm_X4_holdDog_1) (fun _ hh => hh) rfl dX4_holdDog_24 ?_
    refine lv_iload_n hx hb dX4_holdDog_27 rfl (lv_at hl 1 rfl) ?_
    refine va_aldq hx hb hK hP (36 + 20 * i + 5) (36 + 20 * i + 5) (xw_is (r := (36 + 20 * i + 5)) (by omega) (xc_pk (i := i) (o := 5) (by omega) (by omega))) (xt_is (r := (36 + 20 * i + 5)) (by omega) ((xty_pk (i := i) (o := 5) (by omega)).trans rfl)) (i := (nI va)) (vp_in_nI (by omega) (by decide)) dX4_holdDog_28 ?_
    refine zz_topq (r := some (A (36 + 20 * i + (14 + va)))) (by rw [nI_clamp (by omega)]; exact congrArg some (congrArg A (by omega))) ?_
    refine lv_iload_n hx hb dX4_holdDog_29 rfl (lv_at hl 2 rfl) ?_
    refine va_putN (host := "OffTheLead") (D := (dC, dI)) (ci := 3) (v := .int (nI vb)) (ty := .boolean) (C := RX2) (T := TX2) (N := 7) hx hb hts ii_X4_holdDog_X2 tyX2 tyX2_ok nmX2 hown hK hP (xD hN _ _ _ _ _ _) hS (36 + 20 * i + (14 + va)) (xw_is (r := (36 + 20 * i + (14 + va))) (by omega) (xc_dog (i := i) (p := va) (by omega) (by omega))) rfl 4 (by decide) (va_Nw.use rfl (nf_X4_83 hEv)) (fun _ hh => hh) rfl (by decide +kernel) (zz_nb (by omega)) (zz_fb (by omega)) (Nat.le_of_ble_eq_true rfl) dX4_holdDog_30 (fun H locs hP _ hS => ?_)
    have hP : va_P (dC, dI) vwCl (xw A C nb (up2 st (36 + 20 * i + (14 + va)) 4 (nI vb)) sl so) H := by rw [← xset (r := (36 + 20 * i + (14 + va))) (k := 4) (v := (nI vb)) (xc_dog (i := i) (p := va) (by omega) (by omega))]; exact hP
    obtain ⟨st2, hP, hG⟩ : ∃ y, va_P (dC, dI) vwCl (xw A C nb y sl so) H ∧ XG [1, 2, 3, 4, 5, 6, 7, 8, 9, 10, 11, 12, 13, 14, 15] st y := ⟨up2 st (36 + 20 * i + (14 + va)) 4 (nI vb), hP, hG.up (xn (n := vb) (b := 2) ((xrg_do (i := i) (p := va) (by omega)).trans (by decide)) (by omega)) (xpn (c := 0) (xcl_do (i := i) (p := va) (k := 4) (by omega)) (by decide))⟩
    refine lv_iconst (v := 0) hx hb dX4_holdDog_33 (by decide) ?_
    exact W.iret (v := 0) hx hb hr (fun t ht hW => ⟨⟨0, (st2, sl, so), rfl, ⟨hG, hL, rfl, trivial⟩, xB.of ht hP⟩, hS.F ht⟩) hS.2.2 dX4_holdDog_34
  · have c1 : n1 = vb := (nI_eq (a := n1) (b := vb) (by omega) (by omega)).mp c1
    refine lv_iload_n hx hb dX4_holdDog_13 rfl (lv_at hl 2 rfl) ?_
    refine lv_if_eq (tgt := 21) hx hb dX4_holdDog_14 (by decide) (fun c2 => ?_) (fun c2 => ?_)
    · have c2 : vb = 0 := (nI_eq (a := vb) (b := 0) (by omega) (by omega)).mp c2
      refine lv_iconst (v := 2) hx hb dX4_holdDog_21 (by decide) ?_
      exact W.iret (v := 2) hx hb hr (fun t ht hW => ⟨⟨2, (st, sl, so), rfl, ⟨hG, hL, rfl, trivial⟩, xB.of ht hP⟩, hS.F ht⟩) hS.2.2 dX4_holdDog_22
    · have c2 : ¬ vb = 0 := fun hh => c2 ((nI_eq (a := vb) (b := 0) (by omega) (by omega)).mpr hh)
      refine lv_iconst (v := 1) hx hb dX4_holdDog_17 (by decide) ?_
      refine lv_goto (tgt := 22) hx hb dX4_holdDog_18 (by decide) ?_
      exact W.iret (v := 1) hx hb hr (fun t ht hW => ⟨⟨1, (st, sl, so), rfl, ⟨hG, hL, rfl, trivial⟩, xB.of ht hP⟩, hS.F ht⟩) hS.2.2 dX4_holdDog_22
