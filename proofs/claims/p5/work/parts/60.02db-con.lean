set_option maxHeartbeats 4000000 in
set_option maxRecDepth 100000 in
theorem x_X4_bring (l : Launch) (dC : Nat → ClassId) (dI : Nat → Nat → Nat) (ad : Nat → Nat) (E : EP) (hEE : EC ad E) (A : Nat → Nat) (C : Nat → ClassId) (nb sz : Nat) (hN : XN A) (st : Nat → Nat → Int32) (sl : Nat → Nat → Int64) (so : Nat → XR) (i : Nat) (va : Nat) (vb : Nat) (vc : Int32) (vd : Int32) (hi : i < 13) (hva : va < 8) (hvb : vb < 5) (hI : XI st) : Met l yX4_bring wsX4_bring ({ frames := 0, cells := 0, slots := 0, locals := 0 }) (va_Pc [.ref (A (36 + 20 * i)), .int (nI va), .int (nI vb), .int vc, .int vd] (xPre E dC dI A C nb sz st sl so)) (va_Qi (fun (r : Int32) (x : XT) => XG [1, 2, 3, 4, 5, 6, 7, 8, 9, 10, 11, 12, 13, 14, 15] st x.1 ∧ LGq sl x.2.1 ∧ x.2.2 = so ∧ (True)) (xB dC dI A C nb) (XA A sz)) 0 0 (XA A sz) := by
  refine Met.ofW (cc := cX4_bring) (maxL := 6) (ret := (some .int)) (by decide) rfl ?_
  intro p e s m args below meth c s₁ B hml hv
  obtain ⟨rfl, hsz, hP, hK, hE⟩ := hv
  have hx := B.exec
  have hb := B.bytes
  have hr := B.returns
  have hts := atoms_spec (ws := wsX4_bring) B.pre
  have hown : s.vm.findClass RX4 = some m.cls := findClass_of_methodNamed B.named
  subst hsz
  have hEv := hEE.1 _ _ _ hE
  have hS : va_S (XA A s.heap.size) s.heap s.heap [] := va_S.rf
  have hG : XG [1, 2, 3, 4, 5, 6, 7, 8, 9, 10, 11, 12, 13, 14, 15] st st := XG.rf hI
  have hl := lv_entry ([.ref (A (36 + 20 * i)), .int (nI va), .int (nI vb), .int vc, .int vd]) (n := 6) (Nat.le_of_ble_eq_true rfl)
  rw [lg_entry_eq]
  generalize (lg_sl ([.ref (A (36 + 20 * i)), .int (nI va), .int (nI vb), .int vc, .int vd]) ++ List.replicate (6 - (lg_sl ([.ref (A (36 + 20 * i)), .int (nI va), .int (nI vb), .int vc, .int vd])).length) Slot.unset).toArray = ls at hl ⊢
  have hl : lv_has ls 6 [(0, .ref (A (36 + 20 * i))), (1, .int (nI va)), (2, .int (nI vb)), (3, .int vc), (4, .int vd)] := hl
  clear hI
  have hL : LGq sl sl := LGq.rf
  refine lv_aload_n hx hb dX4_bring_0 rfl (lv_at hl 0 rfl) ?_
  refine va_get (D := (dC, dI)) (ci := 5) (v := .ref (A (36 + 20 * i + 4))) (C := RX4) (T := TX4) (N := 12) hx hb hts ii_X4_bring_X4 hown hK hP (36 + 20 * i) (xw_is (r := (36 + 20 * i)) (by omega) (xc_pk (i := i) (o := 0) (by omega) (by omega))) rfl 3 (by decide) (hts _ mm_X4_bring_1) (fun _ hh => hh) rfl dX4_bring_1 ?_
  refine lv_iload_n hx hb dX4_bring_4 rfl (lv_at hl 1 rfl) ?_
  refine va_aldq hx hb hK hP (36 + 20 * i + 4) (36 + 20 * i + 4) (xw_is (r := (36 + 20 * i + 4)) (by omega) (xc_pk (i := i) (o := 4) (by omega) (by omega))) (xt_is (r := (36 + 20 * i + 4)) (by omega) ((xty_pk (i := i) (o := 4) (by omega)).trans rfl)) (i := (nI va)) (vp_in_nI (by omega) (by decide)) dX4_bring_5 ?_
  refine zz_topq (r := some (A (36 + 20 * i + (6 + va)))) (by rw [nI_clamp (by omega)]; exact congrArg some (congrArg A (by omega))) ?_
  refine lv_astore (lv' := [(5, .ref (A (36 + 20 * i + (6 + va)))), (0, .ref (A (36 + 20 * i))), (1, .int (nI va)), (2, .int (nI vb)), (3, .int vc), (4, .int vd)]) hx hb dX4_bring_6 hl (by decide) rfl (fun ls hl => ?_)
  refine lv_aload hx hb dX4_bring_8 (lv_at hl 0 rfl) ?_
  refine va_getN (host := "OffTheLead") (D := (dC, dI)) (ci := 7) (v := .int (st (36 + 20 * i + (6 + va)) 1)) (C := RX6) (T := TX6) (N := 9) hx hb hts ii_X4_bring_X6 hown hK hP (36 + 20 * i + (6 + va)) (xw_is (r := (36 + 20 * i + (6 + va))) (by omega) (xc_person (i := i) (p := va) (by omega) (by omega))) rfl 1 (by decide) (va_Nw.use rfl (nf_X4_97 hEv)) (fun _ hh => hh) rfl dX4_bring_10 ?_
  obtain ⟨n1, hn1, en1⟩ := hG.1.at (r := (36 + 20 * i + (6 + va))) (k := 1) (b := 5) ((xrg_pe (i := i) (p := va) (by omega)).trans (by decide)) (by decide)
  refine zz_top (v := nI n1) (by exact en1) ?_
  clear en1
  refine lv_iload_n hx hb dX4_bring_13 rfl (lv_at hl 3 rfl) ?_
  refine lv_icmp_ne (tgt := 38) hx hb dX4_bring_14 (by decide) (fun c1 => ?_) (fun c1 => ?_)
  · have c1 : ¬ n1 = vb := fun hh => c1 ((nI_eq (a := n1) (b := vb) (by omega) (by omega)).mpr hh)
    refine lv_aload hx hb dX4_bring_38 (lv_at hl 0 rfl) ?_
    refine lv_iload_n hx hb dX4_bring_40 rfl (lv_at hl 3 rfl) ?_
    refine va_putN (host := "OffTheLead") (D := (dC, dI)) (ci := 7) (v := .int (nI vb)) (ty := .int) (C := RX6) (T := TX6) (N := 9) hx hb hts ii_X4_bring_X6 tyX6 tyX6_ok nmX6 hown hK hP (xD hN _ _ _ _ _ _) hS (36 + 20 * i + (6 + va)) (xw_is (r := (36 + 20 * i + (6 + va))) (by omega) (xc_person (i := i) (p := va) (by omega) (by omega))) rfl 1 (by decide) (va_Nw.use rfl (nf_X4_97 hEv)) (fun _ hh => hh) rfl (by decide +kernel) rfl rfl (Nat.le_of_ble_eq_true rfl) dX4_bring_41 (fun H locs hP _ hS => ?_)
    have hP : va_P (dC, dI) vwCl (xw A C nb (up2 st (36 + 20 * i + (6 + va)) 1 (nI vb)) sl so) H := by rw [← xset (r := (36 + 20 * i + (6 + va))) (k := 1) (v := (nI vb)) (xc_person (i := i) (p := va) (by omega) (by omega))]; exact hP
    obtain ⟨st2, hP, hG⟩ : ∃ y, va_P (dC, dI) vwCl (xw A C nb y sl so) H ∧ XG [1, 2, 3, 4, 5, 6, 7, 8, 9, 10, 11, 12, 13, 14, 15] st y := ⟨up2 st (36 + 20 * i + (6 + va)) 1 (nI vb), hP, hG.up (xn (n := vb) (b := 5) ((xrg_pe (i := i) (p := va) (by omega)).trans (by decide)) (by omega)) (xpn (c := 0) (xcl_pe (i := i) (p := va) (k := 1) (by omega)) (by decide))⟩
    refine lv_aload hx hb dX4_bring_44 (lv_at hl 0 rfl) ?_
    refine lv_iload_n hx hb dX4_bring_46 rfl (lv_at hl 4 rfl) ?_
    refine va_putN (host := "OffTheLead") (D := (dC, dI)) (ci := 7) (v := .int vc) (ty := .int) (C := RX6) (T := TX6) (N := 9) hx hb hts ii_X4_bring_X6 tyX6 tyX6_ok nmX6 hown hK hP (xD hN _ _ _ _ _ _) hS (36 + 20 * i + (6 + va)) (xw_is (r := (36 + 20 * i + (6 + va))) (by omega) (xc_person (i := i) (p := va) (by omega) (by omega))) rfl 2 (by decide) (va_Nw.use rfl (nf_X4_100 hEv)) (fun _ hh => hh) rfl (by decide +kernel) rfl rfl (Nat.le_of_ble_eq_true rfl) dX4_bring_47 (fun H locs hP _ hS => ?_)
    have hP : va_P (dC, dI) vwCl (xw A C nb (up2 st2 (36 + 20 * i + (6 + va)) 2 vc) sl so) H := by rw [← xset (r := (36 + 20 * i + (6 + va))) (k := 2) (v := vc) (xc_person (i := i) (p := va) (by omega) (by omega))]; exact hP
    obtain ⟨st3, hP, hG⟩ : ∃ y, va_P (dC, dI) vwCl (xw A C nb y sl so) H ∧ XG [1, 2, 3, 4, 5, 6, 7, 8, 9, 10, 11, 12, 13, 14, 15] st y := ⟨up2 st2 (36 + 20 * i + (6 + va)) 2 vc, hP, hG.up (xz (r := (36 + 20 * i + (6 + va))) (k := 2) ((xrg_pe (i := i) (p := va) (by omega)).trans (by decide))) (xpn (c := 0) (xcl_pe (i := i) (p := va) (k := 2) (by omega)) (by decide))⟩
    refine lv_aload hx hb dX4_bring_50 (lv_at hl 0 rfl) ?_
    refine lv_iload hx hb dX4_bring_52 (lv_at hl 5 rfl) ?_
    refine va_putN (host := "OffTheLead") (D := (dC, dI)) (ci := 7) (v := .int vd) (ty := .int) (C := RX6) (T := TX6) (N := 9) hx hb hts ii_X4_bring_X6 tyX6 tyX6_ok nmX6 hown hK hP (xD hN _ _ _ _ _ _) hS (36 + 20 * i + (6 + va)) (xw_is (r := (36 + 20 * i + (6 + va))) (by omega) (xc_person (i := i) (p := va) (by omega) (by omega))) rfl 3 (by decide) (va_Nw.use rfl (nf_X4_103 hEv)) (fun _ hh => hh) rfl (by decide +kernel) rfl rfl (Nat.le_of_ble_eq_true rfl) dX4_bring_54 (fun H locs hP _ hS => ?_)
    have hP : va_P (dC, dI) vwCl (xw A C nb (up2 st3 (36 + 20 * i + (6 + va)) 3 vd) sl so) H := by rw [← xset (r := (36 + 20 * i + (6 + va))) (k := 3) (v := vd) (xc_person (i := i) (p := va) (by omega) (by omega))]; exact hP
    obtain ⟨st4, hP, hG⟩ : ∃ y, va_P (dC, dI) vwCl (xw A C nb y sl so) H ∧ XG [1, 2, 3, 4, 5, 6, 7, 8, 9, 10, 11, 12, 13, 14, 15] st y := ⟨up2 st3 (36 + 20 * i + (6 + va)) 3 vd, hP, hG.up (xz (r := (36 + 20 * i + (6 + va))) (k := 3) ((xrg_pe (i := i) (p := va) (by omega)).trans (by decide))) (xpn (c := 0) (xcl_pe (i := i) (p := va) (k := 3) (by omega)) (by decide))⟩
    refine lv_iconst (v := 0) hx hb dX4_bring_57 (by decide) ?_
    exact W.iret (v := 0) hx hb hr (fun t ht hW => ⟨⟨0, (st4, sl, so), rfl, ⟨hG, hL, rfl, trivial⟩, xB.of ht hP⟩, hS.F ht⟩) hS.2.2 dX4_bring_58
  · have c1 : n1 = vb := (nI_eq (a := n1) (b := vb) (by omega) (by omega)).mp c1
    refine lv_aload hx hb dX4_bring_17 (lv_at hl 0 rfl) ?_
    refine va_getN (host := "OffTheLead") (D := (dC, dI)) (ci := 7) (v := .int (st (36 + 20 * i + (6 + va)) 2)) (C := RX6) (T := TX6) (N := 9) hx hb hts ii_X4_bring_X6 hown hK hP (36 + 20 * i + (6 + va)) (xw_is (r := (36 + 20 * i + (6 + va))) (by omega) (xc_person (i := i) (p := va) (by omega) (by omega))) rfl 2 (by decide) (va_Nw.use rfl (nf_X4_100 hEv)) (fun _ hh => hh) rfl dX4_bring_19 ?_
    refine lv_topi (fun z5 ez5 => ?_)
    clear ez5
    refine lv_iload_n hx hb dX4_bring_22 rfl (lv_at hl 4 rfl) ?_
    refine lv_icmp_ne (tgt := 38) hx hb dX4_bring_23 (by decide) (fun c2 => ?_) (fun c2 => ?_)
    · refine lv_aload hx hb dX4_bring_38 (lv_at hl 0 rfl) ?_
      refine lv_iload_n hx hb dX4_bring_40 rfl (lv_at hl 3 rfl) ?_
      refine va_putN (host := "OffTheLead") (D := (dC, dI)) (ci := 7) (v := .int (nI vb)) (ty := .int) (C := RX6) (T := TX6) (N := 9) hx hb hts ii_X4_bring_X6 tyX6 tyX6_ok nmX6 hown hK hP (xD hN _ _ _ _ _ _) hS (36 + 20 * i + (6 + va)) (xw_is (r := (36 + 20 * i + (6 + va))) (by omega) (xc_person (i := i) (p := va) (by omega) (by omega))) rfl 1 (by decide) (va_Nw.use rfl (nf_X4_97 hEv)) (fun _ hh => hh) rfl (by decide +kernel) rfl rfl (Nat.le_of_ble_eq_true rfl) dX4_bring_41 (fun H locs hP _ hS => ?_)
      have hP : va_P (dC, dI) vwCl (xw A C nb (up2 st (36 + 20 * i + (6 + va)) 1 (nI vb)) sl so) H := by rw [← xset (r := (36 + 20 * i + (6 + va))) (k := 1) (v := (nI vb)) (xc_person (i := i) (p := va) (by omega) (by omega))]; exact hP
      obtain ⟨st6, hP, hG⟩ : ∃ y, va_P (dC, dI) vwCl (xw A C nb y sl so) H ∧ XG [1, 2, 3, 4, 5, 6, 7, 8, 9, 10, 11, 12, 13, 14, 15] st y := ⟨up2 st (36 + 20 * i + (6 + va)) 1 (nI vb), hP, hG.up (xn (n := vb) (b := 5) ((xrg_pe (i := i) (p := va) (by omega)).trans (by decide)) (by omega)) (xpn (c := 0) (xcl_pe (i := i) (p := va) (k := 1) (by omega)) (by decide))⟩
      refine lv_aload hx hb dX4_bring_44 (lv_at hl 0 rfl) ?_
      refine lv_iload_n hx hb dX4_bring_46 rfl (lv_at hl 4 rfl) ?_
      refine va_putN (host := "OffTheLead") (D := (dC, dI)) (ci := 7) (v := .int vc) (ty := .int) (C := RX6) (T := TX6) (N := 9) hx hb hts ii_X4_bring_X6 tyX6 tyX6_ok nmX6 hown hK hP (xD hN _ _ _ _ _ _) hS (36 + 20 * i + (6 + va)) (xw_is (r := (36 + 20 * i + (6 + va))) (by omega) (xc_person (i := i) (p := va) (by omega) (by omega))) rfl 2 (by decide) (va_Nw.use rfl (nf_X4_100 hEv)) (fun _ hh => hh) rfl (by decide +kernel) rfl rfl (Nat.le_of_ble_eq_true rfl) dX4_bring_47 (fun H locs hP _ hS => ?_)
      have hP : va_P (dC, dI) vwCl (xw A C nb (up2 st6 (36 + 20 * i + (6 + va)) 2 vc) sl so) H := by rw [← xset (r := (36 + 20 * i + (6 + va))) (k := 2) (v := vc) (xc_person (i := i) (p := va) (by omega) (by omega))]; exact hP
      obtain ⟨st7, hP, hG⟩ : ∃ y, va_P (dC, dI) vwCl (xw A C nb y sl so) H ∧ XG [1, 2, 3, 4, 5, 6, 7, 8, 9, 10, 11, 12, 13, 14, 15] st y := ⟨up2 st6 (36 + 20 * i + (6 + va)) 2 vc, hP, hG.up (xz (r := (36 + 20 * i + (6 + va))) (k := 2) ((xrg_pe (i := i) (p := va) (by omega)).trans (by decide))) (xpn (c := 0) (xcl_pe (i := i) (p := va) (k := 2) (by omega)) (by decide))⟩
      refine lv_aload hx hb dX4_bring_50 (lv_at hl 0 rfl) ?_
      refine lv_iload hx hb dX4_bring_52 (lv_at hl 5 rfl) ?_
      refine va_putN (host := "OffTheLead") (D := (dC, dI)) (ci := 7) (v := .int vd) (ty := .int) (C := RX6) (T := TX6) (N := 9) hx hb hts ii_X4_bring_X6 tyX6 tyX6_ok nmX6 hown hK hP (xD hN _ _ _ _ _ _) hS (36 + 20 * i + (6 + va)) (xw_is (r := (36 + 20 * i + (6 + va))) (by omega) (xc_person (i := i) (p := va) (by omega) (by omega))) rfl 3 (by decide) (va_Nw.use rfl (nf_X4_103 hEv)) (fun _ hh => hh) rfl (by decide +kernel) rfl rfl (Nat.le_of_ble_eq_true rfl) dX4_bring_54 (fun H locs hP _ hS => ?_)
      have hP : va_P (dC, dI) vwCl (xw A C nb (up2 st7 (36 + 20 * i + (6 + va)) 3 vd) sl so) H := by rw [← xset (r := (36 + 20 * i + (6 + va))) (k := 3) (v := vd) (xc_person (i := i) (p := va) (by omega) (by omega))]; exact hP
      obtain ⟨st8, hP, hG⟩ : ∃ y, va_P (dC, dI) vwCl (xw A C nb y sl so) H ∧ XG [1, 2, 3, 4, 5, 6, 7, 8, 9, 10, 11, 12, 13, 14, 15] st y := ⟨up2 st7 (36 + 20 * i + (6 + va)) 3 vd, hP, hG.up (xz (r := (36 + 20 * i + (6 + va))) (k := 3) ((xrg_pe (i := i) (p := va) (by omega)).trans (by decide))) (xpn (c := 0) (xcl_pe (i := i) (p := va) (k := 3) (by omega)) (by decide))⟩
      refine lv_iconst (v := 0) hx hb dX4_bring_57 (by decide) ?_
      exact W.iret (v := 0) hx hb hr (fun t ht hW => ⟨⟨0, (st8, sl, so), rfl, ⟨hG, hL, rfl, trivial⟩, xB.of ht hP⟩, hS.F ht⟩) hS.2.2 dX4_bring_58
    · refine lv_aload hx hb dX4_bring_26 (lv_at hl 0 rfl) ?_
      refine va_getN (host := "OffTheLead") (D := (dC, dI)) (ci := 7) (v := .int (st (36 + 20 * i + (6 + va)) 3)) (C := RX6) (T := TX6) (N := 9) hx hb hts ii_X4_bring_X6 hown hK hP (36 + 20 * i + (6 + va)) (xw_is (r := (36 + 20 * i + (6 + va))) (by omega) (xc_person (i := i) (p := va) (by omega) (by omega))) rfl 3 (by decide) (va_Nw.use rfl (nf_X4_103 hEv)) (fun _ hh => hh) rfl dX4_bring_28 ?_
      refine lv_topi (fun z9 ez9 => ?_)
      clear ez9
      refine lv_iload hx hb dX4_bring_31 (lv_at hl 5 rfl) ?_
      refine lv_icmp_ne (tgt := 38) hx hb dX4_bring_33 (by decide) (fun c3 => ?_) (fun c3 => ?_)
      · refine lv_aload hx hb dX4_bring_38 (lv_at hl 0 rfl) ?_
        refine lv_iload_n hx hb dX4_bring_40 rfl (lv_at hl 3 rfl) ?_
        refine va_putN (host := "OffTheLead") (D := (dC, dI)) (ci := 7) (v := .int (nI vb)) (ty := .int) (C := RX6) (T := TX6) (N := 9) hx hb hts ii_X4_bring_X6 tyX6 tyX6_ok nmX6 hown hK hP (xD hN _ _ _ _ _ _) hS (36 + 20 * i + (6 + va)) (xw_is (r := (36 + 20 * i + (6 + va))) (by omega) (xc_person (i := i) (p := va) (by omega) (by omega))) rfl 1 (by decide) (va_Nw.use rfl (nf_X4_97 hEv)) (fun _ hh => hh) rfl (by decide +kernel) rfl rfl (Nat.le_of_ble_eq_true rfl) dX4_bring_41 (fun H locs hP _ hS => ?_)
        have hP : va_P (dC, dI) vwCl (xw A C nb (up2 st (36 + 20 * i + (6 + va)) 1 (nI vb)) sl so) H := by rw [← xset (r := (36 + 20 * i + (6 + va))) (k := 1) (v := (nI vb)) (xc_person (i := i) (p := va) (by omega) (by omega))]; exact hP
        obtain ⟨st10, hP, hG⟩ : ∃ y, va_P (dC, dI) vwCl (xw A C nb y sl so) H ∧ XG [1, 2, 3, 4, 5, 6, 7, 8, 9, 10, 11, 12, 13, 14, 15] st y := ⟨up2 st (36 + 20 * i + (6 + va)) 1 (nI vb), hP, hG.up (xn (n := vb) (b := 5) ((xrg_pe (i := i) (p := va) (by omega)).trans (by decide)) (by omega)) (xpn (c := 0) (xcl_pe (i := i) (p := va) (k := 1) (by omega)) (by decide))⟩
        refine lv_aload hx hb dX4_bring_44 (lv_at hl 0 rfl) ?_
        refine lv_iload_n hx hb dX4_bring_46 rfl (lv_at hl 4 rfl) ?_
        refine va_putN (host := "OffTheLead") (D := (dC, dI)) (ci := 7) (v := .int vc) (ty := .int) (C := RX6) (T := TX6) (N := 9) hx hb hts ii_X4_bring_X6 tyX6 tyX6_ok nmX6 hown hK hP (xD hN _ _ _ _ _ _) hS (36 + 20 * i + (6 + va)) (xw_is (r := (36 + 20 * i + (6 + va))) (by omega) (xc_person (i := i) (p := va) (by omega) (by omega))) rfl 2 (by decide) (va_Nw.use rfl (nf_X4_100 hEv)) (fun _ hh => hh) rfl (by decide +kernel) rfl rfl (Nat.le_of_ble_eq_true rfl) dX4_bring_47 (fun H locs hP _ hS => ?_)
        have hP : va_P (dC, dI) vwCl (xw A C nb (up2 st10 (36 + 20 * i + (6 + va)) 2 vc) sl so) H := by rw [← xset (r := (36 + 20 * i + (6 + va))) (k := 2) (v := vc) (xc_person (i := i) (p := va) (by omega) (by omega))]; exact hP
        obtain ⟨st11, hP, hG⟩ : ∃ y, va_P (dC, dI) vwCl (xw A C nb y sl so) H ∧ XG [1, 2, 3, 4, 5, 6, 7, 8, 9, 10, 11, 12, 13, 14, 15] st y := ⟨up2 st10 (36 + 20 * i + (6 + va)) 2 vc, hP, hG.up (xz (r := (36 + 20 * i + (6 + va))) (k := 2) ((xrg_pe (i := i) (p := va) (by omega)).trans (by decide))) (xpn (c := 0) (xcl_pe (i := i) (p := va) (k := 2) (by omega)) (by decide))⟩
        refine lv_aload hx hb dX4_bring_50 (lv_at hl 0 rfl) ?_
        refine lv_iload hx hb dX4_bring_52 (lv_at hl 5 rfl) ?_
        refine va_putN (host := "OffTheLead") (D := (dC, dI)) (ci := 7) (v := .int vd) (ty := .int) (C := RX6) (T := TX6) (N := 9) hx hb hts ii_X4_bring_X6 tyX6 tyX6_ok nmX6 hown hK hP (xD hN _ _ _ _ _ _) hS (36 + 20 * i + (6 + va)) (xw_is (r := (36 + 20 * i + (6 + va))) (by omega) (xc_person (i := i) (p := va) (by omega) (by omega))) rfl 3 (by decide) (va_Nw.use rfl (nf_X4_103 hEv)) (fun _ hh => hh) rfl (by decide +kernel) rfl rfl (Nat.le_of_ble_eq_true rfl) dX4_bring_54 (fun H locs hP _ hS => ?_)
        have hP : va_P (dC, dI) vwCl (xw A C nb (up2 st11 (36 + 20 * i + (6 + va)) 3 vd) sl so) H := by rw [← xset (r := (36 + 20 * i + (6 + va))) (k := 3) (v := vd) (xc_person (i := i) (p := va) (by omega) (by omega))]; exact hP
        obtain ⟨st12, hP, hG⟩ : ∃ y, va_P (dC, dI) vwCl (xw A C nb y sl so) H ∧ XG [1, 2, 3, 4, 5, 6, 7, 8, 9, 10, 11, 12, 13, 14, 15] st y := ⟨up2 st11 (36 + 20 * i + (6 + va)) 3 vd, hP, hG.up (xz (r := (36 + 20 * i + (6 + va))) (k := 3) ((xrg_pe (i := i) (p := va) (by omega)).trans (by decide))) (xpn (c := 0) (xcl_pe (i := i) (p := va) (k := 3) (by omega)) (by decide))⟩
        refine lv_iconst (v := 0) hx hb dX4_bring_57 (by decide) ?_
        exact W.iret (v := 0) hx hb hr (fun t ht hW => ⟨⟨0, (st12, sl, so), rfl, ⟨hG, hL, rfl, trivial⟩, xB.of ht hP⟩, hS.F ht⟩) hS.2.2 dX4_bring_58
      · refine lv_iconst (v := 1) hx hb dX4_bring_36 (by decide) ?_
        exact W.iret (v := 1) hx hb hr (fun t ht hW => ⟨⟨1, (st, sl, so), rfl, ⟨hG, hL, rfl, trivial⟩, xB.of ht hP⟩, hS.F ht⟩) hS.2.2 dX4_bring_37
set_option maxHeartbeats 4000000 in
set_option maxRecDepth 100000 in
theorem x_numberOf0 (l : Launch) (dC : Nat → ClassId) (dI : Nat → Nat → Nat) (ad : Nat → Nat) (E : EP) (hEE : EC ad E) (A : Nat → Nat) (C : Nat → ClassId) (nb sz : Nat) (hN : XN A) (st : Nat → Nat → Int32) (sl : Nat → Nat → Int64) (so : Nat → XR) (i : Nat) (vw : Int64) (hi : i < 13) (hI : XI st) : Met l yX4_numberOf wsX4_numberOf ({ frames := 0, cells := 0, slots := 0, locals := 0 }) (va_Pc [.ref (A (36 + 20 * i)), .int 0, .long vw] (xPre E dC dI A C nb sz st sl so)) (va_Qi (fun (r : Int32) (x : XT) => x = (st, sl, so) ∧ ((r = (-1)) ∨ (∃ n : Nat, r = nI n ∧ n < 5))) (xB dC dI A C nb) (XA A sz)) 0 0 (XA A sz) := by
  refine Met.ofW (cc := cX4_numberOf) (maxL := 8) (ret := (some .int)) (by decide) rfl ?_
  intro p e s m args below meth c s₁ B hml hv
  obtain ⟨rfl, hsz, hP, hK, hE⟩ := hv
  have hx := B.exec
  have hb := B.bytes
  have hr := B.returns
  have hts := atoms_spec (ws := wsX4_numberOf) B.pre
  have hown : s.vm.findClass RX4 = some m.cls := findClass_of_methodNamed B.named
  subst hsz
  have hEv := hEE.1 _ _ _ hE
  have hS : va_S (XA A s.heap.size) s.heap s.heap [] := va_S.rf
  have hG : XG [1, 2, 3, 4, 5, 6, 7, 8, 9, 10, 11, 12, 13, 14, 15] st st := XG.rf hI
  have hl := lv_entry ([.ref (A (36 + 20 * i)), .int 0, .long vw]) (n := 8) (Nat.le_of_ble_eq_true rfl)
  rw [lg_entry_eq]
  generalize (lg_sl ([.ref (A (36 + 20 * i)), .int 0, .long vw]) ++ List.replicate (8 - (lg_sl ([.ref (A (36 + 20 * i)), .int 0, .long vw])).length) Slot.unset).toArray = ls at hl ⊢
  have hl : lv_has ls 8 [(0, .ref (A (36 + 20 * i))), (1, .int 0), (2, .long vw)] := hl
  clear hI
  refine lv_iload_n hx hb dX4_numberOf_0 rfl (lv_at hl 1 rfl) ?_
  refine lv_if_ne (tgt := 11) hx hb dX4_numberOf_1 (by decide) (fun cc => absurd (by decide) cc) (fun _ => ?_)
  refine lv_aload_n hx hb dX4_numberOf_4 rfl (lv_at hl 0 rfl) ?_
  refine va_get (D := (dC, dI)) (ci := 5) (v := .int (st (36 + 20 * i) 5)) (C := RX4) (T := TX4) (N := 12) hx hb hts ii_X4_numberOf_X4 hown hK hP (36 + 20 * i) (xw_is (r := (36 + 20 * i)) (by omega) (xc_pk (i := i) (o := 0) (by omega) (by omega))) rfl 5 (by decide) (hts _ mm_X4_numberOf_1) (fun _ hh => hh) rfl dX4_numberOf_5 ?_
  obtain ⟨n1, hn1, en1⟩ := hG.1.at (r := (36 + 20 * i)) (k := 5) (b := 6) ((xrg_pk (i := i) (o := 0) (k := 5) (by omega)).trans (by first | rfl | decide)) (by decide)
  refine zz_top (v := nI n1) (by exact en1) ?_
  clear en1
  refine lv_goto (tgt := 27) hx hb dX4_numberOf_8 (by decide) ?_
  refine lv_istore (lv' := [(4, .int (nI n1)), (0, .ref (A (36 + 20 * i))), (1, .int 0), (2, .long vw)]) hx hb dX4_numberOf_27 hl (by decide) rfl (fun ls hl => ?_)
  refine lv_iconst (v := 0) hx hb dX4_numberOf_29 (by decide) ?_
  refine lv_istore (lv' := [(5, .int 0), (4, .int (nI n1)), (0, .ref (A (36 + 20 * i))), (1, .int 0), (2, .long vw)]) hx hb dX4_numberOf_30 hl (by decide) rfl (fun ls hl => ?_)
  refine zz_wf (fun n stk H locs ls => ∃ k2 : Nat, n = 10 - k2 ∧ 0 ≤ k2 ∧ k2 < 10 ∧ va_P (dC, dI) vwCl (xw A C nb st sl so) H ∧ va_S (XA A s.heap.size) s.heap H locs ∧ lv_has ls 8 [(5, .int (nI k2)), (4, .int (nI n1)), (0, .ref (A (36 + 20 * i))), (1, .int 0), (2, .long vw)] ∧ stk = []) ?_ (10 - 0) _ _ _ _ ⟨0, rfl, by omega, by omega, hP, hS, lv_sub hl [0, 1, 2, 3, 4] rfl, rfl⟩
  rintro nn stk H locs ls ⟨k2, hm4, hv3_0, hv4_1, hP, hS, hl, rfl⟩ ih5
  refine lv_iload hx hb dX4_numberOf_32 (lv_at hl 0 rfl) ?_
  refine lv_iload hx hb dX4_numberOf_34 (lv_at hl 1 rfl) ?_
  refine lv_icmp_ge (tgt := 99) hx hb dX4_numberOf_36 (by decide) (fun c2 => ?_) (fun c2 => ?_)
  · have c2 : n1 ≤ k2 := (nI_leI (a := n1) (b := k2) (by omega) (by omega)).mp c2
    refine lv_iconst (v := (-1)) hx hb dX4_numberOf_99 (by decide) ?_
    exact W.iret (v := (-1)) hx hb hr (fun t ht hW => ⟨⟨(-1), (st, sl, so), rfl, ⟨rfl, Or.inl (rfl)⟩, xB.of ht hP⟩, hS.F ht⟩) hS.2.2 dX4_numberOf_100
  · have c2 : ¬ n1 ≤ k2 := fun hh => c2 ((nI_leI (a := n1) (b := k2) (by omega) (by omega)).mpr hh)
    refine lv_iload_n hx hb dX4_numberOf_39 rfl (lv_at hl 3 rfl) ?_
    refine lv_if_ne (tgt := 53) hx hb dX4_numberOf_40 (by decide) (fun cc => absurd (by decide) cc) (fun _ => ?_)
    refine lv_aload_n hx hb dX4_numberOf_43 rfl (lv_at hl 2 rfl) ?_
    refine va_get (D := (dC, dI)) (ci := 5) (v := .ref (A (36 + 20 * i + 1))) (C := RX4) (T := TX4) (N := 12) hx hb hts ii_X4_numberOf_X4 hown hK hP (36 + 20 * i) (xw_is (r := (36 + 20 * i)) (by omega) (xc_pk (i := i) (o := 0) (by omega) (by omega))) rfl 0 (by decide) (hts _ mm_X4_numberOf_4) (fun _ hh => hh) rfl dX4_numberOf_44 ?_
    refine lv_iload hx hb dX4_numberOf_47 (lv_at hl 0 rfl) ?_
    refine va_lald hx hb hK hP (36 + 20 * i + 1) (36 + 20 * i + 1) (xw_is (r := (36 + 20 * i + 1)) (by omega) (xc_pk (i := i) (o := 1) (by omega) (by omega))) (xt_is (r := (36 + 20 * i + 1)) (by omega) ((xty_pk (i := i) (o := 1) (by omega)).trans rfl)) (i := (nI k2)) (vp_in_nI (by omega) (by decide)) dX4_numberOf_49 ?_
    refine lv_topl (fun z6 ez6 => ?_)
    clear ez6
    refine lv_goto (tgt := 81) hx hb dX4_numberOf_50 (by decide) ?_
    refine lv_lstore (lv' := [(6, .long z6), (5, .int (nI k2)), (4, .int (nI n1)), (0, .ref (A (36 + 20 * i))), (1, .int 0), (2, .long vw)]) hx hb dX4_numberOf_81 hl (by decide) rfl (fun ls hl => ?_)
    refine lv_lload hx hb dX4_numberOf_83 (lv_at hl 0 rfl) ?_
    refine lv_lload_n hx hb dX4_numberOf_85 rfl (lv_at hl 5 rfl) ?_
    refine W.lcmp hx hb dX4_numberOf_86 ?_
    refine lv_topi (fun z7 ez7 => ?_)
    refine lv_if_ne (tgt := 93) hx hb dX4_numberOf_87 (by decide) (fun c4 => ?_) (fun c4 => ?_)
    · refine lv_iinc (v := (nI (k2 + 1))) (lv' := [(5, .int (nI (k2 + 1))), (6, .long z6), (4, .int (nI n1)), (0, .ref (A (36 + 20 * i))), (1, .int 0), (2, .long vw)]) hx hb dX4_numberOf_93 hl (k := 1) rfl (nI_add k2 1) (by decide) rfl (fun ls hl => ?_)
      refine lv_goto (tgt := 32) hx hb dX4_numberOf_96 (by decide) ?_
      exact ih5 (10 - (k2 + 1)) _ _ _ _ (by omega) ⟨(k2 + 1), rfl, by omega, by omega, hP, hS, lv_sub hl [0, 2, 3, 4, 5] rfl, rfl⟩
    · refine lv_iload hx hb dX4_numberOf_90 (lv_at hl 1 rfl) ?_
      exact W.iret (v := (nI k2)) hx hb hr (fun t ht hW => ⟨⟨(nI k2), (st, sl, so), rfl, ⟨rfl, Or.inr (⟨k2, rfl, by omega⟩)⟩, xB.of ht hP⟩, hS.F ht⟩) hS.2.2 dX4_numberOf_92
set_option maxHeartbeats 4000000 in
set_option maxRecDepth 100000 in
theorem x_numberOf1 (l : Launch) (dC : Nat → ClassId) (dI : Nat → Nat → Nat) (ad : Nat → Nat) (E : EP) (hEE : EC ad E) (A : Nat → Nat) (C : Nat → ClassId) (nb sz : Nat) (hN : XN A) (st : Nat → Nat → Int32) (sl : Nat → Nat → Int64) (so : Nat → XR) (i : Nat) (vw : Int64) (hi : i < 13) (hI : XI st) : Met l yX4_numberOf wsX4_numberOf ({ frames := 0, cells := 0, slots := 0, locals := 0 }) (va_Pc [.ref (A (36 + 20 * i)), .int 1, .long vw] (xPre E dC dI A C nb sz st sl so)) (va_Qi (fun (r : Int32) (x : XT) => x = (st, sl, so) ∧ ((r = (-1)) ∨ (∃ n : Nat, r = nI n ∧ n < 8))) (xB dC dI A C nb) (XA A sz)) 0 0 (XA A sz) := by
  refine Met.ofW (cc := cX4_numberOf) (maxL := 8) (ret := (some .int)) (by decide) rfl ?_
  intro p e s m args below meth c s₁ B hml hv
  obtain ⟨rfl, hsz, hP, hK, hE⟩ := hv
  have hx := B.exec
  have hb := B.bytes
  have hr := B.returns
  have hts := atoms_spec (ws := wsX4_numberOf) B.pre
  have hown : s.vm.findClass RX4 = some m.cls := findClass_of_methodNamed B.named
  subst hsz
  have hEv := hEE.1 _ _ _ hE
  have hS : va_S (XA A s.heap.size) s.heap s.heap [] := va_S.rf
  have hG : XG [1, 2, 3, 4, 5, 6, 7, 8, 9, 10, 11, 12, 13, 14, 15] st st := XG.rf hI
  have hl := lv_entry ([.ref (A (36 + 20 * i)), .int 1, .long vw]) (n := 8) (Nat.le_of_ble_eq_true rfl)
  rw [lg_entry_eq]
  generalize (lg_sl ([.ref (A (36 + 20 * i)), .int 1, .long vw]) ++ List.replicate (8 - (lg_sl ([.ref (A (36 + 20 * i)), .int 1, .long vw])).length) Slot.unset).toArray = ls at hl ⊢
  have hl : lv_has ls 8 [(0, .ref (A (36 + 20 * i))), (1, .int 1), (2, .long vw)] := hl
  clear hI
  refine lv_iload_n hx hb dX4_numberOf_0 rfl (lv_at hl 1 rfl) ?_
  refine lv_if_ne (tgt := 11) hx hb dX4_numberOf_1 (by decide) (fun _ => ?_) (fun cc => absurd cc (by decide))
  refine lv_iload_n hx hb dX4_numberOf_11 rfl (lv_at hl 1 rfl) ?_
  refine lv_iconst (v := 1) hx hb dX4_numberOf_12 (by decide) ?_
  refine lv_icmp_ne (tgt := 23) hx hb dX4_numberOf_13 (by decide) (fun cc => absurd (by decide) cc) (fun _ => ?_)
  refine lv_aload_n hx hb dX4_numberOf_16 rfl (lv_at hl 0 rfl) ?_
  refine va_get (D := (dC, dI)) (ci := 5) (v := .int (st (36 + 20 * i) 6)) (C := RX4) (T := TX4) (N := 12) hx hb hts ii_X4_numberOf_X4 hown hK hP (36 + 20 * i) (xw_is (r := (36 + 20 * i)) (by omega) (xc_pk (i := i) (o := 0) (by omega) (by omega))) rfl 6 (by decide) (hts _ mm_X4_numberOf_2) (fun _ hh => hh) rfl dX4_numberOf_17 ?_
  obtain ⟨n1, hn1, en1⟩ := hG.1.at (r := (36 + 20 * i)) (k := 6) (b := 9) ((xrg_pk (i := i) (o := 0) (k := 6) (by omega)).trans (by first | rfl | decide)) (by decide)
  refine zz_top (v := nI n1) (by exact en1) ?_
  clear en1
  refine lv_goto (tgt := 27) hx hb dX4_numberOf_20 (by decide) ?_
  refine lv_istore (lv' := [(4, .int (nI n1)), (0, .ref (A (36 + 20 * i))), (1, .int 1), (2, .long vw)]) hx hb dX4_numberOf_27 hl (by decide) rfl (fun ls hl => ?_)
  refine lv_iconst (v := 0) hx hb dX4_numberOf_29 (by decide) ?_
  refine lv_istore (lv' := [(5, .int 0), (4, .int (nI n1)), (0, .ref (A (36 + 20 * i))), (1, .int 1), (2, .long vw)]) hx hb dX4_numberOf_30 hl (by decide) rfl (fun ls hl => ?_)
  refine zz_wf (fun n stk H locs ls => ∃ k2 : Nat, n = 10 - k2 ∧ 0 ≤ k2 ∧ k2 < 10 ∧ va_P (dC, dI) vwCl (xw A C nb st sl so) H ∧ va_S (XA A s.heap.size) s.heap H locs ∧ lv_has ls 8 [(5, .int (nI k2)), (4, .int (nI n1)), (0, .ref (A (36 + 20 * i))), (1, .int 1), (2, .long vw)] ∧ stk = []) ?_ (10 - 0) _ _ _ _ ⟨0, rfl, by omega, by omega, hP, hS, lv_sub hl [0, 1, 2, 3, 4] rfl, rfl⟩
  rintro nn stk H locs ls ⟨k2, hm4, hv3_0, hv4_1, hP, hS, hl, rfl⟩ ih5
  refine lv_iload hx hb dX4_numberOf_32 (lv_at hl 0 rfl) ?_
  refine lv_iload hx hb dX4_numberOf_34 (lv_at hl 1 rfl) ?_
  refine lv_icmp_ge (tgt := 99) hx hb dX4_numberOf_36 (by decide) (fun c3 => ?_) (fun c3 => ?_)
  · have c3 : n1 ≤ k2 := (nI_leI (a := n1) (b := k2) (by omega) (by omega)).mp c3
    refine lv_iconst (v := (-1)) hx hb dX4_numberOf_99 (by decide) ?_
    exact W.iret (v := (-1)) hx hb hr (fun t ht hW => ⟨⟨(-1), (st, sl, so), rfl, ⟨rfl, Or.inl (rfl)⟩, xB.of ht hP⟩, hS.F ht⟩) hS.2.2 dX4_numberOf_100
  · have c3 : ¬ n1 ≤ k2 := fun hh => c3 ((nI_leI (a := n1) (b := k2) (by omega) (by omega)).mpr hh)
    refine lv_iload_n hx hb dX4_numberOf_39 rfl (lv_at hl 3 rfl) ?_
    refine lv_if_ne (tgt := 53) hx hb dX4_numberOf_40 (by decide) (fun _ => ?_) (fun cc => absurd cc (by decide))
    refine lv_iload_n hx hb dX4_numberOf_53 rfl (lv_at hl 3 rfl) ?_
    refine lv_iconst (v := 1) hx hb dX4_numberOf_54 (by decide) ?_
    refine lv_icmp_ne (tgt := 71) hx hb dX4_numberOf_55 (by decide) (fun cc => absurd (by decide) cc) (fun _ => ?_)
    refine lv_aload_n hx hb dX4_numberOf_58 rfl (lv_at hl 2 rfl) ?_
    refine va_get (D := (dC, dI)) (ci := 5) (v := .ref (A (36 + 20 * i + 4))) (C := RX4) (T := TX4) (N := 12) hx hb hts ii_X4_numberOf_X4 hown hK hP (36 + 20 * i) (xw_is (r := (36 + 20 * i)) (by omega) (xc_pk (i := i) (o := 0) (by omega) (by omega))) rfl 3 (by decide) (hts _ mm_X4_numberOf_5) (fun _ hh => hh) rfl dX4_numberOf_59 ?_
    refine lv_iload hx hb dX4_numberOf_62 (lv_at hl 0 rfl) ?_
    refine va_aldq hx hb hK hP (36 + 20 * i + 4) (36 + 20 * i + 4) (xw_is (r := (36 + 20 * i + 4)) (by omega) (xc_pk (i := i) (o := 4) (by omega) (by omega))) (xt_is (r := (36 + 20 * i + 4)) (by omega) ((xty_pk (i := i) (o := 4) (by omega)).trans rfl)) (i := (nI k2)) (vp_in_nI (by omega) (by decide)) dX4_numberOf_64 ?_
    refine zz_topq (r := some (A (36 + 20 * i + (6 + k2)))) (by rw [nI_clamp (by omega)]; exact congrArg some (congrArg A (by omega))) ?_
    refine va_getN (host := "OffTheLead") (D := (dC, dI)) (ci := 7) (v := .long (sl (36 + 20 * i + (6 + k2)) 0)) (C := RX6) (T := TX6) (N := 9) hx hb hts ii_X4_numberOf_X6 hown hK hP (36 + 20 * i + (6 + k2)) (xw_is (r := (36 + 20 * i + (6 + k2))) (by omega) (xc_person (i := i) (p := k2) (by omega) (by omega))) rfl 0 (by decide) (va_Nw.use rfl (nf_X4_66 hEv)) (fun _ hh => hh) rfl dX4_numberOf_65 ?_
    refine lv_topl (fun z6 ez6 => ?_)
    clear ez6
    refine lv_goto (tgt := 81) hx hb dX4_numberOf_68 (by decide) ?_
    refine lv_lstore (lv' := [(6, .long z6), (5, .int (nI k2)), (4, .int (nI n1)), (0, .ref (A (36 + 20 * i))), (1, .int 1), (2, .long vw)]) hx hb dX4_numberOf_81 hl (by decide) rfl (fun ls hl => ?_)
    refine lv_lload hx hb dX4_numberOf_83 (lv_at hl 0 rfl) ?_
    refine lv_lload_n hx hb dX4_numberOf_85 rfl (lv_at hl 5 rfl) ?_
    refine W.lcmp hx hb dX4_numberOf_86 ?_
    refine lv_topi (fun z7 ez7 => ?_)
    refine lv_if_ne (tgt := 93) hx hb dX4_numberOf_87 (by decide) (fun c6 => ?_) (fun c6 => ?_)
    · refine lv_iinc (v := (nI (k2 + 1))) (lv' := [(5, .int (nI (k2 + 1))), (6, .long z6), (4, .int (nI n1)), (0, .ref (A (36 + 20 * i))), (1, .int 1), (2, .long vw)]) hx hb dX4_numberOf_93 hl (k := 1) rfl (nI_add k2 1) (by decide) rfl (fun ls hl => ?_)
      refine lv_goto (tgt := 32) hx hb dX4_numberOf_96 (by decide) ?_
      exact ih5 (10 - (k2 + 1)) _ _ _ _ (by omega) ⟨(k2 + 1), rfl, by omega, by omega, hP, hS, lv_sub hl [0, 2, 3, 4, 5] rfl, rfl⟩
    · refine lv_iload hx hb dX4_numberOf_90 (lv_at hl 1 rfl) ?_
      exact W.iret (v := (nI k2)) hx hb hr (fun t ht hW => ⟨⟨(nI k2), (st, sl, so), rfl, ⟨rfl, Or.inr (⟨k2, rfl, by omega⟩)⟩, xB.of ht hP⟩, hS.F ht⟩) hS.2.2 dX4_numberOf_92
set_option maxHeartbeats 4000000 in
set_option maxRecDepth 100000 in
theorem x_numberOf2 (l : Launch) (dC : Nat → ClassId) (dI : Nat → Nat → Nat) (ad : Nat → Nat) (E : EP) (hEE : EC ad E) (A : Nat → Nat) (C : Nat → ClassId) (nb sz : Nat) (hN : XN A) (st : Nat → Nat → Int32) (sl : Nat → Nat → Int64) (so : Nat → XR) (i : Nat) (vw : Int64) (hi : i < 13) (hI : XI st) : Met l yX4_numberOf wsX4_numberOf ({ frames := 0, cells := 0, slots := 0, locals := 0 }) (va_Pc [.ref (A (36 + 20 * i)), .int 2, .long vw] (xPre E dC dI A C nb sz st sl so)) (va_Qi (fun (r : Int32) (x : XT) => x = (st, sl, so) ∧ ((r = (-1)) ∨ (∃ n : Nat, r = nI n ∧ n < 6))) (xB dC dI A C nb) (XA A sz)) 0 0 (XA A sz) := by
  refine Met.ofW (cc := cX4_numberOf) (maxL := 8) (ret := (some .int)) (by decide) rfl ?_
  intro p e s m args below meth c s₁ B hml hv
  obtain ⟨rfl, hsz, hP, hK, hE⟩ := hv
  have hx := B.exec
  have hb := B.bytes
  have hr := B.returns
  have hts := atoms_spec (ws := wsX4_numberOf) B.pre
  have hown : s.vm.findClass RX4 = some m.cls := findClass_of_methodNamed B.named
  subst hsz
  have hEv := hEE.1 _ _ _ hE
  have hS : va_S (XA A s.heap.size) s.heap s.heap [] := va_S.rf
  have hG : XG [1, 2, 3, 4, 5, 6, 7, 8, 9, 10, 11, 12, 13, 14, 15] st st := XG.rf hI
  have hl := lv_entry ([.ref (A (36 + 20 * i)), .int 2, .long vw]) (n := 8) (Nat.le_of_ble_eq_true rfl)
  rw [lg_entry_eq]
  generalize (lg_sl ([.ref (A (36 + 20 * i)), .int 2, .long vw]) ++ List.replicate (8 - (lg_sl ([.ref (A (36 + 20 * i)), .int 2, .long vw])).length) Slot.unset).toArray = ls at hl ⊢
  have hl : lv_has ls 8 [(0, .ref (A (36 + 20 * i))), (1, .int 2), (2, .long vw)] := hl
  clear hI
  refine lv_iload_n hx hb dX4_numberOf_0 rfl (lv_at hl 1 rfl) ?_
  refine lv_if_ne (tgt := 11) hx hb dX4_numberOf_1 (by decide) (fun _ => ?_) (fun cc => absurd cc (by decide))
  refine lv_iload_n hx hb dX4_numberOf_11 rfl (lv_at hl 1 rfl) ?_
  refine lv_iconst (v := 1) hx hb dX4_numberOf_12 (by decide) ?_
  refine lv_icmp_ne (tgt := 23) hx hb dX4_numberOf_13 (by decide) (fun _ => ?_) (fun cc => absurd cc (by decide))
  refine lv_aload_n hx hb dX4_numberOf_23 rfl (lv_at hl 0 rfl) ?_
  refine va_get (D := (dC, dI)) (ci := 5) (v := .int (st (36 + 20 * i) 7)) (C := RX4) (T := TX4) (N := 12) hx hb hts ii_X4_numberOf_X4 hown hK hP (36 + 20 * i) (xw_is (r := (36 + 20 * i)) (by omega) (xc_pk (i := i) (o := 0) (by omega) (by omega))) rfl 7 (by decide) (hts _ mm_X4_numberOf_3) (fun _ hh => hh) rfl dX4_numberOf_24 ?_
  obtain ⟨n1, hn1, en1⟩ := hG.1.at (r := (36 + 20 * i)) (k := 7) (b := 7) ((xrg_pk (i := i) (o := 0) (k := 7) (by omega)).trans (by first | rfl | decide)) (by decide)
  refine zz_top (v := nI n1) (by exact en1) ?_
  clear en1
  refine lv_istore (lv' := [(4, .int (nI n1)), (0, .ref (A (36 + 20 * i))), (1, .int 2), (2, .long vw)]) hx hb dX4_numberOf_27 hl (by decide) rfl (fun ls hl => ?_)
  refine lv_iconst (v := 0) hx hb dX4_numberOf_29 (by decide) ?_
  refine lv_istore (lv' := [(5, .int 0), (4, .int (nI n1)), (0, .ref (A (36 + 20 * i))), (1, .int 2), (2, .long vw)]) hx hb dX4_numberOf_30 hl (by decide) rfl (fun ls hl => ?_)
  refine zz_wf (fun n stk H locs ls => ∃ k2 : Nat, n = 10 - k2 ∧ 0 ≤ k2 ∧ k2 < 10 ∧ va_P (dC, dI) vwCl (xw A C nb st sl so) H ∧ va_S (XA A s.heap.size) s.heap H locs ∧ lv_has ls 8 [(5, .int (nI k2)), (4, .int (nI n1)), (0, .ref (A (36 + 20 * i))), (1, .int 2), (2, .long vw)] ∧ stk = []) ?_ (10 - 0) _ _ _ _ ⟨0, rfl, by omega, by omega, hP, hS, lv_sub hl [0, 1, 2, 3, 4] rfl, rfl⟩
  rintro nn stk H locs ls ⟨k2, hm4, hv3_0, hv4_1, hP, hS, hl, rfl⟩ ih5
  refine lv_iload hx hb dX4_numberOf_32 (lv_at hl 0 rfl) ?_
  refine lv_iload hx hb dX4_numberOf_34 (lv_at hl 1 rfl) ?_
  refine lv_icmp_ge (tgt := 99) hx hb dX4_numberOf_36 (by decide) (fun c3 => ?_) (fun c3 => ?_)
  · have c3 : n1 ≤ k2 := (nI_leI (a := n1) (b := k2) (by omega) (by omega)).mp c3
    refine lv_iconst (v := (-1)) hx hb dX4_numberOf_99 (by decide) ?_
    exact W.iret (v := (-1)) hx hb hr (fun t ht hW => ⟨⟨(-1), (st, sl, so), rfl, ⟨rfl, Or.inl (rfl)⟩, xB.of ht hP⟩, hS.F ht⟩) hS.2.2 dX4_numberOf_100
  · have c3 : ¬ n1 ≤ k2 := fun hh => c3 ((nI_leI (a := n1) (b := k2) (by omega) (by omega)).mpr hh)
    refine lv_iload_n hx hb dX4_numberOf_39 rfl (lv_at hl 3 rfl) ?_
    refine lv_if_ne (tgt := 53) hx hb dX4_numberOf_40 (by decide) (fun _ => ?_) (fun cc => absurd cc (by decide))
    refine lv_iload_n hx hb dX4_numberOf_53 rfl (lv_at hl 3 rfl) ?_
    refine lv_iconst (v := 1) hx hb dX4_numberOf_54 (by decide) ?_
    refine lv_icmp_ne (tgt := 71) hx hb dX4_numberOf_55 (by decide) (fun _ => ?_) (fun cc => absurd cc (by decide))
    refine lv_aload_n hx hb dX4_numberOf_71 rfl (lv_at hl 2 rfl) ?_
    refine va_get (D := (dC, dI)) (ci := 5) (v := .ref (A (36 + 20 * i + 5))) (C := RX4) (T := TX4) (N := 12) hx hb hts ii_X4_numberOf_X4 hown hK hP (36 + 20 * i) (xw_is (r := (36 + 20 * i)) (by omega) (xc_pk (i := i) (o := 0) (by omega) (by omega))) rfl 4 (by decide) (hts _ mm_X4_numberOf_6) (fun _ hh => hh) rfl dX4_numberOf_72 ?_
    refine lv_iload hx hb dX4_numberOf_75 (lv_at hl 0 rfl) ?_
    refine va_aldq hx hb hK hP (36 + 20 * i + 5) (36 + 20 * i + 5) (xw_is (r := (36 + 20 * i + 5)) (by omega) (xc_pk (i := i) (o := 5) (by omega) (by omega))) (xt_is (r := (36 + 20 * i + 5)) (by omega) ((xty_pk (i := i) (o := 5) (by omega)).trans rfl)) (i := (nI k2)) (vp_in_nI (by omega) (by decide)) dX4_numberOf_77 ?_
    refine zz_topq (r := some (A (36 + 20 * i + (14 + k2)))) (by rw [nI_clamp (by omega)]; exact congrArg some (congrArg A (by omega))) ?_
    refine va_getN (host := "OffTheLead") (D := (dC, dI)) (ci := 3) (v := .long (sl (36 + 20 * i + (14 + k2)) 0)) (C := RX2) (T := TX2) (N := 7) hx hb hts ii_X4_numberOf_X2 hown hK hP (36 + 20 * i + (14 + k2)) (xw_is (r := (36 + 20 * i + (14 + k2))) (by omega) (xc_dog (i := i) (p := k2) (by omega) (by omega))) rfl 0 (by decide) (va_Nw.use rfl (nf_X4_79 hEv)) (fun _ hh => hh) rfl dX4_numberOf_78 ?_
    refine lv_topl (fun z6 ez6 => ?_)
    clear ez6
    refine lv_lstore (lv' := [(6, .long z6), (5, .int (nI k2)), (4, .int (nI n1)), (0, .ref (A (36 + 20 * i))), (1, .int 2), (2, .long vw)]) hx hb dX4_numberOf_81 hl (by decide) rfl (fun ls hl => ?_)
    refine lv_lload hx hb dX4_numberOf_83 (lv_at hl 0 rfl) ?_
    refine lv_lload_n hx hb dX4_numberOf_85 rfl (lv_at hl 5 rfl) ?_
    refine W.lcmp hx hb dX4_numberOf_86 ?_
    refine lv_topi (fun z7 ez7 => ?_)
    refine lv_if_ne (tgt := 93) hx hb dX4_numberOf_87 (by decide) (fun c6 => ?_) (fun c6 => ?_)
    · refine lv_iinc (v := (nI (k2 + 1))) (lv' := [(5, .int (nI (k2 + 1))), (6, .long z6), (4, .int (nI n1)), (0, .ref (A (36 + 20 * i))), (1, .int 2), (2, .long vw)]) hx hb dX4_numberOf_93 hl (k := 1) rfl (nI_add k2 1) (by decide) rfl (fun ls hl => ?_)
      refine lv_goto (tgt := 32) hx hb dX4_numberOf_96 (by decide) ?_
      exact ih5 (10 - (k2 + 1)) _ _ _ _ (by omega) ⟨(k2 + 1), rfl, by omega, by omega, hP, hS, lv_sub hl [0, 2, 3, 4, 5] rfl, rfl⟩
    · refine lv_iload hx hb dX4_numberOf_90 (lv_at hl 1 rfl) ?_
      exact W.iret (v := (nI k2)) hx hb hr (fun t ht hW => ⟨⟨(nI k2), (st, sl, so), rfl, ⟨rfl, Or.inr (⟨k2, rfl, by omega⟩)⟩, xB.of ht hP⟩, hS.F ht⟩) hS.2.2 dX4_numberOf_92
set_option maxHeartbeats 4000000 in
set_option maxRecDepth 100000 in
theorem x_X1_draw (l : Launch) (dC : Nat → ClassId) (dI : Nat → Nat → Nat) (ad : Nat → Nat) (E : EP) (hEE : EC ad E) (A : Nat → Nat) (C : Nat → ClassId) (nb sz : Nat) (hN : XN A) (st : Nat → Nat → Int32) (sl : Nat → Nat → Int64) (so : Nat → XR) (hI : XI st) : Met l yX1_draw wsX1_draw ({ frames := 0, cells := 0, slots := 0, locals := 0 }) (va_Pc [.ref (A 10)] (xPre E dC dI A C nb sz st sl so)) (va_Qi (fun (r : Int32) (x : XT) => XG [1, 2, 3, 4, 5, 6, 7, 8, 9, 10, 11, 12, 13, 14, 15] st x.1 ∧ LGq sl x.2.1 ∧ x.2.2 = so ∧ (True)) (xB dC dI A C nb) (XA A sz)) 0 0 (XA A sz) := by
  refine Met.ofW (cc := cX1_draw) (maxL := 1) (ret := (some .int)) (by decide) rfl ?_
  intro p e s m args below meth c s₁ B hml hv
  obtain ⟨rfl, hsz, hP, hK, hE⟩ := hv
  have hx := B.exec
  have hb := B.bytes
  have hr := B.returns
  have hts := atoms_spec (ws := wsX1_draw) B.pre
  have hown : s.vm.findClass RX1 = some m.cls := findClass_of_methodNamed B.named
  subst hsz
  have hEv := hEE.1 _ _ _ hE
  have hS : va_S (XA A s.heap.size) s.heap s.heap [] := va_S.rf
  have hG : XG [1, 2, 3, 4, 5, 6, 7, 8, 9, 10, 11, 12, 13, 14, 15] st st := XG.rf hI
  have hl := lv_entry ([.ref (A 10)]) (n := 1) (Nat.le_of_ble_eq_true rfl)
  rw [lg_entry_eq]
  generalize (lg_sl ([.ref (A 10)]) ++ List.replicate (1 - (lg_sl ([.ref (A 10)])).length) Slot.unset).toArray = ls at hl ⊢
  have hl : lv_has ls 1 [(0, .ref (A 10))] := hl
  clear hI
  have hL : LGq sl sl := LGq.rf
  refine lv_aload_n hx hb dX1_draw_0 rfl (lv_at hl 0 rfl) ?_
  refine lv_aload_n hx hb dX1_draw_1 rfl (lv_at hl 0 rfl) ?_
  refine va_get (D := (dC, dI)) (ci := 2) (v := .int (st 10 0)) (C := RX1) (T := TX1) (N := 1) hx hb hts ii_X1_draw_X1 hown hK hP 10 (xw_is (r := 10) (by omega) (xc_fix (r := 10) (by omega))) rfl 0 (by decide) (hts _ mm_X1_draw_1) (fun _ hh => hh) rfl dX1_draw_2 ?_
  refine lv_topi (fun z1 ez1 => ?_)
  clear ez1
  refine lv_ldc (v := 1103515245) hx hb hown (hts _ mm_X1_draw_2) dX1_draw_5 ?_
  refine lv_imul hx hb dX1_draw_7 ?_
  refine lv_topi (fun z2 ez2 => ?_)
  clear ez2
  refine lv_sipush (v := 12345) hx hb dX1_draw_8 (by decide) ?_
  refine lv_iadd hx hb dX1_draw_11 ?_
  refine lv_topi (fun z3 ez3 => ?_)
  clear ez3
  refine va_put (D := (dC, dI)) (ci := 2) (v := .int z3) (ty := .int) (C := RX1) (T := TX1) (N := 1) hx hb hts ii_X1_draw_X1 tyX1 tyX1_ok nmX1 hown hK hP (xD hN _ _ _ _ _ _) hS 10 (xw_is (r := 10) (by omega) (xc_fix (r := 10) (by omega))) rfl 0 (by decide) (hts _ mm_X1_draw_1) (fun _ hh => hh) rfl (by decide +kernel) rfl rfl (Nat.le_of_ble_eq_true rfl) dX1_draw_12 (fun H locs hP _ hS => ?_)
  have hP : va_P (dC, dI) vwCl (xw A C nb (up2 st 10 0 z3) sl so) H := by rw [← xset (r := 10) (k := 0) (v := z3) (xc_fix (r := 10) (by omega))]; exact hP
  obtain ⟨st4, hP, hG⟩ : ∃ y, va_P (dC, dI) vwCl (xw A C nb y sl so) H ∧ XG [1, 2, 3, 4, 5, 6, 7, 8, 9, 10, 11, 12, 13, 14, 15] st y := ⟨up2 st 10 0 z3, hP, hG.up (xz (r := 10) (k := 0) (by decide : xrg 10 0 = 0)) (xpn (c := 0) (by decide : xcl 10 0 = 0) (by decide))⟩
  refine lv_aload_n hx hb dX1_draw_15 rfl (lv_at hl 0 rfl) ?_
  refine va_get (D := (dC, dI)) (ci := 2) (v := .int (st4 10 0)) (C := RX1) (T := TX1) (N := 1) hx hb hts ii_X1_draw_X1 hown hK hP 10 (xw_is (r := 10) (by omega) (xc_fix (r := 10) (by omega))) rfl 0 (by decide) (hts _ mm_X1_draw_1) (fun _ hh => hh) rfl dX1_draw_16 ?_
  refine lv_topi (fun z5 ez5 => ?_)
  clear ez5
  refine lv_bipush (v := 8) hx hb dX1_draw_19 (by decide) ?_
  refine lv_iushr hx hb dX1_draw_21 rfl ?_
  refine lv_topi (fun z6 ez6 => ?_)
  clear ez6
  refine lv_bipush (v := 12) hx hb dX1_draw_22 (by decide) ?_
  refine lv_irem hx hb dX1_draw_24 (by decide) ?_
  refine lv_topi (fun z7 ez7 => ?_)
  clear ez7
  exact W.iret (v := z7) hx hb hr (fun t ht hW => ⟨⟨z7, (st4, sl, so), rfl, ⟨hG, hL, rfl, trivial⟩, xB.of ht hP⟩, hS.F ht⟩) hS.2.2 dX1_draw_25
set_option maxHeartbeats 4000000 in
set_option maxRecDepth 100000 in
theorem x_X1_firstThere (l : Launch) (dC : Nat → ClassId) (dI : Nat → Nat → Nat) (ad : Nat → Nat) (E : EP) (hEE : EC ad E) (A : Nat → Nat) (C : Nat → ClassId) (nb sz : Nat) (hN : XN A) (st : Nat → Nat → Int32) (sl : Nat → Nat → Int64) (so : Nat → XR) (i : Nat) (va : Nat) (vb : Int32) (vc : Int32) (hi : i < 13) (hva : va < 5) (hI : XI st) : Met l yX1_firstThere wsX1_firstThere ({ frames := 1, cells := 0, slots := 0, locals := 22 }) (va_Pc [.ref (A (36 + 20 * i)), .int (nI va), .int vb, .int vc] (xPre E dC dI A C nb sz st sl so)) (va_Qi (fun (r : Int32) (x : XT) => x = (st, sl, so) ∧ ((r = (-1)) ∨ (∃ n : Nat, r = nI n ∧ n < 8))) (xB dC dI A C nb) (XA A sz)) 0 0 (XA A sz) := by
  refine Met.ofW (cc := cX1_firstThere) (maxL := 6) (ret := (some .int)) (by decide) rfl ?_
  intro p e s m args below meth c s₁ B hml hv
  obtain ⟨rfl, hsz, hP, hK, hE⟩ := hv
  have hx := B.exec
  have hb := B.bytes
  have hr := B.returns
  have hts := atoms_spec (ws := wsX1_firstThere) B.pre
  have hown : s.vm.findClass RX1 = some m.cls := findClass_of_methodNamed B.named
  subst hsz
  have hEv := hEE.1 _ _ _ hE
  have hS : va_S (XA A s.heap.size) s.heap s.heap [] := va_S.rf
  have hG : XG [1, 2, 3, 4, 5, 6, 7, 8, 9, 10, 11, 12, 13, 14, 15] st st := XG.rf hI
  have hl := lv_entry ([.ref (A (36 + 20 * i)), .int (nI va), .int vb, .int vc]) (n := 6) (Nat.le_of_ble_eq_true rfl)
  rw [lg_entry_eq]
  generalize (lg_sl ([.ref (A (36 + 20 * i)), .int (nI va), .int vb, .int vc]) ++ List.replicate (6 - (lg_sl ([.ref (A (36 + 20 * i)), .int (nI va), .int vb, .int vc])).length) Slot.unset).toArray = ls at hl ⊢
  have hl : lv_has ls 6 [(0, .ref (A (36 + 20 * i))), (1, .int (nI va)), (2, .int vb), (3, .int vc)] := hl
  clear hI
  refine lv_iconst (v := 0) hx hb dX1_firstThere_0 (by decide) ?_
  refine lv_istore (lv' := [(4, .int 0), (0, .ref (A (36 + 20 * i))), (1, .int (nI va)), (2, .int vb), (3, .int vc)]) hx hb dX1_firstThere_1 hl (by decide) rfl (fun ls hl => ?_)
  refine zz_wf (fun n stk H locs ls => ∃ k1 : Nat, n = 9 - k1 ∧ 0 ≤ k1 ∧ k1 < 9 ∧ va_P (dC, dI) vwCl (xw A C nb st sl so) H ∧ va_S (XA A s.heap.size) s.heap H locs ∧ lv_has ls 6 [(4, .int (nI k1)), (0, .ref (A (36 + 20 * i))), (1, .int (nI va)), (2, .int vb), (3, .int vc)] ∧ stk = []) ?_ (9 - 0) _ _ _ _ ⟨0, rfl, by omega, by omega, hP, hS, lv_sub hl [0, 1, 2, 3, 4] rfl, rfl⟩
  rintro nn stk H locs ls ⟨k1, hm3, hv2_0, hv3_1, hP, hS, hl, rfl⟩ ih4
  refine lv_iload hx hb dX1_firstThere_3 (lv_at hl 0 rfl) ?_
  refine lv_aload_n hx hb dX1_firstThere_5 rfl (lv_at hl 1 rfl) ?_
  refine va_getN (host := "OffTheLead") (D := (dC, dI)) (ci := 5) (v := .int (st (36 + 20 * i) 6)) (C := RX4) (T := TX4) (N := 12) hx hb hts ii_X1_firstThere_X4 hown hK hP (36 + 20 * i) (xw_is (r := (36 + 20 * i)) (by omega) (xc_pk (i := i) (o := 0) (by omega) (by omega))) rfl 6 (by decide) (va_Nw.use rfl (nf_X1_32 hEv)) (fun _ hh => hh) rfl dX1_firstThere_6 ?_
  obtain ⟨n5, hn5, en5⟩ := hG.1.at (r := (36 + 20 * i)) (k := 6) (b := 9) ((xrg_pk (i := i) (o := 0) (k := 6) (by omega)).trans (by first | rfl | decide)) (by decide)
  refine zz_top (v := nI n5) (by exact en5) ?_
  clear en5
  refine lv_icmp_ge (tgt := 65) hx hb dX1_firstThere_9 (by decide) (fun c1 => ?_) (fun c1 => ?_)
  · have c1 : n5 ≤ k1 := (nI_leI (a := n5) (b := k1) (by omega) (by omega)).mp c1
    refine lv_iconst (v := (-1)) hx hb dX1_firstThere_65 (by decide) ?_
    exact W.iret (v := (-1)) hx hb hr (fun t ht hW => ⟨⟨(-1), (st, sl, so), rfl, ⟨rfl, Or.inl (rfl)⟩, xB.of ht hP⟩, hS.F ht⟩) hS.2.2 dX1_firstThere_66
  · have c1 : ¬ n5 ≤ k1 := fun hh => c1 ((nI_leI (a := n5) (b := k1) (by omega) (by omega)).mpr hh)
    refine lv_aload_n hx hb dX1_firstThere_12 rfl (lv_at hl 1 rfl) ?_
    refine va_getN (host := "OffTheLead") (D := (dC, dI)) (ci := 5) (v := .ref (A (36 + 20 * i + 4))) (C := RX4) (T := TX4) (N := 12) hx hb hts ii_X1_firstThere_X4 hown hK hP (36 + 20 * i) (xw_is (r := (36 + 20 * i)) (by omega) (xc_pk (i := i) (o := 0) (by omega) (by omega))) rfl 3 (by decide) (va_Nw.use rfl (nf_X1_35 hEv)) (fun _ hh => hh) rfl dX1_firstThere_13 ?_
    refine lv_iload hx hb dX1_firstThere_16 (lv_at hl 0 rfl) ?_
    refine va_aldq hx hb hK hP (36 + 20 * i + 4) (36 + 20 * i + 4) (xw_is (r := (36 + 20 * i + 4)) (by omega) (xc_pk (i := i) (o := 4) (by omega) (by omega))) (xt_is (r := (36 + 20 * i + 4)) (by omega) ((xty_pk (i := i) (o := 4) (by omega)).trans rfl)) (i := (nI k1)) (vp_in_nI (by omega) (by decide)) dX1_firstThere_18 ?_
    refine zz_topq (r := some (A (36 + 20 * i + (6 + k1)))) (by rw [nI_clamp (by omega)]; exact congrArg some (congrArg A (by omega))) ?_
    refine lv_astore (lv' := [(5, .ref (A (36 + 20 * i + (6 + k1)))), (4, .int (nI k1)), (0, .ref (A (36 + 20 * i))), (1, .int (nI va)), (2, .int vb), (3, .int vc)]) hx hb dX1_firstThere_19 hl (by decide) rfl (fun ls hl => ?_)
    refine lv_aload hx hb dX1_firstThere_21 (lv_at hl 0 rfl) ?_
    refine va_getN (host := "OffTheLead") (D := (dC, dI)) (ci := 7) (v := .int (st (36 + 20 * i + (6 + k1)) 8)) (C := RX6) (T := TX6) (N := 9) hx hb hts ii_X1_firstThere_X6 hown hK hP (36 + 20 * i + (6 + k1)) (xw_is (r := (36 + 20 * i + (6 + k1))) (by omega) (xc_person (i := i) (p := k1) (by omega) (by omega))) rfl 8 (by decide) (va_Nw.use rfl (nf_X1_105 hEv)) (fun _ hh => hh) rfl dX1_firstThere_23 ?_
    refine lv_topi (fun z6 ez6 => ?_)
    clear ez6
    refine lv_if_ne (tgt := 59) hx hb dX1_firstThere_26 (by decide) (fun c2 => ?_) (fun c2 => ?_)
    · refine lv_iinc (v := (nI (k1 + 1))) (lv' := [(4, .int (nI (k1 + 1))), (5, .ref (A (36 + 20 * i + (6 + k1)))), (0, .ref (A (36 + 20 * i))), (1, .int (nI va)), (2, .int vb), (3, .int vc)]) hx hb dX1_firstThere_59 hl (k := 1) rfl (nI_add k1 1) (by decide) rfl (fun ls hl => ?_)
      refine lv_goto (tgt := 3) hx hb dX1_firstThere_62 (by decide) ?_
      exact ih4 (9 - (k1 + 1)) _ _ _ _ (by omega) ⟨(k1 + 1), rfl, by omega, by omega, hP, hS, lv_sub hl [0, 2, 3, 4, 5] rfl, rfl⟩
    · refine lv_aload hx hb dX1_firstThere_29 (lv_at hl 0 rfl) ?_
      refine va_getN (host := "OffTheLead") (D := (dC, dI)) (ci := 7) (v := .int (st (36 + 20 * i + (6 + k1)) 5)) (C := RX6) (T := TX6) (N := 9) hx hb hts ii_X1_firstThere_X6 hown hK hP (36 + 20 * i + (6 + k1)) (xw_is (r := (36 + 20 * i + (6 + k1))) (by omega) (xc_person (i := i) (p := k1) (by omega) (by omega))) rfl 5 (by decide) (va_Nw.use rfl (nf_X1_44 hEv)) (fun _ hh => hh) rfl dX1_firstThere_31 ?_
      refine lv_topi (fun z7 ez7 => ?_)
      clear ez7
      refine lv_if_ne (tgt := 59) hx hb dX1_firstThere_34 (by decide) (fun c3 => ?_) (fun c3 => ?_)
      · refine lv_iinc (v := (nI (k1 + 1))) (lv' := [(4, .int (nI (k1 + 1))), (5, .ref (A (36 + 20 * i + (6 + k1)))), (0, .ref (A (36 + 20 * i))), (1, .int (nI va)), (2, .int vb), (3, .int vc)]) hx hb dX1_firstThere_59 hl (k := 1) rfl (nI_add k1 1) (by decide) rfl (fun ls hl => ?_)
        refine lv_goto (tgt := 3) hx hb dX1_firstThere_62 (by decide) ?_
        exact ih4 (9 - (k1 + 1)) _ _ _ _ (by omega) ⟨(k1 + 1), rfl, by omega, by omega, hP, hS, lv_sub hl [0, 2, 3, 4, 5] rfl, rfl⟩
      · refine lv_iload_n hx hb dX1_firstThere_37 rfl (lv_at hl 5 rfl) ?_
        refine lv_iload hx hb dX1_firstThere_38 (lv_at hl 1 rfl) ?_
        refine lv_ishr hx hb dX1_firstThere_40 ?_
        refine lv_topi (fun z8 ez8 => ?_)
        clear ez8
        refine lv_iconst (v := 1) hx hb dX1_firstThere_41 (by decide) ?_
        refine lv_iand hx hb dX1_firstThere_42 ?_
        refine lv_topi (fun z9 ez9 => ?_)
        clear ez9
        refine lv_if_ne (tgt := 59) hx hb dX1_firstThere_43 (by decide) (fun c4 => ?_) (fun c4 => ?_)
        · refine lv_iinc (v := (nI (k1 + 1))) (lv' := [(4, .int (nI (k1 + 1))), (5, .ref (A (36 + 20 * i + (6 + k1)))), (0, .ref (A (36 + 20 * i))), (1, .int (nI va)), (2, .int vb), (3, .int vc)]) hx hb dX1_firstThere_59 hl (k := 1) rfl (nI_add k1 1) (by decide) rfl (fun ls hl => ?_)
          refine lv_goto (tgt := 3) hx hb dX1_firstThere_62 (by decide) ?_
          exact ih4 (9 - (k1 + 1)) _ _ _ _ (by omega) ⟨(k1 + 1), rfl, by omega, by omega, hP, hS, lv_sub hl [0, 2, 3, 4, 5] rfl, rfl⟩
        · refine lv_aload hx hb dX1_firstThere_46 (lv_at hl 0 rfl) ?_
          refine lv_iload_n hx hb dX1_firstThere_48 rfl (lv_at hl 3 rfl) ?_
          refine lv_iload_n hx hb dX1_firstThere_49 rfl (lv_at hl 4 rfl) ?_
          refine va_calli (va_runV (As := [.int (nI va), .int vb]) (rest := []) ⟨hx, hb, hml, hown, hts⟩ (x_X6_isDue l dC dI ad E hEE A C nb _ hN st sl so i k1 (nI va) vb (by omega) (by omega) hG.1) (cwV 2 hts gX1_firstThere_X6_isDue rfl rfl rfl (by decide +kernel) ⟨Nat.le_of_ble_eq_true rfl, Nat.le_of_ble_eq_true rfl⟩) ⟨fun a U g mk q => ⟨q.1, xPre.blind hEE q.2⟩, va_recv hK hP (ci := 7) (q0 := (36 + 20 * i + (6 + k1))) rfl (xw_is (r := (36 + 20 * i + (6 + k1))) (by omega) (xc_person (i := i) (p := k1) (by omega) (by omega))), fun U hU hW => ⟨rfl, xPre.of hEE hP hK hE hS hU hW⟩⟩ rfl rfl hl.1 rfl (lv_room (Nat.le_of_ble_eq_true rfl)) dX1_firstThere_50 ⟨Nat.le_of_ble_eq_true rfl, Nat.le_of_ble_eq_true rfl⟩) hS (fun q _ h => XA.le hS.1 q h) (XA.le hS.1) (fun r10 x t H locs ht hvm hw hB _ _ hS => ?_)
          have hP := xB.at ht hB
          clear hB ht hvm
          obtain ⟨rfl, hw⟩ := hw
          have hP : va_P (dC, dI) vwCl (xw A C nb st sl so) _ := hP
          rcases hw with rfl | rfl
          · refine lv_if_eq (tgt := 59) hx hb dX1_firstThere_53 (by decide) (fun cc => absurd cc (by decide)) (fun _ => ?_)
            refine lv_iload hx hb dX1_firstThere_56 (lv_at hl 1 rfl) ?_
            exact W.iret (v := (nI k1)) hx hb hr (fun t ht hW => ⟨⟨(nI k1), (st, sl, so), rfl, ⟨rfl, Or.inr (⟨k1, rfl, by omega⟩)⟩, xB.of ht hP⟩, hS.F ht⟩) hS.2.2 dX1_firstThere_58
          · refine lv_if_eq (tgt := 59) hx hb dX1_firstThere_53 (by decide) (fun _ => ?_) (fun cc => absurd (by decide) cc)
            refine lv_iinc (v := (nI (k1 + 1))) (lv' := [(4, .int (nI (k1 + 1))), (5, .ref (A (36 + 20 * i + (6 + k1)))), (0, .ref (A (36 + 20 * i))), (1, .int (nI va)), (2, .int vb), (3, .int vc)]) hx hb dX1_firstThere_59 hl (k := 1) rfl (nI_add k1 1) (by decide) rfl (fun ls hl => ?_)
            refine lv_goto (tgt := 3) hx hb dX1_firstThere_62 (by decide) ?_
            exact ih4 (9 - (k1 + 1)) _ _ _ _ (by omega) ⟨(k1 + 1), rfl, by omega, by omega, hP, hS, lv_sub hl [0, 2, 3, 4, 5] rfl, rfl⟩
set_option maxHeartbeats 4000000 in
set_option maxRecDepth 100000 in
theorem x_X1_frightBy (l : Launch) (dC : Nat → ClassId) (dI : Nat → Nat → Nat) (ad : Nat → Nat) (E : EP) (hEE : EC ad E) (A : Nat → Nat) (C : Nat → ClassId) (nb sz : Nat) (hN : XN A) (st : Nat → Nat → Int32) (sl : Nat → Nat → Int64) (so : Nat → XR) (i : Nat) (va : Nat) (vb : Int32) (vc : Int32) (hi : i < 13) (hva : va < 6) (hI : XI st) : Met l yX1_frightBy wsX1_frightBy ({ frames := 2, cells := 0, slots := 0, locals := 47 }) (va_Pc [.ref (A 10), .ref (A (36 + 20 * i)), .int (nI va), .int vb, .int vc] (xPre E dC dI A C nb sz st sl so)) (va_Qi (fun (r : Int32) (x : XT) => XG [1, 2, 3, 4, 5, 6, 7, 8, 9, 10, 11, 12, 13, 14, 15] st x.1 ∧ LGq sl x.2.1 ∧ x.2.2 = so ∧ (True)) (xB dC dI A C nb) (XA A sz)) 0 0 (XA A sz) := by
  refine Met.ofW (cc := cX1_frightBy) (maxL := 9) (ret := (some .int)) (by decide) rfl ?_
  intro p e s m args below meth c s₁ B hml hv
  obtain ⟨rfl, hsz, hP, hK, hE⟩ := hv
  have hx := B.exec
  have hb := B.bytes
  have hr := B.returns
  have hts := atoms_spec (ws := wsX1_frightBy) B.pre
  have hown : s.vm.findClass RX1 = some m.cls := findClass_of_methodNamed B.named
  subst hsz
  have hEv := hEE.1 _ _ _ hE
  have hS : va_S (XA A s.heap.size) s.heap s.heap [] := va_S.rf
  have hG : XG [1, 2, 3, 4, 5, 6, 7, 8, 9, 10, 11, 12, 13, 14, 15] st st := XG.rf hI
  have hl := lv_entry ([.ref (A 10), .ref (A (36 + 20 * i)), .int (nI va), .int vb, .int vc]) (n := 9) (Nat.le_of_ble_eq_true rfl)
  rw [lg_entry_eq]
  generalize (lg_sl ([.ref (A 10), .ref (A (36 + 20 * i)), .int (nI va), .int vb, .int vc]) ++ List.replicate (9 - (lg_sl ([.ref (A 10), .ref (A (36 + 20 * i)), .int (nI va), .int vb, .int vc])).length) Slot.unset).toArray = ls at hl ⊢
  have hl : lv_has ls 9 [(0, .ref (A 10)), (1, .ref (A (36 + 20 * i))), (2, .int (nI va)), (3, .int vb), (4, .int vc)] := hl
  clear hI
  have hL : LGq sl sl := LGq.rf
  refine lv_aload_n hx hb dX1_frightBy_0 rfl (lv_at hl 1 rfl) ?_
  refine va_getN (host := "OffTheLead") (D := (dC, dI)) (ci := 5) (v := .ref (A (36 + 20 * i + 5))) (C := RX4) (T := TX4) (N := 12) hx hb hts ii_X1_frightBy_X4 hown hK hP (36 + 20 * i) (xw_is (r := (36 + 20 * i)) (by omega) (xc_pk (i := i) (o := 0) (by omega) (by omega))) rfl 4 (by decide) (va_Nw.use rfl (nf_X1_47 hEv)) (fun _ hh => hh) rfl dX1_frightBy_1 ?_
  refine lv_iload_n hx hb dX1_frightBy_4 rfl (lv_at hl 2 rfl) ?_
  refine va_aldq hx hb hK hP (36 + 20 * i + 5) (36 + 20 * i + 5) (xw_is (r := (36 + 20 * i + 5)) (by omega) (xc_pk (i := i) (o := 5) (by omega) (by omega))) (xt_is (r := (36 + 20 * i + 5)) (by omega) ((xty_pk (i := i) (o := 5) (by omega)).trans rfl)) (i := (nI va)) (vp_in_nI (by omega) (by decide)) dX1_frightBy_5 ?_
  refine zz_topq (r := some (A (36 + 20 * i + (14 + va)))) (by rw [nI_clamp (by omega)]; exact congrArg some (congrArg A (by omega))) ?_
  refine lv_astore (lv' := [(5, .ref (A (36 + 20 * i + (14 + va)))), (0, .ref (A 10)), (1, .ref (A (36 + 20 * i))), (2, .int (nI va)), (3, .int vb), (4, .int vc)]) hx hb dX1_frightBy_6 hl (by decide) rfl (fun ls hl => ?_)
  refine lv_aload_n hx hb dX1_frightBy_8 rfl (lv_at hl 2 rfl) ?_
  refine va_getN (host := "OffTheLead") (D := (dC, dI)) (ci := 5) (v := .ref (A (36 + 20 * i + 4))) (C := RX4) (T := TX4) (N := 12) hx hb hts ii_X1_frightBy_X4 hown hK hP (36 + 20 * i) (xw_is (r := (36 + 20 * i)) (by omega) (xc_pk (i := i) (o := 0) (by omega) (by omega))) rfl 3 (by decide) (va_Nw.use rfl (nf_X1_35 hEv)) (fun _ hh => hh) rfl dX1_frightBy_9 ?_
  refine lv_aload hx hb dX1_frightBy_12 (lv_at hl 0 rfl) ?_
  refine va_getN (host := "OffTheLead") (D := (dC, dI)) (ci := 3) (v := .int (st (36 + 20 * i + (14 + va)) 1)) (C := RX2) (T := TX2) (N := 7) hx hb hts ii_X1_frightBy_X2 hown hK hP (36 + 20 * i + (14 + va)) (xw_is (r := (36 + 20 * i + (14 + va))) (by omega) (xc_dog (i := i) (p := va) (by omega) (by omega))) rfl 1 (by decide) (va_Nw.use rfl (nf_X1_51 hEv)) (fun _ hh => hh) rfl dX1_frightBy_14 ?_
  obtain ⟨n1, hn1, en1⟩ := hG.1.at (r := (36 + 20 * i + (14 + va))) (k := 1) (b := 8) ((xrg_do (i := i) (p := va) (by omega)).trans (by decide)) (by decide)
  refine zz_top (v := nI n1) (by exact en1) ?_
  clear en1
  refine va_aldq hx hb hK hP (36 + 20 * i + 4) (36 + 20 * i + 4) (xw_is (r := (36 + 20 * i + 4)) (by omega) (xc_pk (i := i) (o := 4) (by omega) (by omega))) (xt_is (r := (36 + 20 * i + 4)) (by omega) ((xty_pk (i := i) (o := 4) (by omega)).trans rfl)) (i := (nI n1)) (vp_in_nI (by omega) (by decide)) dX1_frightBy_17 ?_
  refine zz_topq (r := some (A (36 + 20 * i + (6 + n1)))) (by rw [nI_clamp (by omega)]; exact congrArg some (congrArg A (by omega))) ?_
  refine lv_astore (lv' := [(6, .ref (A (36 + 20 * i + (6 + n1)))), (5, .ref (A (36 + 20 * i + (14 + va)))), (0, .ref (A 10)), (1, .ref (A (36 + 20 * i))), (2, .int (nI va)), (3, .int vb), (4, .int vc)]) hx hb dX1_frightBy_18 hl (by decide) rfl (fun ls hl => ?_)
  refine lv_aload hx hb dX1_frightBy_20 (lv_at hl 0 rfl) ?_
  refine va_getN (host := "OffTheLead") (D := (dC, dI)) (ci := 7) (v := .int (st (36 + 20 * i + (6 + n1)) 1)) (C := RX6) (T := TX6) (N := 9) hx hb hts ii_X1_frightBy_X6 hown hK hP (36 + 20 * i + (6 + n1)) (xw_is (r := (36 + 20 * i + (6 + n1))) (by omega) (xc_person (i := i) (p := n1) (by omega) (by omega))) rfl 1 (by decide) (va_Nw.use rfl (nf_X1_56 hEv)) (fun _ hh => hh) rfl dX1_frightBy_22 ?_
  obtain ⟨n2, hn2, en2⟩ := hG.1.at (r := (36 + 20 * i + (6 + n1))) (k := 1) (b := 5) ((xrg_pe (i := i) (p := n1) (by omega)).trans (by decide)) (by decide)
  refine zz_top (v := nI n2) (by exact en2) ?_
  clear en2
  refine lv_istore (lv' := [(7, .int (nI n2)), (6, .ref (A (36 + 20 * i + (6 + n1)))), (5, .ref (A (36 + 20 * i + (14 + va)))), (0, .ref (A 10)), (1, .ref (A (36 + 20 * i))), (2, .int (nI va)), (3, .int vb), (4, .int vc)]) hx hb dX1_frightBy_25 hl (by decide) rfl (fun ls hl => ?_)
  refine lv_aload hx hb dX1_frightBy_27 (lv_at hl 2 rfl) ?_
  refine va_getN (host := "OffTheLead") (D := (dC, dI)) (ci := 3) (v := .int (st (36 + 20 * i + (14 + va)) 4)) (C := RX2) (T := TX2) (N := 7) hx hb hts ii_X1_frightBy_X2 hown hK hP (36 + 20 * i + (14 + va)) (xw_is (r := (36 + 20 * i + (14 + va))) (by omega) (xc_dog (i := i) (p := va) (by omega) (by omega))) rfl 4 (by decide) (va_Nw.use rfl (nf_X1_59 hEv)) (fun _ hh => hh) rfl dX1_frightBy_29 ?_
  obtain ⟨n3, hn3, en3⟩ := hG.1.at (r := (36 + 20 * i + (14 + va))) (k := 4) (b := 2) ((xrg_do (i := i) (p := va) (by omega)).trans (by decide)) (by decide)
  refine zz_top (v := nI n3) (by exact en3) ?_
  clear en3
  refine lv_if_ne (tgt := 54) hx hb dX1_frightBy_32 (by decide) (fun c1 => ?_) (fun c1 => ?_)
  · have c1 : ¬ n3 = 0 := fun hh => c1 ((nI_eq (a := n3) (b := 0) (by omega) (by omega)).mpr hh)
    refine lv_iconst (v := 0) hx hb dX1_frightBy_54 (by decide) ?_
    exact W.iret (v := 0) hx hb hr (fun t ht hW => ⟨⟨0, (st, sl, so), rfl, ⟨hG, hL, rfl, trivial⟩, xB.of ht hP⟩, hS.F ht⟩) hS.2.2 dX1_frightBy_55
  · have c1 : n3 = 0 := (nI_eq (a := n3) (b := 0) (by omega) (by omega)).mp c1
    refine lv_aload hx hb dX1_frightBy_35 (lv_at hl 1 rfl) ?_
    refine va_getN (host := "OffTheLead") (D := (dC, dI)) (ci := 7) (v := .int (st (36 + 20 * i + (6 + n1)) 5)) (C := RX6) (T := TX6) (N := 9) hx hb hts ii_X1_frightBy_X6 hown hK hP (36 + 20 * i + (6 + n1)) (xw_is (r := (36 + 20 * i + (6 + n1))) (by omega) (xc_person (i := i) (p := n1) (by omega) (by omega))) rfl 5 (by decide) (va_Nw.use rfl (nf_X1_44 hEv)) (fun _ hh => hh) rfl dX1_frightBy_37 ?_
    refine lv_topi (fun z4 ez4 => ?_)
    clear ez4
    refine lv_if_gt (tgt := 54) hx hb dX1_frightBy_40 (by decide) (fun c2 => ?_) (fun c2 => ?_)
    · refine lv_iconst (v := 0) hx hb dX1_frightBy_54 (by decide) ?_
      exact W.iret (v := 0) hx hb hr (fun t ht hW => ⟨⟨0, (st, sl, so), rfl, ⟨hG, hL, rfl, trivial⟩, xB.of ht hP⟩, hS.F ht⟩) hS.2.2 dX1_frightBy_55
    · refine lv_aload hx hb dX1_frightBy_43 (lv_at hl 1 rfl) ?_
      refine lv_iload hx hb dX1_frightBy_45 (lv_at hl 0 rfl) ?_
      refine lv_iload_n hx hb dX1_frightBy_47 rfl (lv_at hl 6 rfl) ?_
      refine va_calli (va_runV (As := [.int (nI n2), .int vb]) (rest := []) ⟨hx, hb, hml, hown, hts⟩ (x_X6_isDue l dC dI ad E hEE A C nb _ hN st sl so i n1 (nI n2) vb (by omega) (by omega) hG.1) (cwV 2 hts gX1_frightBy_X6_isDue rfl rfl rfl (by decide +kernel) ⟨Nat.le_of_ble_eq_true rfl, Nat.le_of_ble_eq_true rfl⟩) ⟨fun a U g mk q => ⟨q.1, xPre.blind hEE q.2⟩, va_recv hK hP (ci := 7) (q0 := (36 + 20 * i + (6 + n1))) rfl (xw_is (r := (36 + 20 * i + (6 + n1))) (by omega) (xc_person (i := i) (p := n1) (by omega) (by omega))), fun U hU hW => ⟨rfl, xPre.of hEE hP hK hE hS hU hW⟩⟩ rfl rfl hl.1 rfl (lv_room (Nat.le_of_ble_eq_true rfl)) dX1_frightBy_48 ⟨Nat.le_of_ble_eq_true rfl, Nat.le_of_ble_eq_true rfl⟩) hS (fun q _ h => XA.le hS.1 q h) (XA.le hS.1) (fun r5 x t H locs ht hvm hw hB _ _ hS => ?_)
      have hP := xB.at ht hB
      clear hB ht hvm
      obtain ⟨rfl, hw⟩ := hw
      have hP : va_P (dC, dI) vwCl (xw A C nb st sl so) _ := hP
      rcases hw with rfl | rfl
      · refine lv_if_ne (tgt := 56) hx hb dX1_frightBy_51 (by decide) (fun _ => ?_) (fun cc => absurd cc (by decide))
        refine lv_aload_n hx hb dX1_frightBy_56 rfl (lv_at hl 4 rfl) ?_
        refine va_getN (host := "OffTheLead") (D := (dC, dI)) (ci := 5) (v := .ref (A (36 + 20 * i + 2))) (C := RX4) (T := TX4) (N := 12) hx hb hts ii_X1_frightBy_X4 hown hK hP (36 + 20 * i) (xw_is (r := (36 + 20 * i)) (by omega) (xc_pk (i := i) (o := 0) (by omega) (by omega))) rfl 1 (by decide) (va_Nw.use rfl (nf_X1_67 hEv)) (fun _ hh => hh) rfl dX1_frightBy_57 ?_
        refine lv_iload hx hb dX1_frightBy_60 (lv_at hl 0 rfl) ?_
        refine va_iald hx hb hK hP (36 + 20 * i + 2) (36 + 20 * i + 2) (xw_is (r := (36 + 20 * i + 2)) (by omega) (xc_pk (i := i) (o := 2) (by omega) (by omega))) (xt_is (r := (36 + 20 * i + 2)) (by omega) ((xty_pk (i := i) (o := 2) (by omega)).trans rfl)) (i := (nI n2)) (vp_in_nI (by omega) (by decide)) dX1_frightBy_62 ?_
        refine lv_topi (fun z6 ez6 => ?_)
        clear ez6
        refine lv_iload_n hx hb dX1_frightBy_63 rfl (lv_at hl 6 rfl) ?_
        refine lv_ishr hx hb dX1_frightBy_64 ?_
        refine lv_topi (fun z7 ez7 => ?_)
        clear ez7
        refine lv_iconst (v := 1) hx hb dX1_frightBy_65 (by decide) ?_
        refine lv_iand hx hb dX1_frightBy_66 ?_
        refine lv_topi (fun z8 ez8 => ?_)
        clear ez8
        refine lv_if_ne (tgt := 83) hx hb dX1_frightBy_67 (by decide) (fun c4 => ?_) (fun c4 => ?_)
        · refine lv_aload_n hx hb dX1_frightBy_83 rfl (lv_at hl 4 rfl) ?_
          refine va_getN (host := "OffTheLead") (D := (dC, dI)) (ci := 5) (v := .ref (A (36 + 20 * i + 3))) (C := RX4) (T := TX4) (N := 12) hx hb hts ii_X1_frightBy_X4 hown hK hP (36 + 20 * i) (xw_is (r := (36 + 20 * i)) (by omega) (xc_pk (i := i) (o := 0) (by omega) (by omega))) rfl 2 (by decide) (va_Nw.use rfl (nf_X1_78 hEv)) (fun _ hh => hh) rfl dX1_frightBy_84 ?_
          refine lv_iload hx hb dX1_frightBy_87 (lv_at hl 0 rfl) ?_
          refine va_zald hx hb hK hP (36 + 20 * i + 3) (36 + 20 * i + 3) (xw_is (r := (36 + 20 * i + 3)) (by omega) (xc_pk (i := i) (o := 3) (by omega) (by omega))) (xt_is (r := (36 + 20 * i + 3)) (by omega) ((xty_pk (i := i) (o := 3) (by omega)).trans rfl)) (i := (nI n2)) (vp_in_nI (by omega) (by decide)) dX1_frightBy_89 ?_
          refine lv_topi (fun z9 ez9 => ?_)
          clear ez9
          refine lv_if_eq (tgt := 97) hx hb dX1_frightBy_90 (by decide) (fun c5 => ?_) (fun c5 => ?_)
          · refine lv_aload_n hx hb dX1_frightBy_97 rfl (lv_at hl 4 rfl) ?_
            refine lv_iload hx hb dX1_frightBy_98 (lv_at hl 0 rfl) ?_
            refine lv_iload_n hx hb dX1_frightBy_100 rfl (lv_at hl 6 rfl) ?_
            refine lv_iload hx hb dX1_frightBy_101 (lv_at hl 7 rfl) ?_
            refine va_calli (va_runS (As := [.ref (A (36 + 20 * i)), .int (nI n2), .int vb, .int vc]) (rest := []) ⟨hx, hb, hml, hown, hts⟩ (x_X1_firstThere l dC dI ad E hEE A C nb _ hN st sl so i n2 vb vc (by omega) (by omega) hG.1) (va_cwS 4 hts gX1_frightBy_X1_firstThere rfl rfl rfl (by decide +kernel) ⟨Nat.le_of_ble_eq_true rfl, Nat.le_of_ble_eq_true rfl⟩) ⟨fun a U g mk q => ⟨q.1, xPre.blind hEE q.2⟩, fun U hU hW => ⟨rfl, xPre.of hEE hP hK hE hS hU hW⟩⟩ rfl rfl hl.1 rfl (lv_room (Nat.le_of_ble_eq_true rfl)) dX1_frightBy_103 ⟨Nat.le_of_ble_eq_true rfl, Nat.le_of_ble_eq_true rfl⟩) hS (fun q _ h => XA.le hS.1 q h) (XA.le hS.1) (fun r10 x t H locs ht hvm hw hB _ _ hS => ?_)
            have hP := xB.at ht hB
            clear hB ht hvm
            obtain ⟨rfl, hw⟩ := hw
            have hP : va_P (dC, dI) vwCl (xw A C nb st sl so) _ := hP
            rcases hw with rfl | ⟨n11, rfl, hf12⟩
            · refine lv_istore (lv' := [(8, .int (-1)), (7, .int (nI n2)), (6, .ref (A (36 + 20 * i + (6 + n1)))), (5, .ref (A (36 + 20 * i + (14 + va)))), (0, .ref (A 10)), (1, .ref (A (36 + 20 * i))), (2, .int (nI va)), (3, .int vb), (4, .int vc)]) hx hb dX1_frightBy_106 hl (by decide) rfl (fun ls hl => ?_)
              refine lv_iload hx hb dX1_frightBy_108 (lv_at hl 0 rfl) ?_
              refine lv_iconst (v := (-1)) hx hb dX1_frightBy_110 (by decide) ?_
              refine lv_icmp_eq (tgt := 126) hx hb dX1_frightBy_111 (by decide) (fun _ => ?_) (fun cc => absurd (by decide) cc)
              refine lv_iconst (v := 0) hx hb dX1_frightBy_126 (by decide) ?_
              exact W.iret (v := 0) hx hb hr (fun t ht hW => ⟨⟨0, (st, sl, so), rfl, ⟨hG, hL, rfl, trivial⟩, xB.of ht hP⟩, hS.F ht⟩) hS.2.2 dX1_frightBy_127
            · refine lv_istore (lv' := [(8, .int (nI n11)), (7, .int (nI n2)), (6, .ref (A (36 + 20 * i + (6 + n1)))), (5, .ref (A (36 + 20 * i + (14 + va)))), (0, .ref (A 10)), (1, .ref (A (36 + 20 * i))), (2, .int (nI va)), (3, .int vb), (4, .int vc)]) hx hb dX1_frightBy_106 hl (by decide) rfl (fun ls hl => ?_)
              refine lv_iload hx hb dX1_frightBy_108 (lv_at hl 0 rfl) ?_
              refine lv_iconst (v := (-1)) hx hb dX1_frightBy_110 (by decide) ?_
              refine lv_icmp_eq (tgt := 126) hx hb dX1_frightBy_111 (by decide) (fun cc => absurd cc (nI_nem (by omega))) (fun _ => ?_)
              refine lv_aload_n hx hb dX1_frightBy_114 rfl (lv_at hl 4 rfl) ?_
              refine va_calli (va_runV (As := []) (rest := []) ⟨hx, hb, hml, hown, hts⟩ (x_X1_draw l dC dI ad E hEE A C nb _ hN st sl so  hG.1) (cwV 0 hts gX1_frightBy_X1_draw rfl rfl rfl (by decide +kernel) ⟨Nat.le_of_ble_eq_true rfl, Nat.le_of_ble_eq_true rfl⟩) ⟨fun a U g mk q => ⟨q.1, xPre.blind hEE q.2⟩, va_recv hK hP (ci := 2) (q0 := 10) rfl (xw_is (r := 10) (by omega) (xc_fix (r := 10) (by omega))), fun U hU hW => ⟨rfl, xPre.of hEE hP hK hE hS hU hW⟩⟩ rfl rfl hl.1 rfl (lv_room (Nat.le_of_ble_eq_true rfl)) dX1_frightBy_115 ⟨Nat.le_of_ble_eq_true rfl, Nat.le_of_ble_eq_true rfl⟩) hS (fun q _ h => XA.le hS.1 q h) (XA.le hS.1) (fun r13 x t H locs ht hvm hw hB _ _ hS => ?_)
              have hP := xB.at ht hB
              clear hB ht hvm
              obtain ⟨st14, sl15, so9⟩ := x
              obtain ⟨hG2, hL2, hso, hw⟩ := hw
              have hL : LGq sl sl15 := hL.tr hL2
              clear hL2
              obtain rfl : so = so9 := hso.symm
              have hP : va_P (dC, dI) vwCl (xw A C nb st14 sl15 so) _ := hP
              have hG : XG [1, 2, 3, 4, 5, 6, 7, 8, 9, 10, 11, 12, 13, 14, 15] st st14 := hG.tr hG2 (by decide)
              clear hG2
              clear hw
              refine lv_aload hx hb dX1_frightBy_118 (lv_at hl 3 rfl) ?_
              refine va_getN (host := "OffTheLead") (D := (dC, dI)) (ci := 3) (v := .int (st14 (36 + 20 * i + (14 + va)) 2)) (C := RX2) (T := TX2) (N := 7) hx hb hts ii_X1_frightBy_X2 hown hK hP (36 + 20 * i + (14 + va)) (xw_is (r := (36 + 20 * i + (14 + va))) (by omega) (xc_dog (i := i) (p := va) (by omega) (by omega))) rfl 2 (by decide) (va_Nw.use rfl (nf_X1_85 hEv)) (fun _ hh => hh) rfl dX1_frightBy_120 ?_
              refine lv_topi (fun z16 ez16 => ?_)
              clear ez16
              refine lv_icmp_ge (tgt := 128) hx hb dX1_frightBy_123 (by decide) (fun c8 => ?_) (fun c8 => ?_)
              · refine lv_aload hx hb dX1_frightBy_128 (lv_at hl 3 rfl) ?_
                refine lv_dup hx hb dX1_frightBy_130 rfl ?_
                refine va_getN (host := "OffTheLead") (D := (dC, dI)) (ci := 3) (v := .int (st14 (36 + 20 * i + (14 + va)) 5)) (C := RX2) (T := TX2) (N := 7) hx hb hts ii_X1_frightBy_X2 hown hK hP (36 + 20 * i + (14 + va)) (xw_is (r := (36 + 20 * i + (14 + va))) (by omega) (xc_dog (i := i) (p := va) (by omega) (by omega))) rfl 5 (by decide) (va_Nw.use rfl (nf_X1_88 hEv)) (fun _ hh => hh) rfl dX1_frightBy_131 ?_
                refine lv_topi (fun z17 ez17 => ?_)
                clear ez17
                refine lv_iconst (v := 1) hx hb dX1_frightBy_134 (by decide) ?_
                refine lv_iadd hx hb dX1_frightBy_135 ?_
                refine lv_topi (fun z18 ez18 => ?_)
                clear ez18
                refine va_putN (host := "OffTheLead") (D := (dC, dI)) (ci := 3) (v := .int z18) (ty := .int) (C := RX2) (T := TX2) (N := 7) hx hb hts ii_X1_frightBy_X2 tyX2 tyX2_ok nmX2 hown hK hP (xD hN _ _ _ _ _ _) hS (36 + 20 * i + (14 + va)) (xw_is (r := (36 + 20 * i + (14 + va))) (by omega) (xc_dog (i := i) (p := va) (by omega) (by omega))) rfl 5 (by decide) (va_Nw.use rfl (nf_X1_88 hEv)) (fun _ hh => hh) rfl (by decide +kernel) rfl rfl (Nat.le_of_ble_eq_true rfl) dX1_frightBy_136 (fun H locs hP _ hS => ?_)
                have hP : va_P (dC, dI) vwCl (xw A C nb (up2 st14 (36 + 20 * i + (14 + va)) 5 z18) sl15 so) H := by rw [← xset (r := (36 + 20 * i + (14 + va))) (k := 5) (v := z18) (xc_dog (i := i) (p := va) (by omega) (by omega))]; exact hP
                obtain ⟨st19, hP, hG⟩ : ∃ y, va_P (dC, dI) vwCl (xw A C nb y sl15 so) H ∧ XG [1, 2, 3, 4, 5, 6, 7, 8, 9, 10, 11, 12, 13, 14, 15] st y := ⟨up2 st14 (36 + 20 * i + (14 + va)) 5 z18, hP, hG.up (xz (r := (36 + 20 * i + (14 + va))) (k := 5) ((xrg_do (i := i) (p := va) (by omega)).trans (by decide))) (xpn (c := 0) (xcl_do (i := i) (p := va) (k := 5) (by omega)) (by decide))⟩
                refine lv_aload_n hx hb dX1_frightBy_139 rfl (lv_at hl 5 rfl) ?_
                refine lv_dup hx hb dX1_frightBy_140 rfl ?_
                refine va_getN (host := "OffTheLead") (D := (dC, dI)) (ci := 5) (v := .int (st19 (36 + 20 * i) 10)) (C := RX4) (T := TX4) (N := 12) hx hb hts ii_X1_frightBy_X4 hown hK hP (36 + 20 * i) (xw_is (r := (36 + 20 * i)) (by omega) (xc_pk (i := i) (o := 0) (by omega) (by omega))) rfl 10 (by decide) (va_Nw.use rfl (nf_X1_91 hEv)) (fun _ hh => hh) rfl dX1_frightBy_141 ?_
                refine lv_topi (fun z20 ez20 => ?_)
                clear ez20
                refine lv_iconst (v := 1) hx hb dX1_frightBy_144 (by decide) ?_
                refine lv_iadd hx hb dX1_frightBy_145 ?_
                refine lv_topi (fun z21 ez21 => ?_)
                clear ez21
                refine va_putN (host := "OffTheLead") (D := (dC, dI)) (ci := 5) (v := .int z21) (ty := .int) (C := RX4) (T := TX4) (N := 12) hx hb hts ii_X1_frightBy_X4 tyX4 tyX4_ok nmX4 hown hK hP (xD hN _ _ _ _ _ _) hS (36 + 20 * i) (xw_is (r := (36 + 20 * i)) (by omega) (xc_pk (i := i) (o := 0) (by omega) (by omega))) rfl 10 (by decide) (va_Nw.use rfl (nf_X1_91 hEv)) (fun _ hh => hh) rfl (by decide +kernel) rfl rfl (Nat.le_of_ble_eq_true rfl) dX1_frightBy_146 (fun H locs hP _ hS => ?_)
                have hP : va_P (dC, dI) vwCl (xw A C nb (up2 st19 (36 + 20 * i) 10 z21) sl15 so) H := by rw [← xset (r := (36 + 20 * i)) (k := 10) (v := z21) (xc_pk (i := i) (o := 0) (by omega) (by omega))]; exact hP
                obtain ⟨st22, hP, hG⟩ : ∃ y, va_P (dC, dI) vwCl (xw A C nb y sl15 so) H ∧ XG [1, 2, 3, 4, 5, 6, 7, 8, 9, 10, 11, 12, 13, 14, 15] st y := ⟨up2 st19 (36 + 20 * i) 10 z21, hP, hG.up (xz (r := (36 + 20 * i)) (k := 10) ((xrg_pk (i := i) (o := 0) (k := 10) (by omega)).trans (by first | rfl | decide))) (xpn (c := 0) ((xcl_pk (i := i) (o := 0) (k := 10) (by omega)).trans (by first | rfl | decide)) (by decide))⟩
                refine lv_aload_n hx hb dX1_frightBy_149 rfl (lv_at hl 5 rfl) ?_
                refine va_getN (host := "OffTheLead") (D := (dC, dI)) (ci := 5) (v := .ref (A (36 + 20 * i + 4))) (C := RX4) (T := TX4) (N := 12) hx hb hts ii_X1_frightBy_X4 hown hK hP (36 + 20 * i) (xw_is (r := (36 + 20 * i)) (by omega) (xc_pk (i := i) (o := 0) (by omega) (by omega))) rfl 3 (by decide) (va_Nw.use rfl (nf_X1_35 hEv)) (fun _ hh => hh) rfl dX1_frightBy_150 ?_
                refine lv_iload hx hb dX1_frightBy_153 (lv_at hl 0 rfl) ?_
                refine va_aldq hx hb hK hP (36 + 20 * i + 4) (36 + 20 * i + 4) (xw_is (r := (36 + 20 * i + 4)) (by omega) (xc_pk (i := i) (o := 4) (by omega) (by omega))) (xt_is (r := (36 + 20 * i + 4)) (by omega) ((xty_pk (i := i) (o := 4) (by omega)).trans rfl)) (i := (nI n11)) (vp_in_nI (by omega) (by decide)) dX1_frightBy_155 ?_
                refine zz_topq (r := some (A (36 + 20 * i + (6 + n11)))) (by rw [nI_clamp (by omega)]; exact congrArg some (congrArg A (by omega))) ?_
                refine lv_dup hx hb dX1_frightBy_156 rfl ?_
                refine va_getN (host := "OffTheLead") (D := (dC, dI)) (ci := 7) (v := .int (st22 (36 + 20 * i + (6 + n11)) 6)) (C := RX6) (T := TX6) (N := 9) hx hb hts ii_X1_frightBy_X6 hown hK hP (36 + 20 * i + (6 + n11)) (xw_is (r := (36 + 20 * i + (6 + n11))) (by omega) (xc_person (i := i) (p := n11) (by omega) (by omega))) rfl 6 (by decide) (va_Nw.use rfl (nf_X1_94 hEv)) (fun _ hh => hh) rfl dX1_frightBy_157 ?_
                refine lv_topi (fun z23 ez23 => ?_)
                clear ez23
                refine lv_iconst (v := 1) hx hb dX1_frightBy_160 (by decide) ?_
                refine lv_iadd hx hb dX1_frightBy_161 ?_
                refine lv_topi (fun z24 ez24 => ?_)
                clear ez24
                refine va_putN (host := "OffTheLead") (D := (dC, dI)) (ci := 7) (v := .int z24) (ty := .int) (C := RX6) (T := TX6) (N := 9) hx hb hts ii_X1_frightBy_X6 tyX6 tyX6_ok nmX6 hown hK hP (xD hN _ _ _ _ _ _) hS (36 + 20 * i + (6 + n11)) (xw_is (r := (36 + 20 * i + (6 + n11))) (by omega) (xc_person (i := i) (p := n11) (by omega) (by omega))) rfl 6 (by decide) (va_Nw.use rfl (nf_X1_94 hEv)) (fun _ hh => hh) rfl (by decide +kernel) rfl rfl (Nat.le_of_ble_eq_true rfl) dX1_frightBy_162 (fun H locs hP _ hS => ?_)
                have hP : va_P (dC, dI) vwCl (xw A C nb (up2 st22 (36 + 20 * i + (6 + n11)) 6 z24) sl15 so) H := by rw [← xset (r := (36 + 20 * i + (6 + n11))) (k := 6) (v := z24) (xc_person (i := i) (p := n11) (by omega) (by omega))]; exact hP
                obtain ⟨st25, hP, hG⟩ : ∃ y, va_P (dC, dI) vwCl (xw A C nb y sl15 so) H ∧ XG [1, 2, 3, 4, 5, 6, 7, 8, 9, 10, 11, 12, 13, 14, 15] st y := ⟨up2 st22 (36 + 20 * i + (6 + n11)) 6 z24, hP, hG.up (xz (r := (36 + 20 * i + (6 + n11))) (k := 6) ((xrg_pe (i := i) (p := n11) (by omega)).trans (by decide))) (xpn (c := 0) (xcl_pe (i := i) (p := n11) (k := 6) (by omega)) (by decide))⟩
                refine lv_aload_n hx hb dX1_frightBy_165 rfl (lv_at hl 4 rfl) ?_
                refine va_calli (va_runV (As := []) (rest := []) ⟨hx, hb, hml, hown, hts⟩ (x_X1_draw l dC dI ad E hEE A C nb _ hN st25 sl15 so  hG.1) (cwV 0 hts gX1_frightBy_X1_draw rfl rfl rfl (by decide +kernel) ⟨Nat.le_of_ble_eq_true rfl, Nat.le_of_ble_eq_true rfl⟩) ⟨fun a U g mk q => ⟨q.1, xPre.blind hEE q.2⟩, va_recv hK hP (ci := 2) (q0 := 10) rfl (xw_is (r := 10) (by omega) (xc_fix (r := 10) (by omega))), fun U hU hW => ⟨rfl, xPre.of hEE hP hK hE hS hU hW⟩⟩ rfl rfl hl.1 rfl (lv_room (Nat.le_of_ble_eq_true rfl)) dX1_frightBy_166 ⟨Nat.le_of_ble_eq_true rfl, Nat.le_of_ble_eq_true rfl⟩) hS (fun q _ h => XA.le hS.1 q h) (XA.le hS.1) (fun r26 x t H locs ht hvm hw hB _ _ hS => ?_)
                have hP := xB.at ht hB
                clear hB ht hvm
                obtain ⟨st27, sl28, so9⟩ := x
                obtain ⟨hG2, hL2, hso, hw⟩ := hw
                have hL : LGq sl sl28 := hL.tr hL2
                clear hL2
                obtain rfl : so = so9 := hso.symm
                have hP : va_P (dC, dI) vwCl (xw A C nb st27 sl28 so) _ := hP
                have hG : XG [1, 2, 3, 4, 5, 6, 7, 8, 9, 10, 11, 12, 13, 14, 15] st st27 := hG.tr hG2 (by decide)
                clear hG2
                clear hw
                refine lv_aload hx hb dX1_frightBy_169 (lv_at hl 3 rfl) ?_
                refine va_getN (host := "OffTheLead") (D := (dC, dI)) (ci := 3) (v := .int (st27 (36 + 20 * i + (14 + va)) 3)) (C := RX2) (T := TX2) (N := 7) hx hb hts ii_X1_frightBy_X2 hown hK hP (36 + 20 * i + (14 + va)) (xw_is (r := (36 + 20 * i + (14 + va))) (by omega) (xc_dog (i := i) (p := va) (by omega) (by omega))) rfl 3 (by decide) (va_Nw.use rfl (nf_X1_97 hEv)) (fun _ hh => hh) rfl dX1_frightBy_171 ?_
                refine lv_topi (fun z29 ez29 => ?_)
                clear ez29
                refine lv_icmp_ge (tgt := 214) hx hb dX1_frightBy_174 (by decide) (fun c9 => ?_) (fun c9 => ?_)
                · refine lv_iconst (v := 1) hx hb dX1_frightBy_214 (by decide) ?_
                  refine lv_iload hx hb dX1_frightBy_215 (lv_at hl 0 rfl) ?_
                  refine lv_ishl hx hb dX1_frightBy_217 ?_
                  refine lv_topi (fun z30 ez30 => ?_)
                  clear ez30
                  exact W.iret (v := z30) hx hb hr (fun t ht hW => ⟨⟨z30, (st27, sl28, so), rfl, ⟨hG, hL, rfl, trivial⟩, xB.of ht hP⟩, hS.F ht⟩) hS.2.2 dX1_frightBy_218
                · refine lv_aload hx hb dX1_frightBy_177 (lv_at hl 3 rfl) ?_
                  refine lv_dup hx hb dX1_frightBy_179 rfl ?_
                  refine va_getN (host := "OffTheLead") (D := (dC, dI)) (ci := 3) (v := .int (st27 (36 + 20 * i + (14 + va)) 6)) (C := RX2) (T := TX2) (N := 7) hx hb hts ii_X1_frightBy_X2 hown hK hP (36 + 20 * i + (14 + va)) (xw_is (r := (36 + 20 * i + (14 + va))) (by omega) (xc_dog (i := i) (p := va) (by omega) (by omega))) rfl 6 (by decide) (va_Nw.use rfl (nf_X1_100 hEv)) (fun _ hh => hh) rfl dX1_frightBy_180 ?_
                  refine lv_topi (fun z31 ez31 => ?_)
                  clear ez31
                  refine lv_iconst (v := 1) hx hb dX1_frightBy_183 (by decide) ?_
                  refine lv_iadd hx hb dX1_frightBy_184 ?_
                  refine lv_topi (fun z32 ez32 => ?_)
                  clear ez32
                  refine va_putN (host := "OffTheLead") (D := (dC, dI)) (ci := 3) (v := .int z32) (ty := .int) (C := RX2) (T := TX2) (N := 7) hx hb hts ii_X1_frightBy_X2 tyX2 tyX2_ok nmX2 hown hK hP (xD hN _ _ _ _ _ _) hS (36 + 20 * i + (14 + va)) (xw_is (r := (36 + 20 * i + (14 + va))) (by omega) (xc_dog (i := i) (p := va) (by omega) (by omega))) rfl 6 (by decide) (va_Nw.use rfl (nf_X1_100 hEv)) (fun _ hh => hh) rfl (by decide +kernel) rfl rfl (Nat.le_of_ble_eq_true rfl) dX1_frightBy_185 (fun H locs hP _ hS => ?_)
                  have hP : va_P (dC, dI) vwCl (xw A C nb (up2 st27 (36 + 20 * i + (14 + va)) 6 z32) sl28 so) H := by rw [← xset (r := (36 + 20 * i + (14 + va))) (k := 6) (v := z32) (xc_dog (i := i) (p := va) (by omega) (by omega))]; exact hP
                  obtain ⟨st33, hP, hG⟩ : ∃ y, va_P (dC, dI) vwCl (xw A C nb y sl28 so) H ∧ XG [1, 2, 3, 4, 5, 6, 7, 8, 9, 10, 11, 12, 13, 14, 15] st y := ⟨up2 st27 (36 + 20 * i + (14 + va)) 6 z32, hP, hG.up (xz (r := (36 + 20 * i + (14 + va))) (k := 6) ((xrg_do (i := i) (p := va) (by omega)).trans (by decide))) (xpn (c := 0) (xcl_do (i := i) (p := va) (k := 6) (by omega)) (by decide))⟩
                  refine lv_aload_n hx hb dX1_frightBy_188 rfl (lv_at hl 5 rfl) ?_
                  refine lv_dup hx hb dX1_frightBy_189 rfl ?_
                  refine va_getN (host := "OffTheLead") (D := (dC, dI)) (ci := 5) (v := .int (st33 (36 + 20 * i) 11)) (C := RX4) (T := TX4) (N := 12) hx hb hts ii_X1_frightBy_X4 hown hK hP (36 + 20 * i) (xw_is (r := (36 + 20 * i)) (by omega) (xc_pk (i := i) (o := 0) (by omega) (by omega))) rfl 11 (by decide) (va_Nw.use rfl (nf_X1_103 hEv)) (fun _ hh => hh) rfl dX1_frightBy_190 ?_
                  refine lv_topi (fun z34 ez34 => ?_)
                  clear ez34
                  refine lv_iconst (v := 1) hx hb dX1_frightBy_193 (by decide) ?_
                  refine lv_iadd hx hb dX1_frightBy_194 ?_
                  refine lv_topi (fun z35 ez35 => ?_)
                  clear ez35
                  refine va_putN (host := "OffTheLead") (D := (dC, dI)) (ci := 5) (v := .int z35) (ty := .int) (C := RX4) (T := TX4) (N := 12) hx hb hts ii_X1_frightBy_X4 tyX4 tyX4_ok nmX4 hown hK hP (xD hN _ _ _ _ _ _) hS (36 + 20 * i) (xw_is (r := (36 + 20 * i)) (by omega) (xc_pk (i := i) (o := 0) (by omega) (by omega))) rfl 11 (by decide) (va_Nw.use rfl (nf_X1_103 hEv)) (fun _ hh => hh) rfl (by decide +kernel) rfl rfl (Nat.le_of_ble_eq_true rfl) dX1_frightBy_195 (fun H locs hP _ hS => ?_)
                  have hP : va_P (dC, dI) vwCl (xw A C nb (up2 st33 (36 + 20 * i) 11 z35) sl28 so) H := by rw [← xset (r := (36 + 20 * i)) (k := 11) (v := z35) (xc_pk (i := i) (o := 0) (by omega) (by omega))]; exact hP
                  obtain ⟨st36, hP, hG⟩ : ∃ y, va_P (dC, dI) vwCl (xw A C nb y sl28 so) H ∧ XG [1, 2, 3, 4, 5, 6, 7, 8, 9, 10, 11, 12, 13, 14, 15] st y := ⟨up2 st33 (36 + 20 * i) 11 z35, hP, hG.up (xz (r := (36 + 20 * i)) (k := 11) ((xrg_pk (i := i) (o := 0) (k := 11) (by omega)).trans (by first | rfl | decide))) (xpn (c := 0) ((xcl_pk (i := i) (o := 0) (k := 11) (by omega)).trans (by first | rfl | decide)) (by decide))⟩
                  refine lv_aload_n hx hb dX1_frightBy_198 rfl (lv_at hl 5 rfl) ?_
                  refine va_getN (host := "OffTheLead") (D := (dC, dI)) (ci := 5) (v := .ref (A (36 + 20 * i + 4))) (C := RX4) (T := TX4) (N := 12) hx hb hts ii_X1_frightBy_X4 hown hK hP (36 + 20 * i) (xw_is (r := (36 + 20 * i)) (by omega) (xc_pk (i := i) (o := 0) (by omega) (by omega))) rfl 3 (by decide) (va_Nw.use rfl (nf_X1_35 hEv)) (fun _ hh => hh) rfl dX1_frightBy_199 ?_
                  refine lv_iload hx hb dX1_frightBy_202 (lv_at hl 0 rfl) ?_
                  refine va_aldq hx hb hK hP (36 + 20 * i + 4) (36 + 20 * i + 4) (xw_is (r := (36 + 20 * i + 4)) (by omega) (xc_pk (i := i) (o := 4) (by omega) (by omega))) (xt_is (r := (36 + 20 * i + 4)) (by omega) ((xty_pk (i := i) (o := 4) (by omega)).trans rfl)) (i := (nI n11)) (vp_in_nI (by omega) (by decide)) dX1_frightBy_204 ?_
                  refine zz_topq (r := some (A (36 + 20 * i + (6 + n11)))) (by rw [nI_clamp (by omega)]; exact congrArg some (congrArg A (by omega))) ?_
                  refine lv_dup hx hb dX1_frightBy_205 rfl ?_
                  refine va_getN (host := "OffTheLead") (D := (dC, dI)) (ci := 7) (v := .int (st36 (36 + 20 * i + (6 + n11)) 7)) (C := RX6) (T := TX6) (N := 9) hx hb hts ii_X1_frightBy_X6 hown hK hP (36 + 20 * i + (6 + n11)) (xw_is (r := (36 + 20 * i + (6 + n11))) (by omega) (xc_person (i := i) (p := n11) (by omega) (by omega))) rfl 7 (by decide) (va_Nw.use rfl (nf_X1_104 hEv)) (fun _ hh => hh) rfl dX1_frightBy_206 ?_
                  refine lv_topi (fun z37 ez37 => ?_)
                  clear ez37
                  refine lv_iconst (v := 1) hx hb dX1_frightBy_209 (by decide) ?_
                  refine lv_iadd hx hb dX1_frightBy_210 ?_
                  refine lv_topi (fun z38 ez38 => ?_)
                  clear ez38
                  refine va_putN (host := "OffTheLead") (D := (dC, dI)) (ci := 7) (v := .int z38) (ty := .int) (C := RX6) (T := TX6) (N := 9) hx hb hts ii_X1_frightBy_X6 tyX6 tyX6_ok nmX6 hown hK hP (xD hN _ _ _ _ _ _) hS (36 + 20 * i + (6 + n11)) (xw_is (r := (36 + 20 * i + (6 + n11))) (by omega) (xc_person (i := i) (p := n11) (by omega) (by omega))) rfl 7 (by decide) (va_Nw.use rfl (nf_X1_104 hEv)) (fun _ hh => hh) rfl (by decide +kernel) rfl rfl (Nat.le_of_ble_eq_true rfl) dX1_frightBy_211 (fun H locs hP _ hS => ?_)
                  have hP : va_P (dC, dI) vwCl (xw A C nb (up2 st36 (36 + 20 * i + (6 + n11)) 7 z38) sl28 so) H := by rw [← xset (r := (36 + 20 * i + (6 + n11))) (k := 7) (v := z38) (xc_person (i := i) (p := n11) (by omega) (by omega))]; exact hP
                  obtain ⟨st39, hP, hG⟩ : ∃ y, va_P (dC, dI) vwCl (xw A C nb y sl28 so) H ∧ XG [1, 2, 3, 4, 5, 6, 7, 8, 9, 10, 11, 12, 13, 14, 15] st y := ⟨up2 st36 (36 + 20 * i + (6 + n11)) 7 z38, hP, hG.up (xz (r := (36 + 20 * i + (6 + n11))) (k := 7) ((xrg_pe (i := i) (p := n11) (by omega)).trans (by decide))) (xpn (c := 0) (xcl_pe (i := i) (p := n11) (k := 7) (by omega)) (by decide))⟩
                  refine lv_iconst (v := 1) hx hb dX1_frightBy_214 (by decide) ?_
                  refine lv_iload hx hb dX1_frightBy_215 (lv_at hl 0 rfl) ?_
                  refine lv_ishl hx hb dX1_frightBy_217 ?_
                  refine lv_topi (fun z40 ez40 => ?_)
                  clear ez40
                  exact W.iret (v := z40) hx hb hr (fun t ht hW => ⟨⟨z40, (st39, sl28, so), rfl, ⟨hG, hL, rfl, trivial⟩, xB.of ht hP⟩, hS.F ht⟩) hS.2.2 dX1_frightBy_218
              · refine lv_iconst (v := 0) hx hb dX1_frightBy_126 (by decide) ?_
                exact W.iret (v := 0) hx hb hr (fun t ht hW => ⟨⟨0, (st14, sl15, so), rfl, ⟨hG, hL, rfl, trivial⟩, xB.of ht hP⟩, hS.F ht⟩) hS.2.2 dX1_frightBy_127
          · refine lv_iconst (v := (-1)) hx hb dX1_frightBy_93 (by decide) ?_
            refine lv_goto (tgt := 106) hx hb dX1_frightBy_94 (by decide) ?_
            refine lv_istore (lv' := [(8, .int (-1)), (7, .int (nI n2)), (6, .ref (A (36 + 20 * i + (6 + n1)))), (5, .ref (A (36 + 20 * i + (14 + va)))), (0, .ref (A 10)), (1, .ref (A (36 + 20 * i))), (2, .int (nI va)), (3, .int vb), (4, .int vc)]) hx hb dX1_frightBy_106 hl (by decide) rfl (fun ls hl => ?_)
            refine lv_iload hx hb dX1_frightBy_108 (lv_at hl 0 rfl) ?_
            refine lv_iconst (v := (-1)) hx hb dX1_frightBy_110 (by decide) ?_
            refine lv_icmp_eq (tgt := 126) hx hb dX1_frightBy_111 (by decide) (fun _ => ?_) (fun cc => absurd (by decide) cc)
            refine lv_iconst (v := 0) hx hb dX1_frightBy_126 (by decide) ?_
            exact W.iret (v := 0) hx hb hr (fun t ht hW => ⟨⟨0, (st, sl, so), rfl, ⟨hG, hL, rfl, trivial⟩, xB.of ht hP⟩, hS.F ht⟩) hS.2.2 dX1_frightBy_127
        · refine lv_aload_n hx hb dX1_frightBy_70 rfl (lv_at hl 3 rfl) ?_
          refine va_calli (va_runV (As := []) (rest := []) ⟨hx, hb, hml, hown, hts⟩ (x_X1_draw l dC dI ad E hEE A C nb _ hN st sl so  hG.1) (cwV 0 hts gX1_frightBy_X1_draw rfl rfl rfl (by decide +kernel) ⟨Nat.le_of_ble_eq_true rfl, Nat.le_of_ble_eq_true rfl⟩) ⟨fun a U g mk q => ⟨q.1, xPre.blind hEE q.2⟩, va_recv hK hP (ci := 2) (q0 := 10) rfl (xw_is (r := 10) (by omega) (xc_fix (r := 10) (by omega))), fun U hU hW => ⟨rfl, xPre.of hEE hP hK hE hS hU hW⟩⟩ rfl rfl hl.1 rfl (lv_room (Nat.le_of_ble_eq_true rfl)) dX1_frightBy_71 ⟨Nat.le_of_ble_eq_true rfl, Nat.le_of_ble_eq_true rfl⟩) hS (fun q _ h => XA.le hS.1 q h) (XA.le hS.1) (fun r41 x t H locs ht hvm hw hB _ _ hS => ?_)
          have hP := xB.at ht hB
          clear hB ht hvm
          obtain ⟨st42, sl43, so9⟩ := x
          obtain ⟨hG2, hL2, hso, hw⟩ := hw
          have hL : LGq sl sl43 := hL.tr hL2
          clear hL2
          obtain rfl : so = so9 := hso.symm
          have hP : va_P (dC, dI) vwCl (xw A C nb st42 sl43 so) _ := hP
          have hG : XG [1, 2, 3, 4, 5, 6, 7, 8, 9, 10, 11, 12, 13, 14, 15] st st42 := hG.tr hG2 (by decide)
          clear hG2
          clear hw
          refine lv_aload_n hx hb dX1_frightBy_74 rfl (lv_at hl 4 rfl) ?_
          refine va_getN (host := "OffTheLead") (D := (dC, dI)) (ci := 5) (v := .int (st42 (36 + 20 * i) 8)) (C := RX4) (T := TX4) (N := 12) hx hb hts ii_X1_frightBy_X4 hown hK hP (36 + 20 * i) (xw_is (r := (36 + 20 * i)) (by omega) (xc_pk (i := i) (o := 0) (by omega) (by omega))) rfl 8 (by decide) (va_Nw.use rfl (nf_X1_75 hEv)) (fun _ hh => hh) rfl dX1_frightBy_75 ?_
          refine lv_topi (fun z44 ez44 => ?_)
          clear ez44
          refine lv_icmp_lt (tgt := 83) hx hb dX1_frightBy_78 (by decide) (fun c11 => ?_) (fun c11 => ?_)
          · refine lv_aload_n hx hb dX1_frightBy_83 rfl (lv_at hl 4 rfl) ?_
            refine va_getN (host := "OffTheLead") (D := (dC, dI)) (ci := 5) (v := .ref (A (36 + 20 * i + 3))) (C := RX4) (T := TX4) (N := 12) hx hb hts ii_X1_frightBy_X4 hown hK hP (36 + 20 * i) (xw_is (r := (36 + 20 * i)) (by omega) (xc_pk (i := i) (o := 0) (by omega) (by omega))) rfl 2 (by decide) (va_Nw.use rfl (nf_X1_78 hEv)) (fun _ hh => hh) rfl dX1_frightBy_84 ?_
            refine lv_iload hx hb dX1_frightBy_87 (lv_at hl 0 rfl) ?_
            refine va_zald hx hb hK hP (36 + 20 * i + 3) (36 + 20 * i + 3) (xw_is (r := (36 + 20 * i + 3)) (by omega) (xc_pk (i := i) (o := 3) (by omega) (by omega))) (xt_is (r := (36 + 20 * i + 3)) (by omega) ((xty_pk (i := i) (o := 3) (by omega)).trans rfl)) (i := (nI n2)) (vp_in_nI (by omega) (by decide)) dX1_frightBy_89 ?_
            refine lv_topi (fun z45 ez45 => ?_)
            clear ez45
            refine lv_if_eq (tgt := 97) hx hb dX1_frightBy_90 (by decide) (fun c12 => ?_) (fun c12 => ?_)
            · refine lv_aload_n hx hb dX1_frightBy_97 rfl (lv_at hl 4 rfl) ?_
              refine lv_iload hx hb dX1_frightBy_98 (lv_at hl 0 rfl) ?_
              refine lv_iload_n hx hb dX1_frightBy_100 rfl (lv_at hl 6 rfl) ?_
              refine lv_iload hx hb dX1_frightBy_101 (lv_at hl 7 rfl) ?_
              refine va_calli (va_runS (As := [.ref (A (36 + 20 * i)), .int (nI n2), .int vb, .int vc]) (rest := []) ⟨hx, hb, hml, hown, hts⟩ (x_X1_firstThere l dC dI ad E hEE A C nb _ hN st42 sl43 so i n2 vb vc (by omega) (by omega) hG.1) (va_cwS 4 hts gX1_frightBy_X1_firstThere rfl rfl rfl (by decide +kernel) ⟨Nat.le_of_ble_eq_true rfl, Nat.le_of_ble_eq_true rfl⟩) ⟨fun a U g mk q => ⟨q.1, xPre.blind hEE q.2⟩, fun U hU hW => ⟨rfl, xPre.of hEE hP hK hE hS hU hW⟩⟩ rfl rfl hl.1 rfl (lv_room (Nat.le_of_ble_eq_true rfl)) dX1_frightBy_103 ⟨Nat.le_of_ble_eq_true rfl, Nat.le_of_ble_eq_true rfl⟩) hS (fun q _ h => XA.le hS.1 q h) (XA.le hS.1) (fun r46 x t H locs ht hvm hw hB _ _ hS => ?_)
              have hP := xB.at ht hB
              clear hB ht hvm
              obtain ⟨rfl, hw⟩ := hw
              have hP : va_P (dC, dI) vwCl (xw A C nb st42 sl43 so) _ := hP
              rcases hw with rfl | ⟨n47, rfl, hf48⟩
              · refine lv_istore (lv' := [(8, .int (-1)), (7, .int (nI n2)), (6, .ref (A (36 + 20 * i + (6 + n1)))), (5, .ref (A (36 + 20 * i + (14 + va)))), (0, .ref (A 10)), (1, .ref (A (36 + 20 * i))), (2, .int (nI va)), (3, .int vb), (4, .int vc)]) hx hb dX1_frightBy_106 hl (by decide) rfl (fun ls hl => ?_)
                refine lv_iload hx hb dX1_frightBy_108 (lv_at hl 0 rfl) ?_
                refine lv_iconst (v := (-1)) hx hb dX1_frightBy_110 (by decide) ?_
                refine lv_icmp_eq (tgt := 126) hx hb dX1_frightBy_111 (by decide) (fun _ => ?_) (fun cc => absurd (by decide) cc)
                refine lv_iconst (v := 0) hx hb dX1_frightBy_126 (by decide) ?_
                exact W.iret (v := 0) hx hb hr (fun t ht hW => ⟨⟨0, (st42, sl43, so), rfl, ⟨hG, hL, rfl, trivial⟩, xB.of ht hP⟩, hS.F ht⟩) hS.2.2 dX1_frightBy_127
              · refine lv_istore (lv' := [(8, .int (nI n47)), (7, .int (nI n2)), (6, .ref (A (36 + 20 * i + (6 + n1)))), (5, .ref (A (36 + 20 * i + (14 + va)))), (0, .ref (A 10)), (1, .ref (A (36 + 20 * i))), (2, .int (nI va)), (3, .int vb), (4, .int vc)]) hx hb dX1_frightBy_106 hl (by decide) rfl (fun ls hl => ?_)
                refine lv_iload hx hb dX1_frightBy_108 (lv_at hl 0 rfl) ?_
                refine lv_iconst (v := (-1)) hx hb dX1_frightBy_110 (by decide) ?_
                refine lv_icmp_eq (tgt := 126) hx hb dX1_frightBy_111 (by decide) (fun cc => absurd cc (nI_nem (by omega))) (fun _ => ?_)
                refine lv_aload_n hx hb dX1_frightBy_114 rfl (lv_at hl 4 rfl) ?_
                refine va_calli (va_runV (As := []) (rest := []) ⟨hx, hb, hml, hown, hts⟩ (x_X1_draw l dC dI ad E hEE A C nb _ hN st42 sl43 so  hG.1) (cwV 0 hts gX1_frightBy_X1_draw rfl rfl rfl (by decide +kernel) ⟨Nat.le_of_ble_eq_true rfl, Nat.le_of_ble_eq_true rfl⟩) ⟨fun a U g mk q => ⟨q.1, xPre.blind hEE q.2⟩, va_recv hK hP (ci := 2) (q0 := 10) rfl (xw_is (r := 10) (by omega) (xc_fix (r := 10) (by omega))), fun U hU hW => ⟨rfl, xPre.of hEE hP hK hE hS hU hW⟩⟩ rfl rfl hl.1 rfl (lv_room (Nat.le_of_ble_eq_true rfl)) dX1_frightBy_115 ⟨Nat.le_of_ble_eq_true rfl, Nat.le_of_ble_eq_true rfl⟩) hS (fun q _ h => XA.le hS.1 q h) (XA.le hS.1) (fun r49 x t H locs ht hvm hw hB _ _ hS => ?_)
                have hP := xB.at ht hB
                clear hB ht hvm
                obtain ⟨st50, sl51, so9⟩ := x
                obtain ⟨hG2, hL2, hso, hw⟩ := hw
                have hL : LGq sl sl51 := hL.tr hL2
                clear hL2
                obtain rfl : so = so9 := hso.symm
                have hP : va_P (dC, dI) vwCl (xw A C nb st50 sl51 so) _ := hP
                have hG : XG [1, 2, 3, 4, 5, 6, 7, 8, 9, 10, 11, 12, 13, 14, 15] st st50 := hG.tr hG2 (by decide)
                clear hG2
                clear hw
                refine lv_aload hx hb dX1_frightBy_118 (lv_at hl 3 rfl) ?_
                refine va_getN (host := "OffTheLead") (D := (dC, dI)) (ci := 3) (v := .int (st50 (36 + 20 * i + (14 + va)) 2)) (C := RX2) (T := TX2) (N := 7) hx hb hts ii_X1_frightBy_X2 hown hK hP (36 + 20 * i + (14 + va)) (xw_is (r := (36 + 20 * i + (14 + va))) (by omega) (xc_dog (i := i) (p := va) (by omega) (by omega))) rfl 2 (by decide) (va_Nw.use rfl (nf_X1_85 hEv)) (fun _ hh => hh) rfl dX1_frightBy_120 ?_
                refine lv_topi (fun z52 ez52 => ?_)
                clear ez52
                refine lv_icmp_ge (tgt := 128) hx hb dX1_frightBy_123 (by decide) (fun c15 => ?_) (fun c15 => ?_)
                · refine lv_aload hx hb dX1_frightBy_128 (lv_at hl 3 rfl) ?_
                  refine lv_dup hx hb dX1_frightBy_130 rfl ?_
                  refine va_getN (host := "OffTheLead") (D := (dC, dI)) (ci := 3) (v := .int (st50 (36 + 20 * i + (14 + va)) 5)) (C := RX2) (T := TX2) (N := 7) hx hb hts ii_X1_frightBy_X2 hown hK hP (36 + 20 * i + (14 + va)) (xw_is (r := (36 + 20 * i + (14 + va))) (by omega) (xc_dog (i := i) (p := va) (by omega) (by omega))) rfl 5 (by decide) (va_Nw.use rfl (nf_X1_88 hEv)) (fun _ hh => hh) rfl dX1_frightBy_131 ?_
                  refine lv_topi (fun z53 ez53 => ?_)
                  clear ez53
                  refine lv_iconst (v := 1) hx hb dX1_frightBy_134 (by decide) ?_
                  refine lv_iadd hx hb dX1_frightBy_135 ?_
                  refine lv_topi (fun z54 ez54 => ?_)
                  clear ez54
                  refine va_putN (host := "OffTheLead") (D := (dC, dI)) (ci := 3) (v := .int z54) (ty := .int) (C := RX2) (T := TX2) (N := 7) hx hb hts ii_X1_frightBy_X2 tyX2 tyX2_ok nmX2 hown hK hP (xD hN _ _ _ _ _ _) hS (36 + 20 * i + (14 + va)) (xw_is (r := (36 + 20 * i + (14 + va))) (by omega) (xc_dog (i := i) (p := va) (by omega) (by omega))) rfl 5 (by decide) (va_Nw.use rfl (nf_X1_88 hEv)) (fun _ hh => hh) rfl (by decide +kernel) rfl rfl (Nat.le_of_ble_eq_true rfl) dX1_frightBy_136 (fun H locs hP _ hS => ?_)
                  have hP : va_P (dC, dI) vwCl (xw A C nb (up2 st50 (36 + 20 * i + (14 + va)) 5 z54) sl51 so) H := by rw [← xset (r := (36 + 20 * i + (14 + va))) (k := 5) (v := z54) (xc_dog (i := i) (p := va) (by omega) (by omega))]; exact hP
                  obtain ⟨st55, hP, hG⟩ : ∃ y, va_P (dC, dI) vwCl (xw A C nb y sl51 so) H ∧ XG [1, 2, 3, 4, 5, 6, 7, 8, 9, 10, 11, 12, 13, 14, 15] st y := ⟨up2 st50 (36 + 20 * i + (14 + va)) 5 z54, hP, hG.up (xz (r := (36 + 20 * i + (14 + va))) (k := 5) ((xrg_do (i := i) (p := va) (by omega)).trans (by decide))) (xpn (c := 0) (xcl_do (i := i) (p := va) (k := 5) (by omega)) (by decide))⟩
                  refine lv_aload_n hx hb dX1_frightBy_139 rfl (lv_at hl 5 rfl) ?_
                  refine lv_dup hx hb dX1_frightBy_140 rfl ?_
                  refine va_getN (host := "OffTheLead") (D := (dC, dI)) (ci := 5) (v := .int (st55 (36 + 20 * i) 10)) (C := RX4) (T := TX4) (N := 12) hx hb hts ii_X1_frightBy_X4 hown hK hP (36 + 20 * i) (xw_is (r := (36 + 20 * i)) (by omega) (xc_pk (i := i) (o := 0) (by omega) (by omega))) rfl 10 (by decide) (va_Nw.use rfl (nf_X1_91 hEv)) (fun _ hh => hh) rfl dX1_frightBy_141 ?_
                  refine lv_topi (fun z56 ez56 => ?_)
                  clear ez56
                  refine lv_iconst (v := 1) hx hb dX1_frightBy_144 (by decide) ?_
                  refine lv_iadd hx hb dX1_frightBy_145 ?_
                  refine lv_topi (fun z57 ez57 => ?_)
                  clear ez57
                  refine va_putN (host := "OffTheLead") (D := (dC, dI)) (ci := 5) (v := .int z57) (ty := .int) (C := RX4) (T := TX4) (N := 12) hx hb hts ii_X1_frightBy_X4 tyX4 tyX4_ok nmX4 hown hK hP (xD hN _ _ _ _ _ _) hS (36 + 20 * i) (xw_is (r := (36 + 20 * i)) (by omega) (xc_pk (i := i) (o := 0) (by omega) (by omega))) rfl 10 (by decide) (va_Nw.use rfl (nf_X1_91 hEv)) (fun _ hh => hh) rfl (by decide +kernel) rfl rfl (Nat.le_of_ble_eq_true rfl) dX1_frightBy_146 (fun H locs hP _ hS => ?_)
                  have hP : va_P (dC, dI) vwCl (xw A C nb (up2 st55 (36 + 20 * i) 10 z57) sl51 so) H := by rw [← xset (r := (36 + 20 * i)) (k := 10) (v := z57) (xc_pk (i := i) (o := 0) (by omega) (by omega))]; exact hP
                  obtain ⟨st58, hP, hG⟩ : ∃ y, va_P (dC, dI) vwCl (xw A C nb y sl51 so) H ∧ XG [1, 2, 3, 4, 5, 6, 7, 8, 9, 10, 11, 12, 13, 14, 15] st y := ⟨up2 st55 (36 + 20 * i) 10 z57, hP, hG.up (xz (r := (36 + 20 * i)) (k := 10) ((xrg_pk (i := i) (o := 0) (k := 10) (by omega)).trans (by first | rfl | decide))) (xpn (c := 0) ((xcl_pk (i := i) (o := 0) (k := 10) (by omega)).trans (by first | rfl | decide)) (by decide))⟩
                  refine lv_aload_n hx hb dX1_frightBy_149 rfl (lv_at hl 5 rfl) ?_
                  refine va_getN (host := "OffTheLead") (D := (dC, dI)) (ci := 5) (v := .ref (A (36 + 20 * i + 4))) (C := RX4) (T := TX4) (N := 12) hx hb hts ii_X1_frightBy_X4 hown hK hP (36 + 20 * i) (xw_is (r := (36 + 20 * i)) (by omega) (xc_pk (i := i) (o := 0) (by omega) (by omega))) rfl 3 (by decide) (va_Nw.use rfl (nf_X1_35 hEv)) (fun _ hh => hh) rfl dX1_frightBy_150 ?_
                  refine lv_iload hx hb dX1_frightBy_153 (lv_at hl 0 rfl) ?_
                  refine va_aldq hx hb hK hP (36 + 20 * i + 4) (36 + 20 * i + 4) (xw_is (r := (36 + 20 * i + 4)) (by omega) (xc_pk (i := i) (o := 4) (by omega) (by omega))) (xt_is (r := (36 + 20 * i + 4)) (by omega) ((xty_pk (i := i) (o := 4) (by omega)).trans rfl)) (i := (nI n47)) (vp_in_nI (by omega) (by decide)) dX1_frightBy_155 ?_
                  refine zz_topq (r := some (A (36 + 20 * i + (6 + n47)))) (by rw [nI_clamp (by omega)]; exact congrArg some (congrArg A (by omega))) ?_
                  refine lv_dup hx hb dX1_frightBy_156 rfl ?_
                  refine va_getN (host := "OffTheLead") (D := (dC, dI)) (ci := 7) (v := .int (st58 (36 + 20 * i + (6 + n47)) 6)) (C := RX6) (T := TX6) (N := 9) hx hb hts ii_X1_frightBy_X6 hown hK hP (36 + 20 * i + (6 + n47)) (xw_is (r := (36 + 20 * i + (6 + n47))) (by omega) (xc_person (i := i) (p := n47) (by omega) (by omega))) rfl 6 (by decide) (va_Nw.use rfl (nf_X1_94 hEv)) (fun _ hh => hh) rfl dX1_frightBy_157 ?_
                  refine lv_topi (fun z59 ez59 => ?_)
                  clear ez59
                  refine lv_iconst (v := 1) hx hb dX1_frightBy_160 (by decide) ?_
                  refine lv_iadd hx hb dX1_frightBy_161 ?_
                  refine lv_topi (fun z60 ez60 => ?_)
                  clear ez60
                  refine va_putN (host := "OffTheLead") (D := (dC, dI)) (ci := 7) (v := .int z60) (ty := .int) (C := RX6) (T := TX6) (N := 9) hx hb hts ii_X1_frightBy_X6 tyX6 tyX6_ok nmX6 hown hK hP (xD hN _ _ _ _ _ _) hS (36 + 20 * i + (6 + n47)) (xw_is (r := (36 + 20 * i + (6 + n47))) (by omega) (xc_person (i := i) (p := n47) (by omega) (by omega))) rfl 6 (by decide) (va_Nw.use rfl (nf_X1_94 hEv)) (fun _ hh => hh) rfl (by decide +kernel) rfl rfl (Nat.le_of_ble_eq_true rfl) dX1_frightBy_162 (fun H locs hP _ hS => ?_)
                  have hP : va_P (dC, dI) vwCl (xw A C nb (up2 st58 (36 + 20 * i + (6 + n47)) 6 z60) sl51 so) H := by rw [← xset (r := (36 + 20 * i + (6 + n47))) (k := 6) (v := z60) (xc_person (i := i) (p := n47) (by omega) (by omega))]; exact hP
                  obtain ⟨st61, hP, hG⟩ : ∃ y, va_P (dC, dI) vwCl (xw A C nb y sl51 so) H ∧ XG [1, 2, 3, 4, 5, 6, 7, 8, 9, 10, 11, 12, 13, 14, 15] st y := ⟨up2 st58 (36 + 20 * i + (6 + n47)) 6 z60, hP, hG.up (xz (r := (36 + 20 * i + (6 + n47))) (k := 6) ((xrg_pe (i := i) (p := n47) (by omega)).trans (by decide))) (xpn (c := 0) (xcl_pe (i := i) (p := n47) (k := 6) (by omega)) (by decide))⟩
                  refine lv_aload_n hx hb dX1_frightBy_165 rfl (lv_at hl 4 rfl) ?_
                  refine va_calli (va_runV (As := []) (rest := []) ⟨hx, hb, hml, hown, hts⟩ (x_X1_draw l dC dI ad E hEE A C nb _ hN st61 sl51 so  hG.1) (cwV 0 hts gX1_frightBy_X1_draw rfl rfl rfl (by decide +kernel) ⟨Nat.le_of_ble_eq_true rfl, Nat.le_of_ble_eq_true rfl⟩) ⟨fun a U g mk q => ⟨q.1, xPre.blind hEE q.2⟩, va_recv hK hP (ci := 2) (q0 := 10) rfl (xw_is (r := 10) (by omega) (xc_fix (r := 10) (by omega))), fun U hU hW => ⟨rfl, xPre.of hEE hP hK hE hS hU hW⟩⟩ rfl rfl hl.1 rfl (lv_room (Nat.le_of_ble_eq_true rfl)) dX1_frightBy_166 ⟨Nat.le_of_ble_eq_true rfl, Nat.le_of_ble_eq_true rfl⟩) hS (fun q _ h => XA.le hS.1 q h) (XA.le hS.1) (fun r62 x t H locs ht hvm hw hB _ _ hS => ?_)
                  have hP := xB.at ht hB
                  clear hB ht hvm
                  obtain ⟨st63, sl64, so9⟩ := x
                  obtain ⟨hG2, hL2, hso, hw⟩ := hw
                  have hL : LGq sl sl64 := hL.tr hL2
                  clear hL2
                  obtain rfl : so = so9 := hso.symm
                  have hP : va_P (dC, dI) vwCl (xw A C nb st63 sl64 so) _ := hP
                  have hG : XG [1, 2, 3, 4, 5, 6, 7, 8, 9, 10, 11, 12, 13, 14, 15] st st63 := hG.tr hG2 (by decide)
                  clear hG2
                  clear hw
                  refine lv_aload hx hb dX1_frightBy_169 (lv_at hl 3 rfl) ?_
                  refine va_getN (host := "OffTheLead") (D := (dC, dI)) (ci := 3) (v := .int (st63 (36 + 20 * i + (14 + va)) 3)) (C := RX2) (T := TX2) (N := 7) hx hb hts ii_X1_frightBy_X2 hown hK hP (36 + 20 * i + (14 + va)) (xw_is (r := (36 + 20 * i + (14 + va))) (by omega) (xc_dog (i := i) (p := va) (by omega) (by omega))) rfl 3 (by decide) (va_Nw.use rfl (nf_X1_97 hEv)) (fun _ hh => hh) rfl dX1_frightBy_171 ?_
                  refine lv_topi (fun z65 ez65 => ?_)
                  clear ez65
                  refine lv_icmp_ge (tgt := 214) hx hb dX1_frightBy_174 (by decide) (fun c16 => ?_) (fun c16 => ?_)
                  · refine lv_iconst (v := 1) hx hb dX1_frightBy_214 (by decide) ?_
                    refine lv_iload hx hb dX1_frightBy_215 (lv_at hl 0 rfl) ?_
                    refine lv_ishl hx hb dX1_frightBy_217 ?_
                    refine lv_topi (fun z66 ez66 => ?_)
                    clear ez66
                    exact W.iret (v := z66) hx hb hr (fun t ht hW => ⟨⟨z66, (st63, sl64, so), rfl, ⟨hG, hL, rfl, trivial⟩, xB.of ht hP⟩, hS.F ht⟩) hS.2.2 dX1_frightBy_218
                  · refine lv_aload hx hb dX1_frightBy_177 (lv_at hl 3 rfl) ?_
                    refine lv_dup hx hb dX1_frightBy_179 rfl ?_
                    refine va_getN (host := "OffTheLead") (D := (dC, dI)) (ci := 3) (v := .int (st63 (36 + 20 * i + (14 + va)) 6)) (C := RX2) (T := TX2) (N := 7) hx hb hts ii_X1_frightBy_X2 hown hK hP (36 + 20 * i + (14 + va)) (xw_is (r := (36 + 20 * i + (14 + va))) (by omega) (xc_dog (i := i) (p := va) (by omega) (by omega))) rfl 6 (by decide) (va_Nw.use rfl (nf_X1_100 hEv)) (fun _ hh => hh) rfl dX1_frightBy_180 ?_
                    refine lv_topi (fun z67 ez67 => ?_)
                    clear ez67
                    refine lv_iconst (v := 1) hx hb dX1_frightBy_183 (by decide) ?_
                    refine lv_iadd hx hb dX1_frightBy_184 ?_
                    refine lv_topi (fun z68 ez68 => ?_)
                    clear ez68
                    refine va_putN (host := "OffTheLead") (D := (dC, dI)) (ci := 3) (v := .int z68) (ty := .int) (C := RX2) (T := TX2) (N := 7) hx hb hts ii_X1_frightBy_X2 tyX2 tyX2_ok nmX2 hown hK hP (xD hN _ _ _ _ _ _) hS (36 + 20 * i + (14 + va)) (xw_is (r := (36 + 20 * i + (14 + va))) (by omega) (xc_dog (i := i) (p := va) (by omega) (by omega))) rfl 6 (by decide) (va_Nw.use rfl (nf_X1_100 hEv)) (fun _ hh => hh) rfl (by decide +kernel) rfl rfl (Nat.le_of_ble_eq_true rfl) dX1_frightBy_185 (fun H locs hP _ hS => ?_)
                    have hP : va_P (dC, dI) vwCl (xw A C nb (up2 st63 (36 + 20 * i + (14 + va)) 6 z68) sl64 so) H := by rw [← xset (r := (36 + 20 * i + (14 + va))) (k := 6) (v := z68) (xc_dog (i := i) (p := va) (by omega) (by omega))]; exact hP
                    obtain ⟨st69, hP, hG⟩ : ∃ y, va_P (dC, dI) vwCl (xw A C nb y sl64 so) H ∧ XG [1, 2, 3, 4, 5, 6, 7, 8, 9, 10, 11, 12, 13, 14, 15] st y := ⟨up2 st63 (36 + 20 * i + (14 + va)) 6 z68, hP, hG.up (xz (r := (36 + 20 * i + (14 + va))) (k := 6) ((xrg_do (i := i) (p := va) (by omega)).trans (by decide))) (xpn (c := 0) (xcl_do (i := i) (p := va) (k := 6) (by omega)) (by decide))⟩
                    refine lv_aload_n hx hb dX1_frightBy_188 rfl (lv_at hl 5 rfl) ?_
                    refine lv_dup hx hb dX1_frightBy_189 rfl ?_
                    refine va_getN (host := "OffTheLead") (D := (dC, dI)) (ci := 5) (v := .int (st69 (36 + 20 * i) 11)) (C := RX4) (T := TX4) (N := 12) hx hb hts ii_X1_frightBy_X4 hown hK hP (36 + 20 * i) (xw_is (r := (36 + 20 * i)) (by omega) (xc_pk (i := i) (o := 0) (by omega) (by omega))) rfl 11 (by decide) (va_Nw.use rfl (nf_X1_103 hEv)) (fun _ hh => hh) rfl dX1_frightBy_190 ?_
                    refine lv_topi (fun z70 ez70 => ?_)
                    clear ez70
                    refine lv_iconst (v := 1) hx hb dX1_frightBy_193 (by decide) ?_
                    refine lv_iadd hx hb dX1_frightBy_194 ?_
                    refine lv_topi (fun z71 ez71 => ?_)
                    clear ez71
                    refine va_putN (host := "OffTheLead") (D := (dC, dI)) (ci := 5) (v := .int z71) (ty := .int) (C := RX4) (T := TX4) (N := 12) hx hb hts ii_X1_frightBy_X4 tyX4 tyX4_ok nmX4 hown hK hP (xD hN _ _ _ _ _ _) hS (36 + 20 * i) (xw_is (r := (36 + 20 * i)) (by omega) (xc_pk (i := i) (o := 0) (by omega) (by omega))) rfl 11 (by decide) (va_Nw.use rfl (nf_X1_103 hEv)) (fun _ hh => hh) rfl (by decide +kernel) rfl rfl (Nat.le_of_ble_eq_true rfl) dX1_frightBy_195 (fun H locs hP _ hS => ?_)
                    have hP : va_P (dC, dI) vwCl (xw A C nb (up2 st69 (36 + 20 * i) 11 z71) sl64 so) H := by rw [← xset (r := (36 + 20 * i)) (k := 11) (v := z71) (xc_pk (i := i) (o := 0) (by omega) (by omega))]; exact hP
                    obtain ⟨st72, hP, hG⟩ : ∃ y, va_P (dC, dI) vwCl (xw A C nb y sl64 so) H ∧ XG [1, 2, 3, 4, 5, 6, 7, 8, 9, 10, 11, 12, 13, 14, 15] st y := ⟨up2 st69 (36 + 20 * i) 11 z71, hP, hG.up (xz (r := (36 + 20 * i)) (k := 11) ((xrg_pk (i := i) (o := 0) (k := 11) (by omega)).trans (by first | rfl | decide))) (xpn (c := 0) ((xcl_pk (i := i) (o := 0) (k := 11) (by omega)).trans (by first | rfl | decide)) (by decide))⟩
                    refine lv_aload_n hx hb dX1_frightBy_198 rfl (lv_at hl 5 rfl) ?_
                    refine va_getN (host := "OffTheLead") (D := (dC, dI)) (ci := 5) (v := .ref (A (36 + 20 * i + 4))) (C := RX4) (T := TX4) (N := 12) hx hb hts ii_X1_frightBy_X4 hown hK hP (36 + 20 * i) (xw_is (r := (36 + 20 * i)) (by omega) (xc_pk (i := i) (o := 0) (by omega) (by omega))) rfl 3 (by decide) (va_Nw.use rfl (nf_X1_35 hEv)) (fun _ hh => hh) rfl dX1_frightBy_199 ?_
                    refine lv_iload hx hb dX1_frightBy_202 (lv_at hl 0 rfl) ?_
                    refine va_aldq hx hb hK hP (36 + 20 * i + 4) (36 + 20 * i + 4) (xw_is (r := (36 + 20 * i + 4)) (by omega) (xc_pk (i := i) (o := 4) (by omega) (by omega))) (xt_is (r := (36 + 20 * i + 4)) (by omega) ((xty_pk (i := i) (o := 4) (by omega)).trans rfl)) (i := (nI n47)) (vp_in_nI (by omega) (by decide)) dX1_frightBy_204 ?_
                    refine zz_topq (r := some (A (36 + 20 * i + (6 + n47)))) (by rw [nI_clamp (by omega)]; exact congrArg some (congrArg A (by omega))) ?_
                    refine lv_dup hx hb dX1_frightBy_205 rfl ?_
                    refine va_getN (host := "OffTheLead") (D := (dC, dI)) (ci := 7) (v := .int (st72 (36 + 20 * i + (6 + n47)) 7)) (C := RX6) (T := TX6) (N := 9) hx hb hts ii_X1_frightBy_X6 hown hK hP (36 + 20 * i + (6 + n47)) (xw_is (r := (36 + 20 * i + (6 + n47))) (by omega) (xc_person (i := i) (p := n47) (by omega) (by omega))) rfl 7 (by decide) (va_Nw.use rfl (nf_X1_104 hEv)) (fun _ hh => hh) rfl dX1_frightBy_206 ?_
                    refine lv_topi (fun z73 ez73 => ?_)
                    clear ez73
                    refine lv_iconst (v := 1) hx hb dX1_frightBy_209 (by decide) ?_
                    refine lv_iadd hx hb dX1_frightBy_210 ?_
                    refine lv_topi (fun z74 ez74 => ?_)
                    clear ez74
                    refine va_putN (host := "OffTheLead") (D := (dC, dI)) (ci := 7) (v := .int z74) (ty := .int) (C := RX6) (T := TX6) (N := 9) hx hb hts ii_X1_frightBy_X6 tyX6 tyX6_ok nmX6 hown hK hP (xD hN _ _ _ _ _ _) hS (36 + 20 * i + (6 + n47)) (xw_is (r := (36 + 20 * i + (6 + n47))) (by omega) (xc_person (i := i) (p := n47) (by omega) (by omega))) rfl 7 (by decide) (va_Nw.use rfl (nf_X1_104 hEv)) (fun _ hh => hh) rfl (by decide +kernel) rfl rfl (Nat.le_of_ble_eq_true rfl) dX1_frightBy_211 (fun H locs hP _ hS => ?_)
                    have hP : va_P (dC, dI) vwCl (xw A C nb (up2 st72 (36 + 20 * i + (6 + n47)) 7 z74) sl64 so) H := by rw [← xset (r := (36 + 20 * i + (6 + n47))) (k := 7) (v := z74) (xc_person (i := i) (p := n47) (by omega) (by omega))]; exact hP
                    obtain ⟨st75, hP, hG⟩ : ∃ y, va_P (dC, dI) vwCl (xw A C nb y sl64 so) H ∧ XG [1, 2, 3, 4, 5, 6, 7, 8, 9, 10, 11, 12, 13, 14, 15] st y := ⟨up2 st72 (36 + 20 * i + (6 + n47)) 7 z74, hP, hG.up (xz (r := (36 + 20 * i + (6 + n47))) (k := 7) ((xrg_pe (i := i) (p := n47) (by omega)).trans (by decide))) (xpn (c := 0) (xcl_pe (i := i) (p := n47) (k := 7) (by omega)) (by decide))⟩
                    refine lv_iconst (v := 1) hx hb dX1_frightBy_214 (by decide) ?_
                    refine lv_iload hx hb dX1_frightBy_215 (lv_at hl 0 rfl) ?_
                    refine lv_ishl hx hb dX1_frightBy_217 ?_
                    refine lv_topi (fun z76 ez76 => ?_)
                    clear ez76
                    exact W.iret (v := z76) hx hb hr (fun t ht hW => ⟨⟨z76, (st75, sl64, so), rfl, ⟨hG, hL, rfl, trivial⟩, xB.of ht hP⟩, hS.F ht⟩) hS.2.2 dX1_frightBy_218
                · refine lv_iconst (v := 0) hx hb dX1_frightBy_126 (by decide) ?_
                  exact W.iret (v := 0) hx hb hr (fun t ht hW => ⟨⟨0, (st50, sl51, so), rfl, ⟨hG, hL, rfl, trivial⟩, xB.of ht hP⟩, hS.F ht⟩) hS.2.2 dX1_frightBy_127
            · refine lv_iconst (v := (-1)) hx hb dX1_frightBy_93 (by decide) ?_
              refine lv_goto (tgt := 106) hx hb dX1_frightBy_94 (by decide) ?_
              refine lv_istore (lv' := [(8, .int (-1)), (7, .int (nI n2)), (6, .ref (A (36 + 20 * i + (6 + n1)))), (5, .ref (A (36 + 20 * i + (14 + va)))), (0, .ref (A 10)), (1, .ref (A (36 + 20 * i))), (2, .int (nI va)), (3, .int vb), (4, .int vc)]) hx hb dX1_frightBy_106 hl (by decide) rfl (fun ls hl => ?_)
              refine lv_iload hx hb dX1_frightBy_108 (lv_at hl 0 rfl) ?_
              refine lv_iconst (v := (-1)) hx hb dX1_frightBy_110 (by decide) ?_
              refine lv_icmp_eq (tgt := 126) hx hb dX1_frightBy_111 (by decide) (fun _ => ?_) (fun cc => absurd (by decide) cc)
              refine lv_iconst (v := 0) hx hb dX1_frightBy_126 (by decide) ?_
              exact W.iret (v := 0) hx hb hr (fun t ht hW => ⟨⟨0, (st42, sl43, so), rfl, ⟨hG, hL, rfl, trivial⟩, xB.of ht hP⟩, hS.F ht⟩) hS.2.2 dX1_frightBy_127
          · refine lv_iconst (v := 0) hx hb dX1_frightBy_81 (by decide) ?_
            exact W.iret (v := 0) hx hb hr (fun t ht hW => ⟨⟨0, (st42, sl43, so), rfl, ⟨hG, hL, rfl, trivial⟩, xB.of ht hP⟩, hS.F ht⟩) hS.2.2 dX1_frightBy_82
      · refine lv_if_ne (tgt := 56) hx hb dX1_frightBy_51 (by decide) (fun cc => absurd (by decide) cc) (fun _ => ?_)
        refine lv_iconst (v := 0) hx hb dX1_frightBy_54 (by decide) ?_
        exact W.iret (v := 0) hx hb hr (fun t ht hW => ⟨⟨0, (st, sl, so), rfl, ⟨hG, hL, rfl, trivial⟩, xB.of ht hP⟩, hS.F ht⟩) hS.2.2 dX1_frightBy_55
