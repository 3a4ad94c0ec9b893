set_option maxHeartbeats 4000000 in
set_option maxRecDepth 100000 in
theorem x_X1_liveDay (l : Launch) (dC : Nat → ClassId) (dI : Nat → Nat → Nat) (ad : Nat → Nat) (E : EP) (hEE : EC ad E) (A : Nat → Nat) (C : Nat → ClassId) (nb sz : Nat) (hN : XN A) (st : Nat → Nat → Int32) (sl : Nat → Nat → Int64) (so : Nat → XR) (i : Nat) (hi : i < 13) (hI : XI st) : Met l yX1_liveDay wsX1_liveDay ({ frames := 3, cells := 0, slots := 0, locals := 75 }) (va_Pc [.ref (A 10), .ref (A (36 + 20 * i))] (xPre E dC dI A C nb sz st sl so)) (va_Qv (fun (x : XT) => XG [1, 2, 3, 4, 5, 6, 7, 8, 9, 10, 11, 12, 13, 14, 15] st x.1 ∧ LGq sl x.2.1 ∧ x.2.2 = so ∧ (True)) (xB dC dI A C nb) (XA A sz)) 0 0 (XA A sz) := by
  refine Met.ofW (cc := cX1_liveDay) (maxL := 5) (ret := none) (by decide) rfl ?_
  intro p e s m args below meth c s₁ B hml hv
  obtain ⟨rfl, hsz, hP, hK, hE⟩ := hv
  have hx := B.exec
  have hb := B.bytes
  have hr := B.returns
  have hts := atoms_spec (ws := wsX1_liveDay) B.pre
  have hown : s.vm.findClass RX1 = some m.cls := findClass_of_methodNamed B.named
  subst hsz
  have hEv := hEE.1 _ _ _ hE
  have hS : va_S (XA A s.heap.size) s.heap s.heap [] := va_S.rf
  have hG : XG [1, 2, 3, 4, 5, 6, 7, 8, 9, 10, 11, 12, 13, 14, 15] st st := XG.rf hI
  have hl := lv_entry ([.ref (A 10), .ref (A (36 + 20 * i))]) (n := 5) (Nat.le_of_ble_eq_true rfl)
  rw [lg_entry_eq]
  generalize (lg_sl ([.ref (A 10), .ref (A (36 + 20 * i))]) ++ List.replicate (5 - (lg_sl ([.ref (A 10), .ref (A (36 + 20 * i))])).length) Slot.unset).toArray = ls at hl ⊢
  have hl : lv_has ls 5 [(0, .ref (A 10)), (1, .ref (A (36 + 20 * i)))] := hl
  clear hI
  have hL : LGq sl sl := LGq.rf
  refine lv_iconst (v := 0) hx hb dX1_liveDay_0 (by decide) ?_
  refine lv_istore_n (lv' := [(2, .int 0), (0, .ref (A 10)), (1, .ref (A (36 + 20 * i)))]) hx hb dX1_liveDay_1 rfl hl (by decide) rfl (fun ls hl => ?_)
  refine lv_iconst (v := 0) hx hb dX1_liveDay_2 (by decide) ?_
  refine lv_istore_n (lv' := [(3, .int 0), (2, .int 0), (0, .ref (A 10)), (1, .ref (A (36 + 20 * i)))]) hx hb dX1_liveDay_3 rfl hl (by decide) rfl (fun ls hl => ?_)
  refine zz_wf (fun n stk H locs ls => ∃ k1 : Nat, ∃ z2 : Int32, ∃ st3 : Nat → Nat → Int32, ∃ sl4 : Nat → Nat → Int64, n = 25 - k1 ∧ 0 ≤ k1 ∧ k1 < 25 ∧ va_P (dC, dI) vwCl (xw A C nb st3 sl4 so) H ∧ XG [1, 2, 3, 4, 5, 6, 7, 8, 9, 10, 11, 12, 13, 14, 15] st st3 ∧ LGq sl sl4 ∧ va_S (XA A s.heap.size) s.heap H locs ∧ lv_has ls 5 [(3, .int (nI k1)), (2, .int z2), (0, .ref (A 10)), (1, .ref (A (36 + 20 * i)))] ∧ stk = []) ?_ (25 - 0) _ _ _ _ ⟨0, 0, st, sl, rfl, by omega, by omega, hP, hG, hL, hS, lv_sub hl [0, 1, 2, 3] rfl, rfl⟩
  rintro nn stk H locs ls ⟨k1, z2, st3, sl4, hm6, hv5_0, hv6_1, hP, hG, hL, hS, hl, rfl⟩ ih7
  refine lv_iload_n hx hb dX1_liveDay_4 rfl (lv_at hl 0 rfl) ?_
  refine lv_bipush (v := 24) hx hb dX1_liveDay_5 (by decide) ?_
  refine lv_icmp_ge (tgt := 46) hx hb dX1_liveDay_7 (by decide) (fun c1 => ?_) (fun c1 => ?_)
  · have c1 : 24 ≤ k1 := (nI_leI (a := 24) (b := k1) (by omega) (by omega)).mp c1
    refine lv_iconst (v := 0) hx hb dX1_liveDay_46 (by decide) ?_
    refine lv_istore_n (lv' := [(3, .int 0), (2, .int z2), (0, .ref (A 10)), (1, .ref (A (36 + 20 * i)))]) hx hb dX1_liveDay_47 rfl hl (by decide) rfl (fun ls hl => ?_)
    refine zz_wf (fun n stk H locs ls => ∃ k8 : Nat, ∃ st9 : Nat → Nat → Int32, ∃ sl10 : Nat → Nat → Int64, n = 9 - k8 ∧ 0 ≤ k8 ∧ k8 < 9 ∧ va_P (dC, dI) vwCl (xw A C nb st9 sl10 so) H ∧ XG [1, 2, 3, 4, 5, 6, 7, 8, 9, 10, 11, 12, 13, 14, 15] st st9 ∧ LGq sl sl10 ∧ va_S (XA A s.heap.size) s.heap H locs ∧ lv_has ls 5 [(3, .int (nI k8)), (2, .int z2), (0, .ref (A 10)), (1, .ref (A (36 + 20 * i)))] ∧ stk = []) ?_ (9 - 0) _ _ _ _ ⟨0, st3, sl4, rfl, by omega, by omega, hP, hG, hL, hS, lv_sub hl [0, 1, 2, 3] rfl, rfl⟩
    rintro nn stk H locs ls ⟨k8, st9, sl10, hm12, hv11_0, hv12_1, hP, hG, hL, hS, hl, rfl⟩ ih13
    refine lv_iload_n hx hb dX1_liveDay_48 rfl (lv_at hl 0 rfl) ?_
    refine lv_aload_n hx hb dX1_liveDay_49 rfl (lv_at hl 3 rfl) ?_
    refine va_getN (host := "OffTheLead") (D := (dC, dI)) (ci := 5) (v := .int (st9 (36 + 20 * i) 6)) (C := RX4) (T := TX4) (N := 12) hx hb hts ii_X1_liveDay_X4 hown hK hP (36 + 20 * i) (xw_is (r := (36 + 20 * i)) (by omega) (xc_pk (i := i) (o := 0) (by omega) (by omega))) rfl 6 (by decide) (va_Nw.use rfl (nf_X1_32 hEv)) (fun _ hh => hh) rfl dX1_liveDay_50 ?_
    obtain ⟨n14, hn14, en14⟩ := hG.1.at (r := (36 + 20 * i)) (k := 6) (b := 9) ((xrg_pk (i := i) (o := 0) (k := 6) (by omega)).trans (by first | rfl | decide)) (by decide)
    refine zz_top (v := nI n14) (by exact en14) ?_
    clear en14
    refine lv_icmp_ge (tgt := 111) hx hb dX1_liveDay_53 (by decide) (fun c2 => ?_) (fun c2 => ?_)
    · have c2 : n14 ≤ k8 := (nI_leI (a := n14) (b := k8) (by omega) (by omega)).mp c2
      refine lv_aload_n hx hb dX1_liveDay_111 rfl (lv_at hl 3 rfl) ?_
      refine lv_dup hx hb dX1_liveDay_112 rfl ?_
      refine va_getN (host := "OffTheLead") (D := (dC, dI)) (ci := 5) (v := .int (st9 (36 + 20 * i) 9)) (C := RX4) (T := TX4) (N := 12) hx hb hts ii_X1_liveDay_X4 hown hK hP (36 + 20 * i) (xw_is (r := (36 + 20 * i)) (by omega) (xc_pk (i := i) (o := 0) (by omega) (by omega))) rfl 9 (by decide) (va_Nw.use rfl (nf_X1_15 hEv)) (fun _ hh => hh) rfl dX1_liveDay_113 ?_
      refine lv_topi (fun z15 ez15 => ?_)
      clear ez15
      refine lv_iconst (v := 1) hx hb dX1_liveDay_116 (by decide) ?_
      refine lv_iadd hx hb dX1_liveDay_117 ?_
      refine lv_topi (fun z16 ez16 => ?_)
      clear ez16
      refine va_putN (host := "OffTheLead") (D := (dC, dI)) (ci := 5) (v := .int z16) (ty := .int) (C := RX4) (T := TX4) (N := 12) hx hb hts ii_X1_liveDay_X4 tyX4 tyX4_ok nmX4 hown hK hP (xD hN _ _ _ _ _ _) hS (36 + 20 * i) (xw_is (r := (36 + 20 * i)) (by omega) (xc_pk (i := i) (o := 0) (by omega) (by omega))) rfl 9 (by decide) (va_Nw.use rfl (nf_X1_15 hEv)) (fun _ hh => hh) rfl (by decide +kernel) rfl rfl (Nat.le_of_ble_eq_true rfl) dX1_liveDay_118 (fun H locs hP _ hS => ?_)
      have hP : va_P (dC, dI) vwCl (xw A C nb (up2 st9 (36 + 20 * i) 9 z16) sl10 so) H := by rw [← xset (r := (36 + 20 * i)) (k := 9) (v := z16) (xc_pk (i := i) (o := 0) (by omega) (by omega))]; exact hP
      obtain ⟨st17, hP, hG⟩ : ∃ y, va_P (dC, dI) vwCl (xw A C nb y sl10 so) H ∧ XG [1, 2, 3, 4, 5, 6, 7, 8, 9, 10, 11, 12, 13, 14, 15] st y := ⟨up2 st9 (36 + 20 * i) 9 z16, hP, hG.up (xz (r := (36 + 20 * i)) (k := 9) ((xrg_pk (i := i) (o := 0) (k := 9) (by omega)).trans (by first | rfl | decide))) (xpn (c := 0) ((xcl_pk (i := i) (o := 0) (k := 9) (by omega)).trans (by first | rfl | decide)) (by decide))⟩
      exact W.vret hx hb hr (fun t ht hW => ⟨⟨(st17, sl10, so), rfl, ⟨hG, hL, rfl, trivial⟩, xB.of ht hP⟩, hS.F ht⟩) hS.2.2 dX1_liveDay_121
    · have c2 : ¬ n14 ≤ k8 := fun hh => c2 ((nI_leI (a := n14) (b := k8) (by omega) (by omega)).mpr hh)
      refine lv_aload_n hx hb dX1_liveDay_56 rfl (lv_at hl 3 rfl) ?_
      refine va_getN (host := "OffTheLead") (D := (dC, dI)) (ci := 5) (v := .ref (A (36 + 20 * i + 4))) (C := RX4) (T := TX4) (N := 12) hx hb hts ii_X1_liveDay_X4 hown hK hP (36 + 20 * i) (xw_is (r := (36 + 20 * i)) (by omega) (xc_pk (i := i) (o := 0) (by omega) (by omega))) rfl 3 (by decide) (va_Nw.use rfl (nf_X1_35 hEv)) (fun _ hh => hh) rfl dX1_liveDay_57 ?_
      refine lv_iload_n hx hb dX1_liveDay_60 rfl (lv_at hl 0 rfl) ?_
      refine va_aldq hx hb hK hP (36 + 20 * i + 4) (36 + 20 * i + 4) (xw_is (r := (36 + 20 * i + 4)) (by omega) (xc_pk (i := i) (o := 4) (by omega) (by omega))) (xt_is (r := (36 + 20 * i + 4)) (by omega) ((xty_pk (i := i) (o := 4) (by omega)).trans rfl)) (i := (nI k8)) (vp_in_nI (by omega) (by decide)) dX1_liveDay_61 ?_
      refine zz_topq (r := some (A (36 + 20 * i + (6 + k8)))) (by rw [nI_clamp (by omega)]; exact congrArg some (congrArg A (by omega))) ?_
      refine lv_astore (lv' := [(4, .ref (A (36 + 20 * i + (6 + k8)))), (3, .int (nI k8)), (2, .int z2), (0, .ref (A 10)), (1, .ref (A (36 + 20 * i)))]) hx hb dX1_liveDay_62 hl (by decide) rfl (fun ls hl => ?_)
      refine lv_iload_n hx hb dX1_liveDay_64 rfl (lv_at hl 2 rfl) ?_
      refine lv_iload_n hx hb dX1_liveDay_65 rfl (lv_at hl 1 rfl) ?_
      refine lv_ishr hx hb dX1_liveDay_66 ?_
      refine lv_topi (fun z18 ez18 => ?_)
      clear ez18
      refine lv_iconst (v := 1) hx hb dX1_liveDay_67 (by decide) ?_
      refine lv_iand hx hb dX1_liveDay_68 ?_
      refine lv_topi (fun z19 ez19 => ?_)
      clear ez19
      refine lv_iconst (v := 1) hx hb dX1_liveDay_69 (by decide) ?_
      refine lv_icmp_ne (tgt := 86) hx hb dX1_liveDay_70 (by decide) (fun c3 => ?_) (fun c3 => ?_)
      · refine lv_aload hx hb dX1_liveDay_86 (lv_at hl 0 rfl) ?_
        refine va_getN (host := "OffTheLead") (D := (dC, dI)) (ci := 7) (v := .int (st9 (36 + 20 * i + (6 + k8)) 5)) (C := RX6) (T := TX6) (N := 9) hx hb hts ii_X1_liveDay_X6 hown hK hP (36 + 20 * i + (6 + k8)) (xw_is (r := (36 + 20 * i + (6 + k8))) (by omega) (xc_person (i := i) (p := k8) (by omega) (by omega))) rfl 5 (by decide) (va_Nw.use rfl (nf_X1_44 hEv)) (fun _ hh => hh) rfl dX1_liveDay_88 ?_
        refine lv_topi (fun z20 ez20 => ?_)
        clear ez20
        refine lv_if_le (tgt := 105) hx hb dX1_liveDay_91 (by decide) (fun c4 => ?_) (fun c4 => ?_)
        · refine lv_iinc (v := (nI (k8 + 1))) (lv' := [(3, .int (nI (k8 + 1))), (4, .ref (A (36 + 20 * i + (6 + k8)))), (2, .int z2), (0, .ref (A 10)), (1, .ref (A (36 + 20 * i)))]) hx hb dX1_liveDay_105 hl (k := 1) rfl (nI_add k8 1) (by decide) rfl (fun ls hl => ?_)
          refine lv_goto (tgt := 48) hx hb dX1_liveDay_108 (by decide) ?_
          exact ih13 (9 - (k8 + 1)) _ _ _ _ (by omega) ⟨(k8 + 1), st9, sl10, rfl, by omega, by omega, hP, hG, hL, hS, lv_sub hl [0, 2, 3, 4] rfl, rfl⟩
        · refine lv_aload hx hb dX1_liveDay_94 (lv_at hl 0 rfl) ?_
          refine lv_dup hx hb dX1_liveDay_96 rfl ?_
          refine va_getN (host := "OffTheLead") (D := (dC, dI)) (ci := 7) (v := .int (st9 (36 + 20 * i + (6 + k8)) 5)) (C := RX6) (T := TX6) (N := 9) hx hb hts ii_X1_liveDay_X6 hown hK hP (36 + 20 * i + (6 + k8)) (xw_is (r := (36 + 20 * i + (6 + k8))) (by omega) (xc_person (i := i) (p := k8) (by omega) (by omega))) rfl 5 (by decide) (va_Nw.use rfl (nf_X1_44 hEv)) (fun _ hh => hh) rfl dX1_liveDay_97 ?_
          refine lv_topi (fun z21 ez21 => ?_)
          clear ez21
          refine lv_iconst (v := 1) hx hb dX1_liveDay_100 (by decide) ?_
          refine lv_isub hx hb dX1_liveDay_101 ?_
          refine lv_topi (fun z22 ez22 => ?_)
          clear ez22
          refine va_putN (host := "OffTheLead") (D := (dC, dI)) (ci := 7) (v := .int z22) (ty := .int) (C := RX6) (T := TX6) (N := 9) hx hb hts ii_X1_liveDay_X6 tyX6 tyX6_ok nmX6 hown hK hP (xD hN _ _ _ _ _ _) hS (36 + 20 * i + (6 + k8)) (xw_is (r := (36 + 20 * i + (6 + k8))) (by omega) (xc_person (i := i) (p := k8) (by omega) (by omega))) rfl 5 (by decide) (va_Nw.use rfl (nf_X1_44 hEv)) (fun _ hh => hh) rfl (by decide +kernel) rfl rfl (Nat.le_of_ble_eq_true rfl) dX1_liveDay_102 (fun H locs hP _ hS => ?_)
          have hP : va_P (dC, dI) vwCl (xw A C nb (up2 st9 (36 + 20 * i + (6 + k8)) 5 z22) sl10 so) H := by rw [← xset (r := (36 + 20 * i + (6 + k8))) (k := 5) (v := z22) (xc_person (i := i) (p := k8) (by omega) (by omega))]; exact hP
          obtain ⟨st23, hP, hG⟩ : ∃ y, va_P (dC, dI) vwCl (xw A C nb y sl10 so) H ∧ XG [1, 2, 3, 4, 5, 6, 7, 8, 9, 10, 11, 12, 13, 14, 15] st y := ⟨up2 st9 (36 + 20 * i + (6 + k8)) 5 z22, hP, hG.up (xz (r := (36 + 20 * i + (6 + k8))) (k := 5) ((xrg_pe (i := i) (p := k8) (by omega)).trans (by decide))) (xpn (c := 0) (xcl_pe (i := i) (p := k8) (k := 5) (by omega)) (by decide))⟩
          refine lv_iinc (v := (nI (k8 + 1))) (lv' := [(3, .int (nI (k8 + 1))), (4, .ref (A (36 + 20 * i + (6 + k8)))), (2, .int z2), (0, .ref (A 10)), (1, .ref (A (36 + 20 * i)))]) hx hb dX1_liveDay_105 hl (k := 1) rfl (nI_add k8 1) (by decide) rfl (fun ls hl => ?_)
          refine lv_goto (tgt := 48) hx hb dX1_liveDay_108 (by decide) ?_
          exact ih13 (9 - (k8 + 1)) _ _ _ _ (by omega) ⟨(k8 + 1), st23, sl10, rfl, by omega, by omega, hP, hG, hL, hS, lv_sub hl [0, 2, 3, 4] rfl, rfl⟩
      · refine lv_aload hx hb dX1_liveDay_73 (lv_at hl 0 rfl) ?_
        refine lv_aload hx hb dX1_liveDay_75 (lv_at hl 0 rfl) ?_
        refine va_getN (host := "OffTheLead") (D := (dC, dI)) (ci := 7) (v := .int (st9 (36 + 20 * i + (6 + k8)) 4)) (C := RX6) (T := TX6) (N := 9) hx hb hts ii_X1_liveDay_X6 hown hK hP (36 + 20 * i + (6 + k8)) (xw_is (r := (36 + 20 * i + (6 + k8))) (by omega) (xc_person (i := i) (p := k8) (by omega) (by omega))) rfl 4 (by decide) (va_Nw.use rfl (nf_X1_39 hEv)) (fun _ hh => hh) rfl dX1_liveDay_77 ?_
        refine lv_topi (fun z24 ez24 => ?_)
        clear ez24
        refine va_putN (host := "OffTheLead") (D := (dC, dI)) (ci := 7) (v := .int z24) (ty := .int) (C := RX6) (T := TX6) (N := 9) hx hb hts ii_X1_liveDay_X6 tyX6 tyX6_ok nmX6 hown hK hP (xD hN _ _ _ _ _ _) hS (36 + 20 * i + (6 + k8)) (xw_is (r := (36 + 20 * i + (6 + k8))) (by omega) (xc_person (i := i) (p := k8) (by omega) (by omega))) rfl 5 (by decide) (va_Nw.use rfl (nf_X1_44 hEv)) (fun _ hh => hh) rfl (by decide +kernel) rfl rfl (Nat.le_of_ble_eq_true rfl) dX1_liveDay_80 (fun H locs hP _ hS => ?_)
        have hP : va_P (dC, dI) vwCl (xw A C nb (up2 st9 (36 + 20 * i + (6 + k8)) 5 z24) sl10 so) H := by rw [← xset (r := (36 + 20 * i + (6 + k8))) (k := 5) (v := z24) (xc_person (i := i) (p := k8) (by omega) (by omega))]; exact hP
        obtain ⟨st25, hP, hG⟩ : ∃ y, va_P (dC, dI) vwCl (xw A C nb y sl10 so) H ∧ XG [1, 2, 3, 4, 5, 6, 7, 8, 9, 10, 11, 12, 13, 14, 15] st y := ⟨up2 st9 (36 + 20 * i + (6 + k8)) 5 z24, hP, hG.up (xz (r := (36 + 20 * i + (6 + k8))) (k := 5) ((xrg_pe (i := i) (p := k8) (by omega)).trans (by decide))) (xpn (c := 0) (xcl_pe (i := i) (p := k8) (k := 5) (by omega)) (by decide))⟩
        refine lv_goto (tgt := 105) hx hb dX1_liveDay_83 (by decide) ?_
        refine lv_iinc (v := (nI (k8 + 1))) (lv' := [(3, .int (nI (k8 + 1))), (4, .ref (A (36 + 20 * i + (6 + k8)))), (2, .int z2), (0, .ref (A 10)), (1, .ref (A (36 + 20 * i)))]) hx hb dX1_liveDay_105 hl (k := 1) rfl (nI_add k8 1) (by decide) rfl (fun ls hl => ?_)
        refine lv_goto (tgt := 48) hx hb dX1_liveDay_108 (by decide) ?_
        exact ih13 (9 - (k8 + 1)) _ _ _ _ (by omega) ⟨(k8 + 1), st25, sl10, rfl, by omega, by omega, hP, hG, hL, hS, lv_sub hl [0, 2, 3, 4] rfl, rfl⟩
  · have c1 : ¬ 24 ≤ k1 := fun hh => c1 ((nI_leI (a := 24) (b := k1) (by omega) (by omega)).mpr hh)
    refine lv_iconst (v := 0) hx hb dX1_liveDay_10 (by decide) ?_
    refine lv_istore (lv' := [(4, .int 0), (3, .int (nI k1)), (2, .int z2), (0, .ref (A 10)), (1, .ref (A (36 + 20 * i)))]) hx hb dX1_liveDay_11 hl (by decide) rfl (fun ls hl => ?_)
    refine zz_wf (fun n stk H locs ls => ∃ k26 : Nat, ∃ z27 : Int32, ∃ st28 : Nat → Nat → Int32, ∃ sl29 : Nat → Nat → Int64, n = 7 - k26 ∧ 0 ≤ k26 ∧ k26 < 7 ∧ va_P (dC, dI) vwCl (xw A C nb st28 sl29 so) H ∧ XG [1, 2, 3, 4, 5, 6, 7, 8, 9, 10, 11, 12, 13, 14, 15] st st28 ∧ LGq sl sl29 ∧ va_S (XA A s.heap.size) s.heap H locs ∧ lv_has ls 5 [(4, .int (nI k26)), (3, .int (nI k1)), (2, .int z27), (0, .ref (A 10)), (1, .ref (A (36 + 20 * i)))] ∧ stk = []) ?_ (7 - 0) _ _ _ _ ⟨0, z2, st3, sl4, rfl, by omega, by omega, hP, hG, hL, hS, lv_sub hl [0, 1, 2, 3, 4] rfl, rfl⟩
    rintro nn stk H locs ls ⟨k26, z27, st28, sl29, hm31, hv30_0, hv31_1, hP, hG, hL, hS, hl, rfl⟩ ih32
    refine lv_iload hx hb dX1_liveDay_13 (lv_at hl 0 rfl) ?_
    refine lv_aload_n hx hb dX1_liveDay_15 rfl (lv_at hl 4 rfl) ?_
    refine va_getN (host := "OffTheLead") (D := (dC, dI)) (ci := 5) (v := .int (st28 (36 + 20 * i) 7)) (C := RX4) (T := TX4) (N := 12) hx hb hts ii_X1_liveDay_X4 hown hK hP (36 + 20 * i) (xw_is (r := (36 + 20 * i)) (by omega) (xc_pk (i := i) (o := 0) (by omega) (by omega))) rfl 7 (by decide) (va_Nw.use rfl (nf_X1_25 hEv)) (fun _ hh => hh) rfl dX1_liveDay_16 ?_
    obtain ⟨n33, hn33, en33⟩ := hG.1.at (r := (36 + 20 * i)) (k := 7) (b := 7) ((xrg_pk (i := i) (o := 0) (k := 7) (by omega)).trans (by first | rfl | decide)) (by decide)
    refine zz_top (v := nI n33) (by exact en33) ?_
    clear en33
    refine lv_icmp_ge (tgt := 40) hx hb dX1_liveDay_19 (by decide) (fun c5 => ?_) (fun c5 => ?_)
    · have c5 : n33 ≤ k26 := (nI_leI (a := n33) (b := k26) (by omega) (by omega)).mp c5
      refine lv_iinc (v := (nI (k1 + 1))) (lv' := [(3, .int (nI (k1 + 1))), (4, .int (nI k26)), (2, .int z27), (0, .ref (A 10)), (1, .ref (A (36 + 20 * i)))]) hx hb dX1_liveDay_40 hl (k := 1) rfl (nI_add k1 1) (by decide) rfl (fun ls hl => ?_)
      refine lv_goto (tgt := 4) hx hb dX1_liveDay_43 (by decide) ?_
      exact ih7 (25 - (k1 + 1)) _ _ _ _ (by omega) ⟨(k1 + 1), z27, st28, sl29, rfl, by omega, by omega, hP, hG, hL, hS, lv_sub hl [0, 2, 3, 4] rfl, rfl⟩
    · have c5 : ¬ n33 ≤ k26 := fun hh => c5 ((nI_leI (a := n33) (b := k26) (by omega) (by omega)).mpr hh)
      refine lv_iload_n hx hb dX1_liveDay_22 rfl (lv_at hl 2 rfl) ?_
      refine lv_aload_n hx hb dX1_liveDay_23 rfl (lv_at hl 3 rfl) ?_
      refine lv_aload_n hx hb dX1_liveDay_24 rfl (lv_at hl 4 rfl) ?_
      refine lv_iload hx hb dX1_liveDay_25 (lv_at hl 0 rfl) ?_
      refine lv_iload_n hx hb dX1_liveDay_27 rfl (lv_at hl 1 rfl) ?_
      refine lv_iload_n hx hb dX1_liveDay_28 rfl (lv_at hl 2 rfl) ?_
      refine va_calli (va_runV (As := [.ref (A (36 + 20 * i)), .int (nI k26), .int (nI k1), .int z27]) (rest := [.int z27]) ⟨hx, hb, hml, hown, hts⟩ (x_X1_frightBy l dC dI ad E hEE A C nb _ hN st28 sl29 so i k26 (nI k1) z27 (by omega) (by omega) hG.1) (cwV 4 hts gX1_liveDay_X1_frightBy rfl rfl rfl (by decide +kernel) ⟨Nat.le_of_ble_eq_true rfl, Nat.le_of_ble_eq_true rfl⟩) ⟨fun a U g mk q => ⟨q.1, xPre.blind hEE q.2⟩, va_recv hK hP (ci := 2) (q0 := 10) rfl (xw_is (r := 10) (by omega) (xc_fix (r := 10) (by omega))), fun U hU hW => ⟨rfl, xPre.of hEE hP hK hE hS hU hW⟩⟩ rfl rfl hl.1 rfl (lv_room (Nat.le_of_ble_eq_true rfl)) dX1_liveDay_29 ⟨Nat.le_of_ble_eq_true rfl, Nat.le_of_ble_eq_true rfl⟩) hS (fun q _ h => XA.le hS.1 q h) (XA.le hS.1) (fun r34 x t H locs ht hvm hw hB _ _ hS => ?_)
      have hP := xB.at ht hB
      clear hB ht hvm
      obtain ⟨st35, sl36, so9⟩ := x
      obtain ⟨hG2, hL2, hso, hw⟩ := hw
      have hL : LGq sl sl36 := hL.tr hL2
      clear hL2
      obtain rfl : so = so9 := hso.symm
      have hP : va_P (dC, dI) vwCl (xw A C nb st35 sl36 so) _ := hP
      have hG : XG [1, 2, 3, 4, 5, 6, 7, 8, 9, 10, 11, 12, 13, 14, 15] st st35 := hG.tr hG2 (by decide)
      clear hG2
      clear hw
      refine lv_ior hx hb dX1_liveDay_32 ?_
      refine lv_topi (fun z37 ez37 => ?_)
      clear ez37
      refine lv_istore_n (lv' := [(2, .int z37), (4, .int (nI k26)), (3, .int (nI k1)), (0, .ref (A 10)), (1, .ref (A (36 + 20 * i)))]) hx hb dX1_liveDay_33 rfl hl (by decide) rfl (fun ls hl => ?_)
      refine lv_iinc (v := (nI (k26 + 1))) (lv' := [(4, .int (nI (k26 + 1))), (2, .int z37), (3, .int (nI k1)), (0, .ref (A 10)), (1, .ref (A (36 + 20 * i)))]) hx hb dX1_liveDay_34 hl (k := 1) rfl (nI_add k26 1) (by decide) rfl (fun ls hl => ?_)
      refine lv_goto (tgt := 13) hx hb dX1_liveDay_37 (by decide) ?_
      exact ih32 (7 - (k26 + 1)) _ _ _ _ (by omega) ⟨(k26 + 1), z37, st35, sl36, rfl, by omega, by omega, hP, hG, hL, hS, lv_sub hl [0, 2, 1, 3, 4] rfl, rfl⟩
set_option maxHeartbeats 4000000 in
set_option maxRecDepth 100000 in
theorem x_X1_live (l : Launch) (dC : Nat → ClassId) (dI : Nat → Nat → Nat) (ad : Nat → Nat) (E : EP) (hEE : EC ad E) (A : Nat → Nat) (C : Nat → ClassId) (nb sz : Nat) (hN : XN A) (st : Nat → Nat → Int32) (sl : Nat → Nat → Int64) (so : Nat → XR) (i : Nat) (va : Int32) (vb : Int32) (hi : i < 13) (hI : XI st) : Met l yX1_live wsX1_live ({ frames := 4, cells := 0, slots := 0, locals := 99 }) (va_Pc [.ref (A 10), .ref (A (36 + 20 * i)), .int va, .int vb] (xPre E dC dI A C nb sz st sl so)) (va_Qi (fun (r : Int32) (x : XT) => XG [1, 2, 3, 4, 5, 6, 7, 8, 9, 10, 11, 12, 13, 14, 15] st x.1 ∧ LGq sl x.2.1 ∧ x.2.2 = so ∧ (True)) (xB dC dI A C nb) (XA A sz)) 0 0 (XA A sz) := by
  refine Met.ofW (cc := cX1_live) (maxL := 5) (ret := (some .int)) (by decide) rfl ?_
  intro p e s m args below meth c s₁ B hml hv
  obtain ⟨rfl, hsz, hP, hK, hE⟩ := hv
  have hx := B.exec
  have hb := B.bytes
  have hr := B.returns
  have hts := atoms_spec (ws := wsX1_live) B.pre
  have hown : s.vm.findClass RX1 = some m.cls := findClass_of_methodNamed B.named
  subst hsz
  have hEv := hEE.1 _ _ _ hE
  have hS : va_S (XA A s.heap.size) s.heap s.heap [] := va_S.rf
  have hG : XG [1, 2, 3, 4, 5, 6, 7, 8, 9, 10, 11, 12, 13, 14, 15] st st := XG.rf hI
  have hl := lv_entry ([.ref (A 10), .ref (A (36 + 20 * i)), .int va, .int vb]) (n := 5) (Nat.le_of_ble_eq_true rfl)
  rw [lg_entry_eq]
  generalize (lg_sl ([.ref (A 10), .ref (A (36 + 20 * i)), .int va, .int vb]) ++ List.replicate (5 - (lg_sl ([.ref (A 10), .ref (A (36 + 20 * i)), .int va, .int vb])).length) Slot.unset).toArray = ls at hl ⊢
  have hl : lv_has ls 5 [(0, .ref (A 10)), (1, .ref (A (36 + 20 * i))), (2, .int va), (3, .int vb)] := hl
  clear hI
  have hL : LGq sl sl := LGq.rf
  refine lv_aload_n hx hb dX1_live_0 rfl (lv_at hl 0 rfl) ?_
  refine lv_iload_n hx hb dX1_live_1 rfl (lv_at hl 3 rfl) ?_
  refine va_put (D := (dC, dI)) (ci := 2) (v := .int vb) (ty := .int) (C := RX1) (T := TX1) (N := 1) hx hb hts ii_X1_live_X1 tyX1 tyX1_ok nmX1 hown hK hP (xD hN _ _ _ _ _ _) hS 10 (xw_is (r := 10) (by omega) (xc_fix (r := 10) (by omega))) rfl 0 (by decide) (hts _ mm_X1_live_1) (fun _ hh => hh) rfl (by decide +kernel) rfl rfl (Nat.le_of_ble_eq_true rfl) dX1_live_2 (fun H locs hP _ hS => ?_)
  have hP : va_P (dC, dI) vwCl (xw A C nb (up2 st 10 0 vb) sl so) H := by rw [← xset (r := 10) (k := 0) (v := vb) (xc_fix (r := 10) (by omega))]; exact hP
  obtain ⟨st1, hP, hG⟩ : ∃ y, va_P (dC, dI) vwCl (xw A C nb y sl so) H ∧ XG [1, 2, 3, 4, 5, 6, 7, 8, 9, 10, 11, 12, 13, 14, 15] st y := ⟨up2 st 10 0 vb, hP, hG.up (xz (r := 10) (k := 0) (by decide : xrg 10 0 = 0)) (xpn (c := 0) (by decide : xcl 10 0 = 0) (by decide))⟩
  refine lv_iconst (v := 0) hx hb dX1_live_5 (by decide) ?_
  refine lv_istore (lv' := [(4, .int 0), (0, .ref (A 10)), (1, .ref (A (36 + 20 * i))), (2, .int va), (3, .int vb)]) hx hb dX1_live_6 hl (by decide) rfl (fun ls hl => ?_)
  refine zz_wf (fun n stk H locs ls => ∃ k2 : Nat, ∃ st3 : Nat → Nat → Int32, ∃ sl4 : Nat → Nat → Int64, n = (va.toInt - k2).toNat ∧ 0 ≤ k2 ∧ k2 < 2147483648 ∧ va_P (dC, dI) vwCl (xw A C nb st3 sl4 so) H ∧ XG [1, 2, 3, 4, 5, 6, 7, 8, 9, 10, 11, 12, 13, 14, 15] st st3 ∧ LGq sl sl4 ∧ va_S (XA A s.heap.size) s.heap H locs ∧ lv_has ls 5 [(4, .int (nI k2)), (0, .ref (A 10)), (1, .ref (A (36 + 20 * i))), (2, .int va), (3, .int vb)] ∧ stk = []) ?_ ((va.toInt - 0).toNat) _ _ _ _ ⟨0, st1, sl, rfl, by omega, by omega, hP, hG, hL, hS, lv_sub hl [0, 1, 2, 3, 4] rfl, rfl⟩
  rintro nn stk H locs ls ⟨k2, st3, sl4, hm6, hv5_0, hv6_1, hP, hG, hL, hS, hl, rfl⟩ ih7
  refine lv_iload hx hb dX1_live_8 (lv_at hl 0 rfl) ?_
  refine lv_iload_n hx hb dX1_live_10 rfl (lv_at hl 3 rfl) ?_
  refine lv_icmp_ge (tgt := 35) hx hb dX1_live_11 (by decide) (fun c1 => ?_) (fun c1 => ?_)
  · refine lv_iload hx hb dX1_live_35 (lv_at hl 0 rfl) ?_
    exact W.iret (v := (nI k2)) hx hb hr (fun t ht hW => ⟨⟨(nI k2), (st3, sl4, so), rfl, ⟨hG, hL, rfl, trivial⟩, xB.of ht hP⟩, hS.F ht⟩) hS.2.2 dX1_live_37
  · have hqc1 := zz_ltany c1 (by omega)
    refine lv_aload_n hx hb dX1_live_14 rfl (lv_at hl 2 rfl) ?_
    refine va_getN (host := "OffTheLead") (D := (dC, dI)) (ci := 5) (v := .int (st3 (36 + 20 * i) 9)) (C := RX4) (T := TX4) (N := 12) hx hb hts ii_X1_live_X4 hown hK hP (36 + 20 * i) (xw_is (r := (36 + 20 * i)) (by omega) (xc_pk (i := i) (o := 0) (by omega) (by omega))) rfl 9 (by decide) (va_Nw.use rfl (nf_X1_15 hEv)) (fun _ hh => hh) rfl dX1_live_15 ?_
    refine lv_topi (fun z8 ez8 => ?_)
    clear ez8
    refine lv_sipush (v := 400) hx hb dX1_live_18 (by decide) ?_
    refine lv_icmp_ge (tgt := 35) hx hb dX1_live_21 (by decide) (fun c2 => ?_) (fun c2 => ?_)
    · refine lv_iload hx hb dX1_live_35 (lv_at hl 0 rfl) ?_
      exact W.iret (v := (nI k2)) hx hb hr (fun t ht hW => ⟨⟨(nI k2), (st3, sl4, so), rfl, ⟨hG, hL, rfl, trivial⟩, xB.of ht hP⟩, hS.F ht⟩) hS.2.2 dX1_live_37
    · refine lv_aload_n hx hb dX1_live_24 rfl (lv_at hl 1 rfl) ?_
      refine lv_aload_n hx hb dX1_live_25 rfl (lv_at hl 2 rfl) ?_
      refine va_callv (va_runV (As := [.ref (A (36 + 20 * i))]) (rest := []) ⟨hx, hb, hml, hown, hts⟩ (x_X1_liveDay l dC dI ad E hEE A C nb _ hN st3 sl4 so i (by omega) hG.1) (cwV 1 hts gX1_live_X1_liveDay rfl rfl rfl (by decide +kernel) ⟨Nat.le_of_ble_eq_true rfl, Nat.le_of_ble_eq_true rfl⟩) ⟨fun a U g mk q => ⟨q.1, xPre.blind hEE q.2⟩, va_recv hK hP (ci := 2) (q0 := 10) rfl (xw_is (r := 10) (by omega) (xc_fix (r := 10) (by omega))), fun U hU hW => ⟨rfl, xPre.of hEE hP hK hE hS hU hW⟩⟩ rfl rfl hl.1 rfl (lv_room (Nat.le_of_ble_eq_true rfl)) dX1_live_26 ⟨Nat.le_of_ble_eq_true rfl, Nat.le_of_ble_eq_true rfl⟩) hS (fun q _ h => XA.le hS.1 q h) (XA.le hS.1) (fun x t H locs ht hvm hw hB _ _ hS => ?_)
      have hP := xB.at ht hB
      clear hB ht hvm
      obtain ⟨st10, sl11, so9⟩ := x
      obtain ⟨hG2, hL2, hso, hw⟩ := hw
      have hL : LGq sl sl11 := hL.tr hL2
      clear hL2
      obtain rfl : so = so9 := hso.symm
      have hP : va_P (dC, dI) vwCl (xw A C nb st10 sl11 so) _ := hP
      have hG : XG [1, 2, 3, 4, 5, 6, 7, 8, 9, 10, 11, 12, 13, 14, 15] st st10 := hG.tr hG2 (by decide)
      clear hG2
      clear hw
      refine lv_iinc (v := (nI (k2 + 1))) (lv' := [(4, .int (nI (k2 + 1))), (0, .ref (A 10)), (1, .ref (A (36 + 20 * i))), (2, .int va), (3, .int vb)]) hx hb dX1_live_29 hl (k := 0) rfl (nI_add k2 1) (by decide) rfl (fun ls hl => ?_)
      refine lv_goto (tgt := 8) hx hb dX1_live_32 (by decide) ?_
      exact ih7 ((va.toInt - (k2 + 1)).toNat) _ _ _ _ (by omega) ⟨(k2 + 1), st10, sl11, rfl, by omega, by omega, hP, hG, hL, hS, lv_sub hl [0, 1, 2, 3, 4] rfl, rfl⟩
set_option maxHeartbeats 4000000 in
set_option maxRecDepth 100000 in
theorem x_X9_goodHere (l : Launch) (dC : Nat → ClassId) (dI : Nat → Nat → Nat) (ad : Nat → Nat) (E : EP) (hEE : EC ad E) (A : Nat → Nat) (C : Nat → ClassId) (nb sz : Nat) (hN : XN A) (st : Nat → Nat → Int32) (sl : Nat → Nat → Int64) (so : Nat → XR) (i : Nat) (va : Nat) (vb : Int32) (vc : Int32) (hi : i < 13) (hva : va < 5) (hI : XI st) : Met l yX9_goodHere wsX9_goodHere ({ frames := 3, cells := 0, slots := 0, locals := 65 }) (va_Pc [.ref (A (36 + 20 * i)), .int (nI va), .int vb, .int vc] (xPre E dC dI A C nb sz st sl so)) (va_Qi (fun (r : Int32) (x : XT) => x = (st, sl, so) ∧ (True)) (xB dC dI A C nb) (XA A sz)) 0 0 (XA A sz) := by
  refine Met.ofW (cc := cX9_goodHere) (maxL := 8) (ret := (some .int)) (by decide) rfl ?_
  intro p e s m args below meth c s₁ B hml hv
  obtain ⟨rfl, hsz, hP, hK, hE⟩ := hv
  have hx := B.exec
  have hb := B.bytes
  have hr := B.returns
  have hts := atoms_spec (ws := wsX9_goodHere) B.pre
  have hown : s.vm.findClass RX9 = some m.cls := findClass_of_methodNamed B.named
  subst hsz
  have hEv := hEE.1 _ _ _ hE
  have hS : va_S (XA A s.heap.size) s.heap s.heap [] := va_S.rf
  have hG : XG [1, 2, 3, 4, 5, 6, 7, 8, 9, 10, 11, 12, 13, 14, 15] st st := XG.rf hI
  have hl := lv_entry ([.ref (A (36 + 20 * i)), .int (nI va), .int vb, .int vc]) (n := 8) (Nat.le_of_ble_eq_true rfl)
  rw [lg_entry_eq]
  generalize (lg_sl ([.ref (A (36 + 20 * i)), .int (nI va), .int vb, .int vc]) ++ List.replicate (8 - (lg_sl ([.ref (A (36 + 20 * i)), .int (nI va), .int vb, .int vc])).length) Slot.unset).toArray = ls at hl ⊢
  have hl : lv_has ls 8 [(0, .ref (A (36 + 20 * i))), (1, .int (nI va)), (2, .int vb), (3, .int vc)] := hl
  clear hI
  refine lv_aload_n hx hb dX9_goodHere_0 rfl (lv_at hl 0 rfl) ?_
  refine lv_iload_n hx hb dX9_goodHere_1 rfl (lv_at hl 1 rfl) ?_
  refine va_calli (va_runV (As := [.int (nI va)]) (rest := []) ⟨hx, hb, hml, hown, hts⟩ (x_X4_troubledHours l dC dI ad E hEE A C nb _ hN st sl so i va (by omega) (by omega) hG.1) (cwV 1 hts gX9_goodHere_X4_troubledHours rfl rfl rfl (by decide +kernel) ⟨Nat.le_of_ble_eq_true rfl, Nat.le_of_ble_eq_true rfl⟩) ⟨fun a U g mk q => ⟨q.1, xPre.blind hEE q.2⟩, va_recv hK hP (ci := 5) (q0 := (36 + 20 * i)) rfl (xw_is (r := (36 + 20 * i)) (by omega) (xc_pk (i := i) (o := 0) (by omega) (by omega))), fun U hU hW => ⟨rfl, xPre.of hEE hP hK hE hS hU hW⟩⟩ rfl rfl hl.1 rfl (lv_room (Nat.le_of_ble_eq_true rfl)) dX9_goodHere_2 ⟨Nat.le_of_ble_eq_true rfl, Nat.le_of_ble_eq_true rfl⟩) hS (fun q _ h => XA.le hS.1 q h) (XA.le hS.1) (fun r1 x t H locs ht hvm hw hB _ _ hS => ?_)
  have hP := xB.at ht hB
  clear hB ht hvm
  obtain ⟨rfl, hw⟩ := hw
  have hP : va_P (dC, dI) vwCl (xw A C nb st sl so) _ := hP
  clear hw
  refine lv_istore (lv' := [(4, .int r1), (0, .ref (A (36 + 20 * i))), (1, .int (nI va)), (2, .int vb), (3, .int vc)]) hx hb dX9_goodHere_5 hl (by decide) rfl (fun ls hl => ?_)
  refine lv_iconst (v := 0) hx hb dX9_goodHere_7 (by decide) ?_
  refine lv_istore (lv' := [(5, .int 0), (4, .int r1), (0, .ref (A (36 + 20 * i))), (1, .int (nI va)), (2, .int vb), (3, .int vc)]) hx hb dX9_goodHere_8 hl (by decide) rfl (fun ls hl => ?_)
  refine lv_iconst (v := 0) hx hb dX9_goodHere_10 (by decide) ?_
  refine lv_istore (lv' := [(6, .int 0), (5, .int 0), (4, .int r1), (0, .ref (A (36 + 20 * i))), (1, .int (nI va)), (2, .int vb), (3, .int vc)]) hx hb dX9_goodHere_11 hl (by decide) rfl (fun ls hl => ?_)
  refine zz_wf (fun n stk H locs ls => ∃ k2 : Nat, ∃ z3 : Int32, n = 9 - k2 ∧ 0 ≤ k2 ∧ k2 < 9 ∧ va_P (dC, dI) vwCl (xw A C nb st sl so) H ∧ va_S (XA A s.heap.size) s.heap H locs ∧ lv_has ls 8 [(6, .int (nI k2)), (5, .int z3), (4, .int r1), (0, .ref (A (36 + 20 * i))), (1, .int (nI va)), (2, .int vb), (3, .int vc)] ∧ stk = []) ?_ (9 - 0) _ _ _ _ ⟨0, 0, rfl, by omega, by omega, hP, hS, lv_sub hl [0, 1, 2, 3, 4, 5, 6] rfl, rfl⟩
  rintro nn stk H locs ls ⟨k2, z3, hm5, hv4_0, hv5_1, hP, hS, hl, rfl⟩ ih6
  refine lv_iload hx hb dX9_goodHere_13 (lv_at hl 0 rfl) ?_
  refine lv_aload_n hx hb dX9_goodHere_15 rfl (lv_at hl 3 rfl) ?_
  refine va_getN (host := "OffTheLead") (D := (dC, dI)) (ci := 5) (v := .int (st (36 + 20 * i) 6)) (C := RX4) (T := TX4) (N := 12) hx hb hts ii_X9_goodHere_X4 hown hK hP (36 + 20 * i) (xw_is (r := (36 + 20 * i)) (by omega) (xc_pk (i := i) (o := 0) (by omega) (by omega))) rfl 6 (by decide) (va_Nw.use rfl (nf_X9_17 hEv)) (fun _ hh => hh) rfl dX9_goodHere_16 ?_
  obtain ⟨n7, hn7, en7⟩ := hG.1.at (r := (36 + 20 * i)) (k := 6) (b := 9) ((xrg_pk (i := i) (o := 0) (k := 6) (by omega)).trans (by first | rfl | decide)) (by decide)
  refine zz_top (v := nI n7) (by exact en7) ?_
  clear en7
  refine lv_icmp_ge (tgt := 72) hx hb dX9_goodHere_19 (by decide) (fun c1 => ?_) (fun c1 => ?_)
  · have c1 : n7 ≤ k2 := (nI_leI (a := n7) (b := k2) (by omega) (by omega)).mp c1
    refine lv_iload hx hb dX9_goodHere_72 (lv_at hl 1 rfl) ?_
    exact W.iret (v := z3) hx hb hr (fun t ht hW => ⟨⟨z3, (st, sl, so), rfl, ⟨rfl, trivial⟩, xB.of ht hP⟩, hS.F ht⟩) hS.2.2 dX9_goodHere_74
  · have c1 : ¬ n7 ≤ k2 := fun hh => c1 ((nI_leI (a := n7) (b := k2) (by omega) (by omega)).mpr hh)
    refine lv_aload_n hx hb dX9_goodHere_22 rfl (lv_at hl 3 rfl) ?_
    refine va_getN (host := "OffTheLead") (D := (dC, dI)) (ci := 5) (v := .ref (A (36 + 20 * i + 4))) (C := RX4) (T := TX4) (N := 12) hx hb hts ii_X9_goodHere_X4 hown hK hP (36 + 20 * i) (xw_is (r := (36 + 20 * i)) (by omega) (xc_pk (i := i) (o := 0) (by omega) (by omega))) rfl 3 (by decide) (va_Nw.use rfl (nf_X9_21 hEv)) (fun _ hh => hh) rfl dX9_goodHere_23 ?_
    refine lv_iload hx hb dX9_goodHere_26 (lv_at hl 0 rfl) ?_
    refine va_aldq hx hb hK hP (36 + 20 * i + 4) (36 + 20 * i + 4) (xw_is (r := (36 + 20 * i + 4)) (by omega) (xc_pk (i := i) (o := 4) (by omega) (by omega))) (xt_is (r := (36 + 20 * i + 4)) (by omega) ((xty_pk (i := i) (o := 4) (by omega)).trans rfl)) (i := (nI k2)) (vp_in_nI (by omega) (by decide)) dX9_goodHere_28 ?_
    refine zz_topq (r := some (A (36 + 20 * i + (6 + k2)))) (by rw [nI_clamp (by omega)]; exact congrArg some (congrArg A (by omega))) ?_
    refine lv_astore (lv' := [(7, .ref (A (36 + 20 * i + (6 + k2)))), (6, .int (nI k2)), (5, .int z3), (4, .int r1), (0, .ref (A (36 + 20 * i))), (1, .int (nI va)), (2, .int vb), (3, .int vc)]) hx hb dX9_goodHere_29 hl (by decide) rfl (fun ls hl => ?_)
    refine lv_aload hx hb dX9_goodHere_31 (lv_at hl 0 rfl) ?_
    refine va_getN (host := "OffTheLead") (D := (dC, dI)) (ci := 7) (v := .int (st (36 + 20 * i + (6 + k2)) 1)) (C := RX6) (T := TX6) (N := 9) hx hb hts ii_X9_goodHere_X6 hown hK hP (36 + 20 * i + (6 + k2)) (xw_is (r := (36 + 20 * i + (6 + k2))) (by omega) (xc_person (i := i) (p := k2) (by omega) (by omega))) rfl 1 (by decide) (va_Nw.use rfl (nf_X9_25 hEv)) (fun _ hh => hh) rfl dX9_goodHere_33 ?_
    obtain ⟨n8, hn8, en8⟩ := hG.1.at (r := (36 + 20 * i + (6 + k2))) (k := 1) (b := 5) ((xrg_pe (i := i) (p := k2) (by omega)).trans (by decide)) (by decide)
    refine zz_top (v := nI n8) (by exact en8) ?_
    clear en8
    refine lv_iload_n hx hb dX9_goodHere_36 rfl (lv_at hl 5 rfl) ?_
    refine lv_icmp_ne (tgt := 66) hx hb dX9_goodHere_37 (by decide) (fun c2 => ?_) (fun c2 => ?_)
    · have c2 : ¬ n8 = va := fun hh => c2 ((nI_eq (a := n8) (b := va) (by omega) (by omega)).mpr hh)
      refine lv_iinc (v := (nI (k2 + 1))) (lv' := [(6, .int (nI (k2 + 1))), (7, .ref (A (36 + 20 * i + (6 + k2)))), (5, .int z3), (4, .int r1), (0, .ref (A (36 + 20 * i))), (1, .int (nI va)), (2, .int vb), (3, .int vc)]) hx hb dX9_goodHere_66 hl (k := 1) rfl (nI_add k2 1) (by decide) rfl (fun ls hl => ?_)
      refine lv_goto (tgt := 13) hx hb dX9_goodHere_69 (by decide) ?_
      exact ih6 (9 - (k2 + 1)) _ _ _ _ (by omega) ⟨(k2 + 1), z3, rfl, by omega, by omega, hP, hS, lv_sub hl [0, 2, 3, 4, 5, 6, 7] rfl, rfl⟩
    · have c2 : n8 = va := (nI_eq (a := n8) (b := va) (by omega) (by omega)).mp c2
      refine lv_iload_n hx hb dX9_goodHere_40 rfl (lv_at hl 6 rfl) ?_
      refine lv_if_ne (tgt := 52) hx hb dX9_goodHere_41 (by decide) (fun c3 => ?_) (fun c3 => ?_)
      · refine lv_iload hx hb dX9_goodHere_52 (lv_at hl 2 rfl) ?_
        refine lv_aload_n hx hb dX9_goodHere_54 rfl (lv_at hl 4 rfl) ?_
        refine lv_iload hx hb dX9_goodHere_55 (lv_at hl 1 rfl) ?_
        refine lv_iload_n hx hb dX9_goodHere_57 rfl (lv_at hl 7 rfl) ?_
        refine lv_iload hx hb dX9_goodHere_58 (lv_at hl 3 rfl) ?_
        refine va_calli (va_runV (As := [.int (nI k2), .int vc, .int r1]) (rest := [.int z3]) ⟨hx, hb, hml, hown, hts⟩ (x_X4_goodIf l dC dI ad E hEE A C nb _ hN st sl so i k2 vc r1 (by omega) (by omega) hG.1) (cwV 3 hts gX9_goodHere_X4_goodIf rfl rfl rfl (by decide +kernel) ⟨Nat.le_of_ble_eq_true rfl, Nat.le_of_ble_eq_true rfl⟩) ⟨fun a U g mk q => ⟨q.1, xPre.blind hEE q.2⟩, va_recv hK hP (ci := 5) (q0 := (36 + 20 * i)) rfl (xw_is (r := (36 + 20 * i)) (by omega) (xc_pk (i := i) (o := 0) (by omega) (by omega))), fun U hU hW => ⟨rfl, xPre.of hEE hP hK hE hS hU hW⟩⟩ rfl rfl hl.1 rfl (lv_room (Nat.le_of_ble_eq_true rfl)) dX9_goodHere_60 ⟨Nat.le_of_ble_eq_true rfl, Nat.le_of_ble_eq_true rfl⟩) hS (fun q _ h => XA.le hS.1 q h) (XA.le hS.1) (fun r9 x t H locs ht hvm hw hB _ _ hS => ?_)
        have hP := xB.at ht hB
        clear hB ht hvm
        obtain ⟨rfl, hw⟩ := hw
        have hP : va_P (dC, dI) vwCl (xw A C nb st sl so) _ := hP
        clear hw
        refine lv_iadd hx hb dX9_goodHere_63 ?_
        refine lv_topi (fun z10 ez10 => ?_)
        clear ez10
        refine lv_istore (lv' := [(5, .int z10), (7, .ref (A (36 + 20 * i + (6 + k2)))), (6, .int (nI k2)), (4, .int r1), (0, .ref (A (36 + 20 * i))), (1, .int (nI va)), (2, .int vb), (3, .int vc)]) hx hb dX9_goodHere_64 hl (by decide) rfl (fun ls hl => ?_)
        refine lv_iinc (v := (nI (k2 + 1))) (lv' := [(6, .int (nI (k2 + 1))), (5, .int z10), (7, .ref (A (36 + 20 * i + (6 + k2)))), (4, .int r1), (0, .ref (A (36 + 20 * i))), (1, .int (nI va)), (2, .int vb), (3, .int vc)]) hx hb dX9_goodHere_66 hl (k := 2) rfl (nI_add k2 1) (by decide) rfl (fun ls hl => ?_)
        refine lv_goto (tgt := 13) hx hb dX9_goodHere_69 (by decide) ?_
        exact ih6 (9 - (k2 + 1)) _ _ _ _ (by omega) ⟨(k2 + 1), z10, rfl, by omega, by omega, hP, hS, lv_sub hl [0, 1, 3, 4, 5, 6, 7] rfl, rfl⟩
      · refine lv_aload hx hb dX9_goodHere_44 (lv_at hl 0 rfl) ?_
        refine va_getN (host := "OffTheLead") (D := (dC, dI)) (ci := 7) (v := .int (st (36 + 20 * i + (6 + k2)) 5)) (C := RX6) (T := TX6) (N := 9) hx hb hts ii_X9_goodHere_X6 hown hK hP (36 + 20 * i + (6 + k2)) (xw_is (r := (36 + 20 * i + (6 + k2))) (by omega) (xc_person (i := i) (p := k2) (by omega) (by omega))) rfl 5 (by decide) (va_Nw.use rfl (nf_X9_30 hEv)) (fun _ hh => hh) rfl dX9_goodHere_46 ?_
        refine lv_topi (fun z11 ez11 => ?_)
        clear ez11
        refine lv_if_ne (tgt := 66) hx hb dX9_goodHere_49 (by decide) (fun c4 => ?_) (fun c4 => ?_)
        · refine lv_iinc (v := (nI (k2 + 1))) (lv' := [(6, .int (nI (k2 + 1))), (7, .ref (A (36 + 20 * i + (6 + k2)))), (5, .int z3), (4, .int r1), (0, .ref (A (36 + 20 * i))), (1, .int (nI va)), (2, .int vb), (3, .int vc)]) hx hb dX9_goodHere_66 hl (k := 1) rfl (nI_add k2 1) (by decide) rfl (fun ls hl => ?_)
          refine lv_goto (tgt := 13) hx hb dX9_goodHere_69 (by decide) ?_
          exact ih6 (9 - (k2 + 1)) _ _ _ _ (by omega) ⟨(k2 + 1), z3, rfl, by omega, by omega, hP, hS, lv_sub hl [0, 2, 3, 4, 5, 6, 7] rfl, rfl⟩
        · refine lv_iload hx hb dX9_goodHere_52 (lv_at hl 2 rfl) ?_
          refine lv_aload_n hx hb dX9_goodHere_54 rfl (lv_at hl 4 rfl) ?_
          refine lv_iload hx hb dX9_goodHere_55 (lv_at hl 1 rfl) ?_
          refine lv_iload_n hx hb dX9_goodHere_57 rfl (lv_at hl 7 rfl) ?_
          refine lv_iload hx hb dX9_goodHere_58 (lv_at hl 3 rfl) ?_
          refine va_calli (va_runV (As := [.int (nI k2), .int vc, .int r1]) (rest := [.int z3]) ⟨hx, hb, hml, hown, hts⟩ (x_X4_goodIf l dC dI ad E hEE A C nb _ hN st sl so i k2 vc r1 (by omega) (by omega) hG.1) (cwV 3 hts gX9_goodHere_X4_goodIf rfl rfl rfl (by decide +kernel) ⟨Nat.le_of_ble_eq_true rfl, Nat.le_of_ble_eq_true rfl⟩) ⟨fun a U g mk q => ⟨q.1, xPre.blind hEE q.2⟩, va_recv hK hP (ci := 5) (q0 := (36 + 20 * i)) rfl (xw_is (r := (36 + 20 * i)) (by omega) (xc_pk (i := i) (o := 0) (by omega) (by omega))), fun U hU hW => ⟨rfl, xPre.of hEE hP hK hE hS hU hW⟩⟩ rfl rfl hl.1 rfl (lv_room (Nat.le_of_ble_eq_true rfl)) dX9_goodHere_60 ⟨Nat.le_of_ble_eq_true rfl, Nat.le_of_ble_eq_true rfl⟩) hS (fun q _ h => XA.le hS.1 q h) (XA.le hS.1) (fun r12 x t H locs ht hvm hw hB _ _ hS => ?_)
          have hP := xB.at ht hB
          clear hB ht hvm
          obtain ⟨rfl, hw⟩ := hw
          have hP : va_P (dC, dI) vwCl (xw A C nb st sl so) _ := hP
          clear hw
          refine lv_iadd hx hb dX9_goodHere_63 ?_
          refine lv_topi (fun z13 ez13 => ?_)
          clear ez13
          refine lv_istore (lv' := [(5, .int z13), (7, .ref (A (36 + 20 * i + (6 + k2)))), (6, .int (nI k2)), (4, .int r1), (0, .ref (A (36 + 20 * i))), (1, .int (nI va)), (2, .int vb), (3, .int vc)]) hx hb dX9_goodHere_64 hl (by decide) rfl (fun ls hl => ?_)
          refine lv_iinc (v := (nI (k2 + 1))) (lv' := [(6, .int (nI (k2 + 1))), (5, .int z13), (7, .ref (A (36 + 20 * i + (6 + k2)))), (4, .int r1), (0, .ref (A (36 + 20 * i))), (1, .int (nI va)), (2, .int vb), (3, .int vc)]) hx hb dX9_goodHere_66 hl (k := 2) rfl (nI_add k2 1) (by decide) rfl (fun ls hl => ?_)
          refine lv_goto (tgt := 13) hx hb dX9_goodHere_69 (by decide) ?_
          exact ih6 (9 - (k2 + 1)) _ _ _ _ (by omega) ⟨(k2 + 1), z13, rfl, by omega, by omega, hP, hS, lv_sub hl [0, 1, 3, 4, 5, 6, 7] rfl, rfl⟩
set_option maxHeartbeats 4000000 in
set_option maxRecDepth 100000 in
theorem x_X9_bestFence (l : Launch) (dC : Nat → ClassId) (dI : Nat → Nat → Nat) (ad : Nat → Nat) (E : EP) (hEE : EC ad E) (A : Nat → Nat) (C : Nat → ClassId) (nb sz : Nat) (hN : XN A) (st : Nat → Nat → Int32) (sl : Nat → Nat → Int64) (so : Nat → XR) (i : Nat) (hi : i < 13) (hI : XI st) : Met l yX9_bestFence wsX9_bestFence ({ frames := 5, cells := 0, slots := 0, locals := 110 }) (va_Pc [.ref (A (36 + 20 * i))] (xPre E dC dI A C nb sz st sl so)) (va_Qi (fun (r : Int32) (x : XT) => XG [1, 2, 3, 4, 5, 6, 7, 8, 9, 10, 11, 12, 13, 14, 15] st x.1 ∧ LGq sl x.2.1 ∧ x.2.2 = so ∧ (True)) (xB dC dI A C nb) (XA A sz)) 0 0 (XA A sz) := by
  refine Met.ofW (cc := cX9_bestFence) (maxL := 6) (ret := (some .int)) (by decide) rfl ?_
  intro p e s m args below meth c s₁ B hml hv
  obtain ⟨rfl, hsz, hP, hK, hE⟩ := hv
  have hx := B.exec
  have hb := B.bytes
  have hr := B.returns
  have hts := atoms_spec (ws := wsX9_bestFence) B.pre
  have hown : s.vm.findClass RX9 = some m.cls := findClass_of_methodNamed B.named
  subst hsz
  have hEv := hEE.1 _ _ _ hE
  have hS : va_S (XA A s.heap.size) s.heap s.heap [] := va_S.rf
  have hG : XG [1, 2, 3, 4, 5, 6, 7, 8, 9, 10, 11, 12, 13, 14, 15] st st := XG.rf hI
  have hl := lv_entry ([.ref (A (36 + 20 * i))]) (n := 6) (Nat.le_of_ble_eq_true rfl)
  rw [lg_entry_eq]
  generalize (lg_sl ([.ref (A (36 + 20 * i))]) ++ List.replicate (6 - (lg_sl ([.ref (A (36 + 20 * i))])).length) Slot.unset).toArray = ls at hl ⊢
  have hl : lv_has ls 6 [(0, .ref (A (36 + 20 * i)))] := hl
  clear hI
  have hL : LGq sl sl := LGq.rf
  refine lv_iconst (v := (-1)) hx hb dX9_bestFence_0 (by decide) ?_
  refine lv_istore_n (lv' := [(1, .int (-1)), (0, .ref (A (36 + 20 * i)))]) hx hb dX9_bestFence_1 rfl hl (by decide) rfl (fun ls hl => ?_)
  refine lv_iconst (v := (-1)) hx hb dX9_bestFence_2 (by decide) ?_
  refine lv_istore_n (lv' := [(2, .int (-1)), (1, .int (-1)), (0, .ref (A (36 + 20 * i)))]) hx hb dX9_bestFence_3 rfl hl (by decide) rfl (fun ls hl => ?_)
  refine lv_iconst (v := 0) hx hb dX9_bestFence_4 (by decide) ?_
  refine lv_istore_n (lv' := [(3, .int 0), (2, .int (-1)), (1, .int (-1)), (0, .ref (A (36 + 20 * i)))]) hx hb dX9_bestFence_5 rfl hl (by decide) rfl (fun ls hl => ?_)
  refine zz_wf (fun n stk H locs ls => ∃ k1 : Nat, ∃ z2 : Int32, ∃ z3 : Int32, ∃ st4 : Nat → Nat → Int32, ∃ sl5 : Nat → Nat → Int64, n = 6 - k1 ∧ 0 ≤ k1 ∧ k1 < 6 ∧ va_P (dC, dI) vwCl (xw A C nb st4 sl5 so) H ∧ XG [1, 2, 3, 4, 5, 6, 7, 8, 9, 10, 11, 12, 13, 14, 15] st st4 ∧ LGq sl sl5 ∧ va_S (XA A s.heap.size) s.heap H locs ∧ lv_has ls 6 [(3, .int (nI k1)), (2, .int z2), (1, .int z3), (0, .ref (A (36 + 20 * i)))] ∧ stk = []) ?_ (6 - 0) _ _ _ _ ⟨0, (-1), (-1), st, sl, rfl, by omega, by omega, hP, hG, hL, hS, lv_sub hl [0, 1, 2, 3] rfl, rfl⟩
  rintro nn stk H locs ls ⟨k1, z2, z3, st4, sl5, hm7, hv6_0, hv7_1, hP, hG, hL, hS, hl, rfl⟩ ih8
  refine lv_iload_n hx hb dX9_bestFence_6 rfl (lv_at hl 0 rfl) ?_
  refine lv_aload_n hx hb dX9_bestFence_7 rfl (lv_at hl 3 rfl) ?_
  refine va_getN (host := "OffTheLead") (D := (dC, dI)) (ci := 5) (v := .int (st4 (36 + 20 * i) 5)) (C := RX4) (T := TX4) (N := 12) hx hb hts ii_X9_bestFence_X4 hown hK hP (36 + 20 * i) (xw_is (r := (36 + 20 * i)) (by omega) (xc_pk (i := i) (o := 0) (by omega) (by omega))) rfl 5 (by decide) (va_Nw.use rfl (nf_X9_37 hEv)) (fun _ hh => hh) rfl dX9_bestFence_8 ?_
  obtain ⟨n9, hn9, en9⟩ := hG.1.at (r := (36 + 20 * i)) (k := 5) (b := 6) ((xrg_pk (i := i) (o := 0) (k := 5) (by omega)).trans (by first | rfl | decide)) (by decide)
  refine zz_top (v := nI n9) (by exact en9) ?_
  clear en9
  refine lv_icmp_ge (tgt := 61) hx hb dX9_bestFence_11 (by decide) (fun c1 => ?_) (fun c1 => ?_)
  · have c1 : n9 ≤ k1 := (nI_leI (a := n9) (b := k1) (by omega) (by omega)).mp c1
    refine lv_iload_n hx hb dX9_bestFence_61 rfl (lv_at hl 2 rfl) ?_
    exact W.iret (v := z3) hx hb hr (fun t ht hW => ⟨⟨z3, (st4, sl5, so), rfl, ⟨hG, hL, rfl, trivial⟩, xB.of ht hP⟩, hS.F ht⟩) hS.2.2 dX9_bestFence_62
  · have c1 : ¬ n9 ≤ k1 := fun hh => c1 ((nI_leI (a := n9) (b := k1) (by omega) (by omega)).mpr hh)
    refine lv_aload_n hx hb dX9_bestFence_14 rfl (lv_at hl 3 rfl) ?_
    refine va_getN (host := "OffTheLead") (D := (dC, dI)) (ci := 5) (v := .ref (A (36 + 20 * i + 3))) (C := RX4) (T := TX4) (N := 12) hx hb hts ii_X9_bestFence_X4 hown hK hP (36 + 20 * i) (xw_is (r := (36 + 20 * i)) (by omega) (xc_pk (i := i) (o := 0) (by omega) (by omega))) rfl 2 (by decide) (va_Nw.use rfl (nf_X9_40 hEv)) (fun _ hh => hh) rfl dX9_bestFence_15 ?_
    refine lv_iload_n hx hb dX9_bestFence_18 rfl (lv_at hl 0 rfl) ?_
    refine va_zald hx hb hK hP (36 + 20 * i + 3) (36 + 20 * i + 3) (xw_is (r := (36 + 20 * i + 3)) (by omega) (xc_pk (i := i) (o := 3) (by omega) (by omega))) (xt_is (r := (36 + 20 * i + 3)) (by omega) ((xty_pk (i := i) (o := 3) (by omega)).trans rfl)) (i := (nI k1)) (vp_in_nI (by omega) (by decide)) dX9_bestFence_19 ?_
    refine lv_topi (fun z10 ez10 => ?_)
    clear ez10
    refine lv_istore (lv' := [(4, .int z10), (3, .int (nI k1)), (2, .int z2), (1, .int z3), (0, .ref (A (36 + 20 * i)))]) hx hb dX9_bestFence_20 hl (by decide) rfl (fun ls hl => ?_)
    refine lv_aload_n hx hb dX9_bestFence_22 rfl (lv_at hl 4 rfl) ?_
    refine va_getN (host := "OffTheLead") (D := (dC, dI)) (ci := 5) (v := .ref (A (36 + 20 * i + 3))) (C := RX4) (T := TX4) (N := 12) hx hb hts ii_X9_bestFence_X4 hown hK hP (36 + 20 * i) (xw_is (r := (36 + 20 * i)) (by omega) (xc_pk (i := i) (o := 0) (by omega) (by omega))) rfl 2 (by decide) (va_Nw.use rfl (nf_X9_40 hEv)) (fun _ hh => hh) rfl dX9_bestFence_23 ?_
    refine lv_iload_n hx hb dX9_bestFence_26 rfl (lv_at hl 1 rfl) ?_
    refine lv_iconst (v := 1) hx hb dX9_bestFence_27 (by decide) ?_
    refine va_zast hx hb hK hP (xD hN _ _ _ _ _ _) hS (36 + 20 * i + 3) (36 + 20 * i + 3) (xw_is (r := (36 + 20 * i + 3)) (by omega) (xc_pk (i := i) (o := 3) (by omega) (by omega))) (xt_is (r := (36 + 20 * i + 3)) (by omega) ((xty_pk (i := i) (o := 3) (by omega)).trans rfl)) (i := (nI k1)) (vp_in_nI (by omega) (by decide)) dX9_bestFence_28 (fun H locs hP _ hS => ?_)
    rw [nI_clamp (by omega)] at hP
    have hP : va_P (dC, dI) vwCl (xw A C nb (up2 st4 (36 + 20 * i + 3) k1 1) sl5 so) H := by rw [← xset (r := (36 + 20 * i + 3)) (k := k1) (v := 1) (xc_pk (i := i) (o := 3) (by omega) (by omega))]; exact hP
    obtain ⟨st11, hP, hG⟩ : ∃ y, va_P (dC, dI) vwCl (xw A C nb y sl5 so) H ∧ XG [1, 2, 3, 4, 5, 6, 7, 8, 9, 10, 11, 12, 13, 14, 15] st y := ⟨up2 st4 (36 + 20 * i + 3) k1 1, hP, hG.up (xz (r := (36 + 20 * i + 3)) (k := k1) ((xrg_pk (i := i) (o := 3) (k := k1) (by omega)).trans (by first | rfl | decide))) (xpn (c := 0) ((xcl_pk (i := i) (o := 3) (k := k1) (by omega)).trans (by first | rfl | decide)) (by decide))⟩
    refine lv_aload_n hx hb dX9_bestFence_29 rfl (lv_at hl 4 rfl) ?_
    refine lv_iconst (v := 1) hx hb dX9_bestFence_30 (by decide) ?_
    refine va_calli (va_runV (As := [.int 1]) (rest := []) ⟨hx, hb, hml, hown, hts⟩ (x_X4_goodOfAll l dC dI ad E hEE A C nb _ hN st11 sl5 so i 1 (by omega) hG.1) (cwV 1 hts gX9_bestFence_X4_goodOfAll rfl rfl rfl (by decide +kernel) ⟨Nat.le_of_ble_eq_true rfl, Nat.le_of_ble_eq_true rfl⟩) ⟨fun a U g mk q => ⟨q.1, xPre.blind hEE q.2⟩, va_recv hK hP (ci := 5) (q0 := (36 + 20 * i)) rfl (xw_is (r := (36 + 20 * i)) (by omega) (xc_pk (i := i) (o := 0) (by omega) (by omega))), fun U hU hW => ⟨rfl, xPre.of hEE hP hK hE hS hU hW⟩⟩ rfl rfl hl.1 rfl (lv_room (Nat.le_of_ble_eq_true rfl)) dX9_bestFence_31 ⟨Nat.le_of_ble_eq_true rfl, Nat.le_of_ble_eq_true rfl⟩) hS (fun q _ h => XA.le hS.1 q h) (XA.le hS.1) (fun r12 x t H locs ht hvm hw hB _ _ hS => ?_)
    have hP := xB.at ht hB
    clear hB ht hvm
    obtain ⟨rfl, hw⟩ := hw
    have hP : va_P (dC, dI) vwCl (xw A C nb st11 sl5 so) _ := hP
    clear hw
    refine lv_istore (lv' := [(5, .int r12), (4, .int z10), (3, .int (nI k1)), (2, .int z2), (1, .int z3), (0, .ref (A (36 + 20 * i)))]) hx hb dX9_bestFence_34 hl (by decide) rfl (fun ls hl => ?_)
    refine lv_aload_n hx hb dX9_bestFence_36 rfl (lv_at hl 5 rfl) ?_
    refine va_getN (host := "OffTheLead") (D := (dC, dI)) (ci := 5) (v := .ref (A (36 + 20 * i + 3))) (C := RX4) (T := TX4) (N := 12) hx hb hts ii_X9_bestFence_X4 hown hK hP (36 + 20 * i) (xw_is (r := (36 + 20 * i)) (by omega) (xc_pk (i := i) (o := 0) (by omega) (by omega))) rfl 2 (by decide) (va_Nw.use rfl (nf_X9_40 hEv)) (fun _ hh => hh) rfl dX9_bestFence_37 ?_
    refine lv_iload_n hx hb dX9_bestFence_40 rfl (lv_at hl 2 rfl) ?_
    refine lv_iload hx hb dX9_bestFence_41 (lv_at hl 1 rfl) ?_
    refine va_zast hx hb hK hP (xD hN _ _ _ _ _ _) hS (36 + 20 * i + 3) (36 + 20 * i + 3) (xw_is (r := (36 + 20 * i + 3)) (by omega) (xc_pk (i := i) (o := 3) (by omega) (by omega))) (xt_is (r := (36 + 20 * i + 3)) (by omega) ((xty_pk (i := i) (o := 3) (by omega)).trans rfl)) (i := (nI k1)) (vp_in_nI (by omega) (by decide)) dX9_bestFence_43 (fun H locs hP _ hS => ?_)
    rw [nI_clamp (by omega)] at hP
    obtain ⟨z13, ez13⟩ : ∃ y : Int32, y = vp_nar .boolean z10 := ⟨_, rfl⟩
    rw [← ez13] at hP
    have hP : va_P (dC, dI) vwCl (xw A C nb (up2 st11 (36 + 20 * i + 3) k1 z13) sl5 so) H := by rw [← xset (r := (36 + 20 * i + 3)) (k := k1) (v := z13) (xc_pk (i := i) (o := 3) (by omega) (by omega))]; exact hP
    obtain ⟨st14, hP, hG⟩ : ∃ y, va_P (dC, dI) vwCl (xw A C nb y sl5 so) H ∧ XG [1, 2, 3, 4, 5, 6, 7, 8, 9, 10, 11, 12, 13, 14, 15] st y := ⟨up2 st11 (36 + 20 * i + 3) k1 z13, hP, hG.up (xz (r := (36 + 20 * i + 3)) (k := k1) ((xrg_pk (i := i) (o := 3) (k := k1) (by omega)).trans (by first | rfl | decide))) (xpn (c := 0) ((xcl_pk (i := i) (o := 3) (k := k1) (by omega)).trans (by first | rfl | decide)) (by decide))⟩
    refine lv_iload hx hb dX9_bestFence_44 (lv_at hl 0 rfl) ?_
    refine lv_iload_n hx hb dX9_bestFence_46 rfl (lv_at hl 3 rfl) ?_
    refine lv_icmp_le (tgt := 55) hx hb dX9_bestFence_47 (by decide) (fun c2 => ?_) (fun c2 => ?_)
    · refine lv_iinc (v := (nI (k1 + 1))) (lv' := [(3, .int (nI (k1 + 1))), (5, .int r12), (4, .int z10), (2, .int z2), (1, .int z3), (0, .ref (A (36 + 20 * i)))]) hx hb dX9_bestFence_55 hl (k := 2) rfl (nI_add k1 1) (by decide) rfl (fun ls hl => ?_)
      refine lv_goto (tgt := 6) hx hb dX9_bestFence_58 (by decide) ?_
      exact ih8 (6 - (k1 + 1)) _ _ _ _ (by omega) ⟨(k1 + 1), z2, z3, st14, sl5, rfl, by omega, by omega, hP, hG, hL, hS, lv_sub hl [0, 3, 4, 5] rfl, rfl⟩
    · refine lv_iload hx hb dX9_bestFence_50 (lv_at hl 0 rfl) ?_
      refine lv_istore_n (lv' := [(2, .int r12), (5, .int r12), (4, .int z10), (3, .int (nI k1)), (1, .int z3), (0, .ref (A (36 + 20 * i)))]) hx hb dX9_bestFence_52 rfl hl (by decide) rfl (fun ls hl => ?_)
      refine lv_iload_n hx hb dX9_bestFence_53 rfl (lv_at hl 3 rfl) ?_
      refine lv_istore_n (lv' := [(1, .int (nI k1)), (2, .int r12), (5, .int r12), (4, .int z10), (3, .int (nI k1)), (0, .ref (A (36 + 20 * i)))]) hx hb dX9_bestFence_54 rfl hl (by decide) rfl (fun ls hl => ?_)
      refine lv_iinc (v := (nI (k1 + 1))) (lv' := [(3, .int (nI (k1 + 1))), (1, .int (nI k1)), (2, .int r12), (5, .int r12), (4, .int z10), (0, .ref (A (36 + 20 * i)))]) hx hb dX9_bestFence_55 hl (k := 4) rfl (nI_add k1 1) (by decide) rfl (fun ls hl => ?_)
      refine lv_goto (tgt := 6) hx hb dX9_bestFence_58 (by decide) ?_
      exact ih8 (6 - (k1 + 1)) _ _ _ _ (by omega) ⟨(k1 + 1), r12, (nI k1), st14, sl5, rfl, by omega, by omega, hP, hG, hL, hS, lv_sub hl [0, 2, 1, 5] rfl, rfl⟩
set_option maxHeartbeats 4000000 in
set_option maxRecDepth 100000 in
theorem x_X9_goRound (l : Launch) (dC : Nat → ClassId) (dI : Nat → Nat → Nat) (ad : Nat → Nat) (E : EP) (hEE : EC ad E) (A : Nat → Nat) (C : Nat → ClassId) (nb sz : Nat) (hN : XN A) (st : Nat → Nat → Int32) (sl : Nat → Nat → Int64) (so : Nat → XR) (i : Nat) (hi : i < 13) (hI : XI st) : Met l yX9_goRound wsX9_goRound ({ frames := 4, cells := 0, slots := 0, locals := 87 }) (va_Pc [.ref (A (36 + 20 * i))] (xPre E dC dI A C nb sz st sl so)) (va_Qi (fun (r : Int32) (x : XT) => XG [1, 2, 3, 4, 5, 6, 7, 8, 9, 10, 11, 12, 13, 14, 15] st x.1 ∧ LGq sl x.2.1 ∧ x.2.2 = so ∧ (True)) (xB dC dI A C nb) (XA A sz)) 0 0 (XA A sz) := by
  refine Met.ofW (cc := cX9_goRound) (maxL := 7) (ret := (some .boolean)) (by decide) rfl ?_
  intro p e s m args below meth c s₁ B hml hv
  obtain ⟨rfl, hsz, hP, hK, hE⟩ := hv
  have hx := B.exec
  have hb := B.bytes
  have hr := B.returns
  have hts := atoms_spec (ws := wsX9_goRound) B.pre
  have hown : s.vm.findClass RX9 = some m.cls := findClass_of_methodNamed B.named
  subst hsz
  have hEv := hEE.1 _ _ _ hE
  have hS : va_S (XA A s.heap.size) s.heap s.heap [] := va_S.rf
  have hG : XG [1, 2, 3, 4, 5, 6, 7, 8, 9, 10, 11, 12, 13, 14, 15] st st := XG.rf hI
  have hl := lv_entry ([.ref (A (36 + 20 * i))]) (n := 7) (Nat.le_of_ble_eq_true rfl)
  rw [lg_entry_eq]
  generalize (lg_sl ([.ref (A (36 + 20 * i))]) ++ List.replicate (7 - (lg_sl ([.ref (A (36 + 20 * i))])).length) Slot.unset).toArray = ls at hl ⊢
  have hl : lv_has ls 7 [(0, .ref (A (36 + 20 * i)))] := hl
  clear hI
  have hL : LGq sl sl := LGq.rf
  refine lv_iconst (v := 0) hx hb dX9_goRound_0 (by decide) ?_
  refine lv_istore_n (lv' := [(1, .int 0), (0, .ref (A (36 + 20 * i)))]) hx hb dX9_goRound_1 rfl hl (by decide) rfl (fun ls hl => ?_)
  refine lv_iconst (v := 0) hx hb dX9_goRound_2 (by decide) ?_
  refine lv_istore_n (lv' := [(2, .int 0), (1, .int 0), (0, .ref (A (36 + 20 * i)))]) hx hb dX9_goRound_3 rfl hl (by decide) rfl (fun ls hl => ?_)
  refine zz_wf (fun n stk H locs ls => ∃ k1 : Nat, ∃ k2 : Nat, ∃ st3 : Nat → Nat → Int32, ∃ sl4 : Nat → Nat → Int64, n = 9 - k1 ∧ 0 ≤ k1 ∧ k1 < 9 ∧ 0 ≤ k2 ∧ k2 < 2 ∧ va_P (dC, dI) vwCl (xw A C nb st3 sl4 so) H ∧ XG [1, 2, 3, 4, 5, 6, 7, 8, 9, 10, 11, 12, 13, 14, 15] st st3 ∧ LGq sl sl4 ∧ va_S (XA A s.heap.size) s.heap H locs ∧ lv_has ls 7 [(2, .int (nI k1)), (1, .int (nI k2)), (0, .ref (A (36 + 20 * i)))] ∧ stk = []) ?_ (9 - 0) _ _ _ _ ⟨0, 0, st, sl, rfl, by omega, by omega, by omega, by omega, hP, hG, hL, hS, lv_sub hl [0, 1, 2] rfl, rfl⟩
  rintro nn stk H locs ls ⟨k1, k2, st3, sl4, hm8, hv5_0, hv6_1, hv7_2, hv8_3, hP, hG, hL, hS, hl, rfl⟩ ih9
  refine lv_iload_n hx hb dX9_goRound_4 rfl (lv_at hl 0 rfl) ?_
  refine lv_aload_n hx hb dX9_goRound_5 rfl (lv_at hl 2 rfl) ?_
  refine va_getN (host := "OffTheLead") (D := (dC, dI)) (ci := 5) (v := .int (st3 (36 + 20 * i) 6)) (C := RX4) (T := TX4) (N := 12) hx hb hts ii_X9_goRound_X4 hown hK hP (36 + 20 * i) (xw_is (r := (36 + 20 * i)) (by omega) (xc_pk (i := i) (o := 0) (by omega) (by omega))) rfl 6 (by decide) (va_Nw.use rfl (nf_X9_17 hEv)) (fun _ hh => hh) rfl dX9_goRound_6 ?_
  obtain ⟨n10, hn10, en10⟩ := hG.1.at (r := (36 + 20 * i)) (k := 6) (b := 9) ((xrg_pk (i := i) (o := 0) (k := 6) (by omega)).trans (by first | rfl | decide)) (by decide)
  refine zz_top (v := nI n10) (by exact en10) ?_
  clear en10
  refine lv_icmp_ge (tgt := 108) hx hb dX9_goRound_9 (by decide) (fun c1 => ?_) (fun c1 => ?_)
  · have c1 : n10 ≤ k1 := (nI_leI (a := n10) (b := k1) (by omega) (by omega)).mp c1
    refine lv_iload_n hx hb dX9_goRound_108 rfl (lv_at hl 1 rfl) ?_
    exact W.zret (v := (nI k2)) hx hb hr (zz_nb (by omega)) (fun t ht hW => ⟨⟨(nI k2), (st3, sl4, so), rfl, ⟨hG, hL, rfl, trivial⟩, xB.of ht hP⟩, hS.F ht⟩) hS.2.2 dX9_goRound_109
  · have c1 : ¬ n10 ≤ k1 := fun hh => c1 ((nI_leI (a := n10) (b := k1) (by omega) (by omega)).mpr hh)
    refine lv_aload_n hx hb dX9_goRound_12 rfl (lv_at hl 2 rfl) ?_
    refine va_getN (host := "OffTheLead") (D := (dC, dI)) (ci := 5) (v := .ref (A (36 + 20 * i + 4))) (C := RX4) (T := TX4) (N := 12) hx hb hts ii_X9_goRound_X4 hown hK hP (36 + 20 * i) (xw_is (r := (36 + 20 * i)) (by omega) (xc_pk (i := i) (o := 0) (by omega) (by omega))) rfl 3 (by decide) (va_Nw.use rfl (nf_X9_21 hEv)) (fun _ hh => hh) rfl dX9_goRound_13 ?_
    refine lv_iload_n hx hb dX9_goRound_16 rfl (lv_at hl 0 rfl) ?_
    refine va_aldq hx hb hK hP (36 + 20 * i + 4) (36 + 20 * i + 4) (xw_is (r := (36 + 20 * i + 4)) (by omega) (xc_pk (i := i) (o := 4) (by omega) (by omega))) (xt_is (r := (36 + 20 * i + 4)) (by omega) ((xty_pk (i := i) (o := 4) (by omega)).trans rfl)) (i := (nI k1)) (vp_in_nI (by omega) (by decide)) dX9_goRound_17 ?_
    refine zz_topq (r := some (A (36 + 20 * i + (6 + k1)))) (by rw [nI_clamp (by omega)]; exact congrArg some (congrArg A (by omega))) ?_
    refine va_getN (host := "OffTheLead") (D := (dC, dI)) (ci := 7) (v := .int (st3 (36 + 20 * i + (6 + k1)) 1)) (C := RX6) (T := TX6) (N := 9) hx hb hts ii_X9_goRound_X6 hown hK hP (36 + 20 * i + (6 + k1)) (xw_is (r := (36 + 20 * i + (6 + k1))) (by omega) (xc_person (i := i) (p := k1) (by omega) (by omega))) rfl 1 (by decide) (va_Nw.use rfl (nf_X9_25 hEv)) (fun _ hh => hh) rfl dX9_goRound_18 ?_
    obtain ⟨n11, hn11, en11⟩ := hG.1.at (r := (36 + 20 * i + (6 + k1))) (k := 1) (b := 5) ((xrg_pe (i := i) (p := k1) (by omega)).trans (by decide)) (by decide)
    refine zz_top (v := nI n11) (by exact en11) ?_
    clear en11
    refine lv_istore_n (lv' := [(3, .int (nI n11)), (2, .int (nI k1)), (1, .int (nI k2)), (0, .ref (A (36 + 20 * i)))]) hx hb dX9_goRound_21 rfl hl (by decide) rfl (fun ls hl => ?_)
    refine lv_aload_n hx hb dX9_goRound_22 rfl (lv_at hl 3 rfl) ?_
    refine lv_iload_n hx hb dX9_goRound_23 rfl (lv_at hl 1 rfl) ?_
    refine lv_iload_n hx hb dX9_goRound_24 rfl (lv_at hl 0 rfl) ?_
    refine va_calli (va_runV (As := [.int (nI k1), .int (nI n11)]) (rest := []) ⟨hx, hb, hml, hown, hts⟩ (x_X4_goodOf l dC dI ad E hEE A C nb _ hN st3 sl4 so i k1 n11 (by omega) (by omega) (by omega) hG.1) (cwV 2 hts gX9_goRound_X4_goodOf rfl rfl rfl (by decide +kernel) ⟨Nat.le_of_ble_eq_true rfl, Nat.le_of_ble_eq_true rfl⟩) ⟨fun a U g mk q => ⟨q.1, xPre.blind hEE q.2⟩, va_recv hK hP (ci := 5) (q0 := (36 + 20 * i)) rfl (xw_is (r := (36 + 20 * i)) (by omega) (xc_pk (i := i) (o := 0) (by omega) (by omega))), fun U hU hW => ⟨rfl, xPre.of hEE hP hK hE hS hU hW⟩⟩ rfl rfl hl.1 rfl (lv_room (Nat.le_of_ble_eq_true rfl)) dX9_goRound_25 ⟨Nat.le_of_ble_eq_true rfl, Nat.le_of_ble_eq_true rfl⟩) hS (fun q _ h => XA.le hS.1 q h) (XA.le hS.1) (fun r12 x t H locs ht hvm hw hB _ _ hS => ?_)
    have hP := xB.at ht hB
    clear hB ht hvm
    obtain ⟨rfl, hw⟩ := hw
    have hP : va_P (dC, dI) vwCl (xw A C nb st3 sl4 so) _ := hP
    clear hw
    refine lv_istore (lv' := [(4, .int r12), (3, .int (nI n11)), (2, .int (nI k1)), (1, .int (nI k2)), (0, .ref (A (36 + 20 * i)))]) hx hb dX9_goRound_28 hl (by decide) rfl (fun ls hl => ?_)
    refine lv_iconst (v := 0) hx hb dX9_goRound_30 (by decide) ?_
    refine lv_istore (lv' := [(5, .int 0), (4, .int r12), (3, .int (nI n11)), (2, .int (nI k1)), (1, .int (nI k2)), (0, .ref (A (36 + 20 * i)))]) hx hb dX9_goRound_31 hl (by decide) rfl (fun ls hl => ?_)
    refine zz_wf (fun n stk H locs ls => ∃ k13 : Nat, ∃ z14 : Int32, ∃ k15 : Nat, ∃ st16 : Nat → Nat → Int32, ∃ sl17 : Nat → Nat → Int64, n = 6 - k13 ∧ 0 ≤ k13 ∧ k13 < 6 ∧ 0 ≤ k15 ∧ k15 < 5 ∧ va_P (dC, dI) vwCl (xw A C nb st16 sl17 so) H ∧ XG [1, 2, 3, 4, 5, 6, 7, 8, 9, 10, 11, 12, 13, 14, 15] st st16 ∧ LGq sl sl17 ∧ va_S (XA A s.heap.size) s.heap H locs ∧ lv_has ls 7 [(5, .int (nI k13)), (4, .int z14), (3, .int (nI k15)), (2, .int (nI k1)), (1, .int (nI k2)), (0, .ref (A (36 + 20 * i)))] ∧ stk = []) ?_ (6 - 0) _ _ _ _ ⟨0, r12, n11, st3, sl4, rfl, by omega, by omega, by omega, by omega, hP, hG, hL, hS, lv_sub hl [0, 1, 2, 3, 4, 5] rfl, rfl⟩
    rintro nn stk H locs ls ⟨k13, z14, k15, st16, sl17, hm21, hv18_0, hv19_1, hv20_2, hv21_3, hP, hG, hL, hS, hl, rfl⟩ ih22
    refine lv_iload hx hb dX9_goRound_33 (lv_at hl 0 rfl) ?_
    refine lv_aload_n hx hb dX9_goRound_35 rfl (lv_at hl 5 rfl) ?_
    refine va_getN (host := "OffTheLead") (D := (dC, dI)) (ci := 5) (v := .int (st16 (36 + 20 * i) 5)) (C := RX4) (T := TX4) (N := 12) hx hb hts ii_X9_goRound_X4 hown hK hP (36 + 20 * i) (xw_is (r := (36 + 20 * i)) (by omega) (xc_pk (i := i) (o := 0) (by omega) (by omega))) rfl 5 (by decide) (va_Nw.use rfl (nf_X9_37 hEv)) (fun _ hh => hh) rfl dX9_goRound_36 ?_
    obtain ⟨n23, hn23, en23⟩ := hG.1.at (r := (36 + 20 * i)) (k := 5) (b := 6) ((xrg_pk (i := i) (o := 0) (k := 5) (by omega)).trans (by first | rfl | decide)) (by decide)
    refine zz_top (v := nI n23) (by exact en23) ?_
    clear en23
    refine lv_icmp_ge (tgt := 71) hx hb dX9_goRound_39 (by decide) (fun c2 => ?_) (fun c2 => ?_)
    · have c2 : n23 ≤ k13 := (nI_leI (a := n23) (b := k13) (by omega) (by omega)).mp c2
      refine lv_iload_n hx hb dX9_goRound_71 rfl (lv_at hl 4 rfl) ?_
      refine lv_iload_n hx hb dX9_goRound_72 rfl (lv_at hl 2 rfl) ?_
      refine lv_aload_n hx hb dX9_goRound_73 rfl (lv_at hl 5 rfl) ?_
      refine va_getN (host := "OffTheLead") (D := (dC, dI)) (ci := 5) (v := .ref (A (36 + 20 * i + 4))) (C := RX4) (T := TX4) (N := 12) hx hb hts ii_X9_goRound_X4 hown hK hP (36 + 20 * i) (xw_is (r := (36 + 20 * i)) (by omega) (xc_pk (i := i) (o := 0) (by omega) (by omega))) rfl 3 (by decide) (va_Nw.use rfl (nf_X9_21 hEv)) (fun _ hh => hh) rfl dX9_goRound_74 ?_
      refine lv_iload_n hx hb dX9_goRound_77 rfl (lv_at hl 3 rfl) ?_
      refine va_aldq hx hb hK hP (36 + 20 * i + 4) (36 + 20 * i + 4) (xw_is (r := (36 + 20 * i + 4)) (by omega) (xc_pk (i := i) (o := 4) (by omega) (by omega))) (xt_is (r := (36 + 20 * i + 4)) (by omega) ((xty_pk (i := i) (o := 4) (by omega)).trans rfl)) (i := (nI k1)) (vp_in_nI (by omega) (by decide)) dX9_goRound_78 ?_
      refine zz_topq (r := some (A (36 + 20 * i + (6 + k1)))) (by rw [nI_clamp (by omega)]; exact congrArg some (congrArg A (by omega))) ?_
      refine va_getN (host := "OffTheLead") (D := (dC, dI)) (ci := 7) (v := .int (st16 (36 + 20 * i + (6 + k1)) 1)) (C := RX6) (T := TX6) (N := 9) hx hb hts ii_X9_goRound_X6 hown hK hP (36 + 20 * i + (6 + k1)) (xw_is (r := (36 + 20 * i + (6 + k1))) (by omega) (xc_person (i := i) (p := k1) (by omega) (by omega))) rfl 1 (by decide) (va_Nw.use rfl (nf_X9_25 hEv)) (fun _ hh => hh) rfl dX9_goRound_79 ?_
      obtain ⟨n24, hn24, en24⟩ := hG.1.at (r := (36 + 20 * i + (6 + k1))) (k := 1) (b := 5) ((xrg_pe (i := i) (p := k1) (by omega)).trans (by decide)) (by decide)
      refine zz_top (v := nI n24) (by exact en24) ?_
      clear en24
      refine lv_icmp_eq (tgt := 89) hx hb dX9_goRound_82 (by decide) (fun c3 => ?_) (fun c3 => ?_)
      · have c3 : k15 = n24 := (nI_eq (a := k15) (b := n24) (by omega) (by omega)).mp c3
        refine lv_iconst (v := 0) hx hb dX9_goRound_89 (by decide) ?_
        refine lv_ior hx hb dX9_goRound_90 ?_
        have ho25 : (k2 ||| 0) < 2 ^ 1 := Nat.or_lt_two_pow (by omega) (by omega)
        refine zz_top (v := nI (k2 ||| 0)) (nI_orN k2 0) ?_
        refine lv_istore_n (lv' := [(1, .int (nI (k2 ||| 0))), (5, .int (nI k13)), (4, .int z14), (3, .int (nI k15)), (2, .int (nI k1)), (0, .ref (A (36 + 20 * i)))]) hx hb dX9_goRound_91 rfl hl (by decide) rfl (fun ls hl => ?_)
        refine lv_aload_n hx hb dX9_goRound_92 rfl (lv_at hl 5 rfl) ?_
        refine va_getN (host := "OffTheLead") (D := (dC, dI)) (ci := 5) (v := .ref (A (36 + 20 * i + 4))) (C := RX4) (T := TX4) (N := 12) hx hb hts ii_X9_goRound_X4 hown hK hP (36 + 20 * i) (xw_is (r := (36 + 20 * i)) (by omega) (xc_pk (i := i) (o := 0) (by omega) (by omega))) rfl 3 (by decide) (va_Nw.use rfl (nf_X9_21 hEv)) (fun _ hh => hh) rfl dX9_goRound_93 ?_
        refine lv_iload_n hx hb dX9_goRound_96 rfl (lv_at hl 4 rfl) ?_
        refine va_aldq hx hb hK hP (36 + 20 * i + 4) (36 + 20 * i + 4) (xw_is (r := (36 + 20 * i + 4)) (by omega) (xc_pk (i := i) (o := 4) (by omega) (by omega))) (xt_is (r := (36 + 20 * i + 4)) (by omega) ((xty_pk (i := i) (o := 4) (by omega)).trans rfl)) (i := (nI k1)) (vp_in_nI (by omega) (by decide)) dX9_goRound_97 ?_
        refine zz_topq (r := some (A (36 + 20 * i + (6 + k1)))) (by rw [nI_clamp (by omega)]; exact congrArg some (congrArg A (by omega))) ?_
        refine lv_iload_n hx hb dX9_goRound_98 rfl (lv_at hl 3 rfl) ?_
        refine va_putN (host := "OffTheLead") (D := (dC, dI)) (ci := 7) (v := .int (nI k15)) (ty := .int) (C := RX6) (T := TX6) (N := 9) hx hb hts ii_X9_goRound_X6 tyX6 tyX6_ok nmX6 hown hK hP (xD hN _ _ _ _ _ _) hS (36 + 20 * i + (6 + k1)) (xw_is (r := (36 + 20 * i + (6 + k1))) (by omega) (xc_person (i := i) (p := k1) (by omega) (by omega))) rfl 1 (by decide) (va_Nw.use rfl (nf_X9_25 hEv)) (fun _ hh => hh) rfl (by decide +kernel) rfl rfl (Nat.le_of_ble_eq_true rfl) dX9_goRound_99 (fun H locs hP _ hS => ?_)
        have hP : va_P (dC, dI) vwCl (xw A C nb (up2 st16 (36 + 20 * i + (6 + k1)) 1 (nI k15)) sl17 so) H := by rw [← xset (r := (36 + 20 * i + (6 + k1))) (k := 1) (v := (nI k15)) (xc_person (i := i) (p := k1) (by omega) (by omega))]; exact hP
        obtain ⟨st26, hP, hG⟩ : ∃ y, va_P (dC, dI) vwCl (xw A C nb y sl17 so) H ∧ XG [1, 2, 3, 4, 5, 6, 7, 8, 9, 10, 11, 12, 13, 14, 15] st y := ⟨up2 st16 (36 + 20 * i + (6 + k1)) 1 (nI k15), hP, hG.up (xn (n := k15) (b := 5) ((xrg_pe (i := i) (p := k1) (by omega)).trans (by decide)) (by omega)) (xpn (c := 0) (xcl_pe (i := i) (p := k1) (k := 1) (by omega)) (by decide))⟩
        refine lv_iinc (v := (nI (k1 + 1))) (lv' := [(2, .int (nI (k1 + 1))), (1, .int (nI (k2 ||| 0))), (5, .int (nI k13)), (4, .int z14), (3, .int (nI k15)), (0, .ref (A (36 + 20 * i)))]) hx hb dX9_goRound_102 hl (k := 4) rfl (nI_add k1 1) (by decide) rfl (fun ls hl => ?_)
        refine lv_goto (tgt := 4) hx hb dX9_goRound_105 (by decide) ?_
        exact ih9 (9 - (k1 + 1)) _ _ _ _ (by omega) ⟨(k1 + 1), (k2 ||| 0), st26, sl17, rfl, by omega, by omega, by omega, by omega, hP, hG, hL, hS, lv_sub hl [0, 1, 5] rfl, rfl⟩
      · have c3 : ¬ k15 = n24 := fun hh => c3 ((nI_eq (a := k15) (b := n24) (by omega) (by omega)).mpr hh)
        refine lv_iconst (v := 1) hx hb dX9_goRound_85 (by decide) ?_
        refine lv_goto (tgt := 90) hx hb dX9_goRound_86 (by decide) ?_
        refine lv_ior hx hb dX9_goRound_90 ?_
        have ho27 : (k2 ||| 1) < 2 ^ 1 := Nat.or_lt_two_pow (by omega) (by omega)
        refine zz_top (v := nI (k2 ||| 1)) (nI_orN k2 1) ?_
        refine lv_istore_n (lv' := [(1, .int (nI (k2 ||| 1))), (5, .int (nI k13)), (4, .int z14), (3, .int (nI k15)), (2, .int (nI k1)), (0, .ref (A (36 + 20 * i)))]) hx hb dX9_goRound_91 rfl hl (by decide) rfl (fun ls hl => ?_)
        refine lv_aload_n hx hb dX9_goRound_92 rfl (lv_at hl 5 rfl) ?_
        refine va_getN (host := "OffTheLead") (D := (dC, dI)) (ci := 5) (v := .ref (A (36 + 20 * i + 4))) (C := RX4) (T := TX4) (N := 12) hx hb hts ii_X9_goRound_X4 hown hK hP (36 + 20 * i) (xw_is (r := (36 + 20 * i)) (by omega) (xc_pk (i := i) (o := 0) (by omega) (by omega))) rfl 3 (by decide) (va_Nw.use rfl (nf_X9_21 hEv)) (fun _ hh => hh) rfl dX9_goRound_93 ?_
        refine lv_iload_n hx hb dX9_goRound_96 rfl (lv_at hl 4 rfl) ?_
        refine va_aldq hx hb hK hP (36 + 20 * i + 4) (36 + 20 * i + 4) (xw_is (r := (36 + 20 * i + 4)) (by omega) (xc_pk (i := i) (o := 4) (by omega) (by omega))) (xt_is (r := (36 + 20 * i + 4)) (by omega) ((xty_pk (i := i) (o := 4) (by omega)).trans rfl)) (i := (nI k1)) (vp_in_nI (by omega) (by decide)) dX9_goRound_97 ?_
        refine zz_topq (r := some (A (36 + 20 * i + (6 + k1)))) (by rw [nI_clamp (by omega)]; exact congrArg some (congrArg A (by omega))) ?_
        refine lv_iload_n hx hb dX9_goRound_98 rfl (lv_at hl 3 rfl) ?_
        refine va_putN (host := "OffTheLead") (D := (dC, dI)) (ci := 7) (v := .int (nI k15)) (ty := .int) (C := RX6) (T := TX6) (N := 9) hx hb hts ii_X9_goRound_X6 tyX6 tyX6_ok nmX6 hown hK hP (xD hN _ _ _ _ _ _) hS (36 + 20 * i + (6 + k1)) (xw_is (r := (36 + 20 * i + (6 + k1))) (by omega) (xc_person (i := i) (p := k1) (by omega) (by omega))) rfl 1 (by decide) (va_Nw.use rfl (nf_X9_25 hEv)) (fun _ hh => hh) rfl (by decide +kernel) rfl rfl (Nat.le_of_ble_eq_true rfl) dX9_goRound_99 (fun H locs hP _ hS => ?_)
        have hP : va_P (dC, dI) vwCl (xw A C nb (up2 st16 (36 + 20 * i + (6 + k1)) 1 (nI k15)) sl17 so) H := by rw [← xset (r := (36 + 20 * i + (6 + k1))) (k := 1) (v := (nI k15)) (xc_person (i := i) (p := k1) (by omega) (by omega))]; exact hP
        obtain ⟨st28, hP, hG⟩ : ∃ y, va_P (dC, dI) vwCl (xw A C nb y sl17 so) H ∧ XG [1, 2, 3, 4, 5, 6, 7, 8, 9, 10, 11, 12, 13, 14, 15] st y := ⟨up2 st16 (36 + 20 * i + (6 + k1)) 1 (nI k15), hP, hG.up (xn (n := k15) (b := 5) ((xrg_pe (i := i) (p := k1) (by omega)).trans (by decide)) (by omega)) (xpn (c := 0) (xcl_pe (i := i) (p := k1) (k := 1) (by omega)) (by decide))⟩
        refine lv_iinc (v := (nI (k1 + 1))) (lv' := [(2, .int (nI (k1 + 1))), (1, .int (nI (k2 ||| 1))), (5, .int (nI k13)), (4, .int z14), (3, .int (nI k15)), (0, .ref (A (36 + 20 * i)))]) hx hb dX9_goRound_102 hl (k := 4) rfl (nI_add k1 1) (by decide) rfl (fun ls hl => ?_)
        refine lv_goto (tgt := 4) hx hb dX9_goRound_105 (by decide) ?_
        exact ih9 (9 - (k1 + 1)) _ _ _ _ (by omega) ⟨(k1 + 1), (k2 ||| 1), st28, sl17, rfl, by omega, by omega, by omega, by omega, hP, hG, hL, hS, lv_sub hl [0, 1, 5] rfl, rfl⟩
    · have c2 : ¬ n23 ≤ k13 := fun hh => c2 ((nI_leI (a := n23) (b := k13) (by omega) (by omega)).mpr hh)
      refine lv_aload_n hx hb dX9_goRound_42 rfl (lv_at hl 5 rfl) ?_
      refine lv_iload_n hx hb dX9_goRound_43 rfl (lv_at hl 3 rfl) ?_
      refine lv_iload hx hb dX9_goRound_44 (lv_at hl 0 rfl) ?_
      refine va_calli (va_runV (As := [.int (nI k1), .int (nI k13)]) (rest := []) ⟨hx, hb, hml, hown, hts⟩ (x_X4_goodOf l dC dI ad E hEE A C nb _ hN st16 sl17 so i k1 k13 (by omega) (by omega) (by omega) hG.1) (cwV 2 hts gX9_goRound_X4_goodOf rfl rfl rfl (by decide +kernel) ⟨Nat.le_of_ble_eq_true rfl, Nat.le_of_ble_eq_true rfl⟩) ⟨fun a U g mk q => ⟨q.1, xPre.blind hEE q.2⟩, va_recv hK hP (ci := 5) (q0 := (36 + 20 * i)) rfl (xw_is (r := (36 + 20 * i)) (by omega) (xc_pk (i := i) (o := 0) (by omega) (by omega))), fun U hU hW => ⟨rfl, xPre.of hEE hP hK hE hS hU hW⟩⟩ rfl rfl hl.1 rfl (lv_room (Nat.le_of_ble_eq_true rfl)) dX9_goRound_46 ⟨Nat.le_of_ble_eq_true rfl, Nat.le_of_ble_eq_true rfl⟩) hS (fun q _ h => XA.le hS.1 q h) (XA.le hS.1) (fun r29 x t H locs ht hvm hw hB _ _ hS => ?_)
      have hP := xB.at ht hB
      clear hB ht hvm
      obtain ⟨rfl, hw⟩ := hw
      have hP : va_P (dC, dI) vwCl (xw A C nb st16 sl17 so) _ := hP
      clear hw
      refine lv_istore (lv' := [(6, .int r29), (5, .int (nI k13)), (4, .int z14), (3, .int (nI k15)), (2, .int (nI k1)), (1, .int (nI k2)), (0, .ref (A (36 + 20 * i)))]) hx hb dX9_goRound_49 hl (by decide) rfl (fun ls hl => ?_)
      refine lv_iload hx hb dX9_goRound_51 (lv_at hl 0 rfl) ?_
      refine lv_iload hx hb dX9_goRound_53 (lv_at hl 2 rfl) ?_
      refine lv_icmp_le (tgt := 65) hx hb dX9_goRound_55 (by decide) (fun c4 => ?_) (fun c4 => ?_)
      · refine lv_iinc (v := (nI (k13 + 1))) (lv' := [(5, .int (nI (k13 + 1))), (6, .int r29), (4, .int z14), (3, .int (nI k15)), (2, .int (nI k1)), (1, .int (nI k2)), (0, .ref (A (36 + 20 * i)))]) hx hb dX9_goRound_65 hl (k := 1) rfl (nI_add k13 1) (by decide) rfl (fun ls hl => ?_)
        refine lv_goto (tgt := 33) hx hb dX9_goRound_68 (by decide) ?_
        exact ih22 (6 - (k13 + 1)) _ _ _ _ (by omega) ⟨(k13 + 1), z14, k15, st16, sl17, rfl, by omega, by omega, by omega, by omega, hP, hG, hL, hS, lv_sub hl [0, 2, 3, 4, 5, 6] rfl, rfl⟩
      · refine lv_iload hx hb dX9_goRound_58 (lv_at hl 0 rfl) ?_
        refine lv_istore (lv' := [(4, .int r29), (6, .int r29), (5, .int (nI k13)), (3, .int (nI k15)), (2, .int (nI k1)), (1, .int (nI k2)), (0, .ref (A (36 + 20 * i)))]) hx hb dX9_goRound_60 hl (by decide) rfl (fun ls hl => ?_)
        refine lv_iload hx hb dX9_goRound_62 (lv_at hl 2 rfl) ?_
        refine lv_istore_n (lv' := [(3, .int (nI k13)), (4, .int r29), (6, .int r29), (5, .int (nI k13)), (2, .int (nI k1)), (1, .int (nI k2)), (0, .ref (A (36 + 20 * i)))]) hx hb dX9_goRound_64 rfl hl (by decide) rfl (fun ls hl => ?_)
        refine lv_iinc (v := (nI (k13 + 1))) (lv' := [(5, .int (nI (k13 + 1))), (3, .int (nI k13)), (4, .int r29), (6, .int r29), (2, .int (nI k1)), (1, .int (nI k2)), (0, .ref (A (36 + 20 * i)))]) hx hb dX9_goRound_65 hl (k := 3) rfl (nI_add k13 1) (by decide) rfl (fun ls hl => ?_)
        refine lv_goto (tgt := 33) hx hb dX9_goRound_68 (by decide) ?_
        exact ih22 (6 - (k13 + 1)) _ _ _ _ (by omega) ⟨(k13 + 1), r29, k13, st16, sl17, rfl, by omega, by omega, by omega, by omega, hP, hG, hL, hS, lv_sub hl [0, 2, 1, 4, 5, 6] rfl, rfl⟩
set_option maxHeartbeats 4000000 in
set_option maxRecDepth 100000 in
theorem x_X9_part (l : Launch) (dC : Nat → ClassId) (dI : Nat → Nat → Nat) (ad : Nat → Nat) (E : EP) (hEE : EC ad E) (A : Nat → Nat) (C : Nat → ClassId) (nb sz : Nat) (hN : XN A) (st : Nat → Nat → Int32) (sl : Nat → Nat → Int64) (so : Nat → XR) (i : Nat) (hi : i < 13) (hI : XI st) : Met l yX9_part wsX9_part ({ frames := 5, cells := 0, slots := 0, locals := 113 }) (va_Pc [.ref (A (36 + 20 * i))] (xPre E dC dI A C nb sz st sl so)) (va_Qi (fun (r : Int32) (x : XT) => XG [1, 2, 3, 4, 5, 6, 7, 8, 9, 10, 11, 12, 13, 14, 15] st x.1 ∧ LGq sl x.2.1 ∧ x.2.2 = so ∧ (True)) (xB dC dI A C nb) (XA A sz)) 0 0 (XA A sz) := by
  refine Met.ofW (cc := cX9_part) (maxL := 2) (ret := (some .int)) (by decide) rfl ?_
  intro p e s m args below meth c s₁ B hml hv
  obtain ⟨rfl, hsz, hP, hK, hE⟩ := hv
  have hx := B.exec
  have hb := B.bytes
  have hr := B.returns
  have hts := atoms_spec (ws := wsX9_part) B.pre
  have hown : s.vm.findClass RX9 = some m.cls := findClass_of_methodNamed B.named
  subst hsz
  have hEv := hEE.1 _ _ _ hE
  have hS : va_S (XA A s.heap.size) s.heap s.heap [] := va_S.rf
  have hG : XG [1, 2, 3, 4, 5, 6, 7, 8, 9, 10, 11, 12, 13, 14, 15] st st := XG.rf hI
  have hl := lv_entry ([.ref (A (36 + 20 * i))]) (n := 2) (Nat.le_of_ble_eq_true rfl)
  rw [lg_entry_eq]
  generalize (lg_sl ([.ref (A (36 + 20 * i))]) ++ List.replicate (2 - (lg_sl ([.ref (A (36 + 20 * i))])).length) Slot.unset).toArray = ls at hl ⊢
  have hl : lv_has ls 2 [(0, .ref (A (36 + 20 * i)))] := hl
  clear hI
  have hL : LGq sl sl := LGq.rf
  refine lv_iconst (v := 1) hx hb dX9_part_0 (by decide) ?_
  refine lv_istore_n (lv' := [(1, .int 1), (0, .ref (A (36 + 20 * i)))]) hx hb dX9_part_1 rfl hl (by decide) rfl (fun ls hl => ?_)
  refine zz_wf (fun n stk H locs ls => ∃ k1 : Nat, ∃ st2 : Nat → Nat → Int32, ∃ sl3 : Nat → Nat → Int64, n = 32 - k1 ∧ 1 ≤ k1 ∧ k1 < 32 ∧ va_P (dC, dI) vwCl (xw A C nb st2 sl3 so) H ∧ XG [1, 2, 3, 4, 5, 6, 7, 8, 9, 10, 11, 12, 13, 14, 15] st st2 ∧ LGq sl sl3 ∧ va_S (XA A s.heap.size) s.heap H locs ∧ lv_has ls 2 [(1, .int (nI k1)), (0, .ref (A (36 + 20 * i)))] ∧ stk = []) ?_ (32 - 1) _ _ _ _ ⟨1, st, sl, rfl, by omega, by omega, hP, hG, hL, hS, lv_sub hl [0, 1] rfl, rfl⟩
  rintro nn stk H locs ls ⟨k1, st2, sl3, hm5, hv4_0, hv5_1, hP, hG, hL, hS, hl, rfl⟩ ih6
  refine lv_iload_n hx hb dX9_part_2 rfl (lv_at hl 0 rfl) ?_
  refine lv_bipush (v := 30) hx hb dX9_part_3 (by decide) ?_
  refine lv_icmp_gt (tgt := 23) hx hb dX9_part_5 (by decide) (fun c1 => ?_) (fun c1 => ?_)
  · have c1 : 30 < k1 := (nI_ltI (a := 30) (b := k1) (by omega) (by omega)).mp c1
    refine lv_bipush (v := 30) hx hb dX9_part_23 (by decide) ?_
    exact W.iret (v := 30) hx hb hr (fun t ht hW => ⟨⟨30, (st2, sl3, so), rfl, ⟨hG, hL, rfl, trivial⟩, xB.of ht hP⟩, hS.F ht⟩) hS.2.2 dX9_part_25
  · have c1 : ¬ 30 < k1 := fun hh => c1 ((nI_ltI (a := 30) (b := k1) (by omega) (by omega)).mpr hh)
    refine lv_aload_n hx hb dX9_part_8 rfl (lv_at hl 1 rfl) ?_
    refine va_calli (va_runS (As := [.ref (A (36 + 20 * i))]) (rest := []) ⟨hx, hb, hml, hown, hts⟩ (x_X9_goRound l dC dI ad E hEE A C nb _ hN st2 sl3 so i (by omega) hG.1) (va_cwS 1 hts gX9_part_X9_goRound rfl rfl rfl (by decide +kernel) ⟨Nat.le_of_ble_eq_true rfl, Nat.le_of_ble_eq_true rfl⟩) ⟨fun a U g mk q => ⟨q.1, xPre.blind hEE q.2⟩, fun U hU hW => ⟨rfl, xPre.of hEE hP hK hE hS hU hW⟩⟩ rfl rfl hl.1 rfl (lv_room (Nat.le_of_ble_eq_true rfl)) dX9_part_9 ⟨Nat.le_of_ble_eq_true rfl, Nat.le_of_ble_eq_true rfl⟩) hS (fun q _ h => XA.le hS.1 q h) (XA.le hS.1) (fun r7 x t H locs ht hvm hw hB _ _ hS => ?_)
    have hP := xB.at ht hB
    clear hB ht hvm
    obtain ⟨st8, sl9, so9⟩ := x
    obtain ⟨hG2, hL2, hso, hw⟩ := hw
    have hL : LGq sl sl9 := hL.tr hL2
    clear hL2
    obtain rfl : so = so9 := hso.symm
    have hP : va_P (dC, dI) vwCl (xw A C nb st8 sl9 so) _ := hP
    have hG : XG [1, 2, 3, 4, 5, 6, 7, 8, 9, 10, 11, 12, 13, 14, 15] st st8 := hG.tr hG2 (by decide)
    clear hG2
    clear hw
    refine lv_if_ne (tgt := 17) hx hb dX9_part_12 (by decide) (fun c2 => ?_) (fun c2 => ?_)
    · refine lv_iinc (v := (nI (k1 + 1))) (lv' := [(1, .int (nI (k1 + 1))), (0, .ref (A (36 + 20 * i)))]) hx hb dX9_part_17 hl (k := 0) rfl (nI_add k1 1) (by decide) rfl (fun ls hl => ?_)
      refine lv_goto (tgt := 2) hx hb dX9_part_20 (by decide) ?_
      exact ih6 (32 - (k1 + 1)) _ _ _ _ (by omega) ⟨(k1 + 1), st8, sl9, rfl, by omega, by omega, hP, hG, hL, hS, lv_sub hl [0, 1] rfl, rfl⟩
    · refine lv_iload_n hx hb dX9_part_15 rfl (lv_at hl 0 rfl) ?_
      exact W.iret (v := (nI k1)) hx hb hr (fun t ht hW => ⟨⟨(nI k1), (st8, sl9, so), rfl, ⟨hG, hL, rfl, trivial⟩, xB.of ht hP⟩, hS.F ht⟩) hS.2.2 dX9_part_16
set_option maxHeartbeats 4000000 in
set_option maxRecDepth 100000 in
theorem x_X9_isFirst (l : Launch) (dC : Nat → ClassId) (dI : Nat → Nat → Nat) (ad : Nat → Nat) (E : EP) (hEE : EC ad E) (A : Nat → Nat) (C : Nat → ClassId) (nb sz : Nat) (hN : XN A) (st : Nat → Nat → Int32) (sl : Nat → Nat → Int64) (so : Nat → XR) (i : Nat) (va : Nat) (vb : Int32) (hi : i < 13) (hva : va < 8) (hI : XI st) : Met l yX9_isFirst wsX9_isFirst ({ frames := 1, cells := 0, slots := 0, locals := 22 }) (va_Pc [.ref (A (36 + 20 * i)), .int (nI va), .int vb] (xPre E dC dI A C nb sz st sl so)) (va_Qi (fun (r : Int32) (x : XT) => x = (st, sl, so) ∧ ((r = 1) ∨ (r = 0))) (xB dC dI A C nb) (XA A sz)) 0 0 (XA A sz) := by
  refine Met.ofW (cc := cX9_isFirst) (maxL := 6) (ret := (some .boolean)) (by decide) rfl ?_
  intro p e s m args below meth c s₁ B hml hv
  obtain ⟨rfl, hsz, hP, hK, hE⟩ := hv
  have hx := B.exec
  have hb := B.bytes
  have hr := B.returns
  have hts := atoms_spec (ws := wsX9_isFirst) B.pre
  have hown : s.vm.findClass RX9 = some m.cls := findClass_of_methodNamed B.named
  subst hsz
  have hEv := hEE.1 _ _ _ hE
  have hS : va_S (XA A s.heap.size) s.heap s.heap [] := va_S.rf
  have hG : XG [1, 2, 3, 4, 5, 6, 7, 8, 9, 10, 11, 12, 13, 14, 15] st st := XG.rf hI
  have hl := lv_entry ([.ref (A (36 + 20 * i)), .int (nI va), .int vb]) (n := 6) (Nat.le_of_ble_eq_true rfl)
  rw [lg_entry_eq]
  generalize (lg_sl ([.ref (A (36 + 20 * i)), .int (nI va), .int vb]) ++ List.replicate (6 - (lg_sl ([.ref (A (36 + 20 * i)), .int (nI va), .int vb])).length) Slot.unset).toArray = ls at hl ⊢
  have hl : lv_has ls 6 [(0, .ref (A (36 + 20 * i))), (1, .int (nI va)), (2, .int vb)] := hl
  clear hI
  refine lv_aload_n hx hb dX9_isFirst_0 rfl (lv_at hl 0 rfl) ?_
  refine va_getN (host := "OffTheLead") (D := (dC, dI)) (ci := 5) (v := .ref (A (36 + 20 * i + 4))) (C := RX4) (T := TX4) (N := 12) hx hb hts ii_X9_isFirst_X4 hown hK hP (36 + 20 * i) (xw_is (r := (36 + 20 * i)) (by omega) (xc_pk (i := i) (o := 0) (by omega) (by omega))) rfl 3 (by decide) (va_Nw.use rfl (nf_X9_21 hEv)) (fun _ hh => hh) rfl dX9_isFirst_1 ?_
  refine lv_iload_n hx hb dX9_isFirst_4 rfl (lv_at hl 1 rfl) ?_
  refine va_aldq hx hb hK hP (36 + 20 * i + 4) (36 + 20 * i + 4) (xw_is (r := (36 + 20 * i + 4)) (by omega) (xc_pk (i := i) (o := 4) (by omega) (by omega))) (xt_is (r := (36 + 20 * i + 4)) (by omega) ((xty_pk (i := i) (o := 4) (by omega)).trans rfl)) (i := (nI va)) (vp_in_nI (by omega) (by decide)) dX9_isFirst_5 ?_
  refine zz_topq (r := some (A (36 + 20 * i + (6 + va)))) (by rw [nI_clamp (by omega)]; exact congrArg some (congrArg A (by omega))) ?_
  refine lv_astore_n (lv' := [(3, .ref (A (36 + 20 * i + (6 + va)))), (0, .ref (A (36 + 20 * i))), (1, .int (nI va)), (2, .int vb)]) hx hb dX9_isFirst_6 rfl hl (by decide) rfl (fun ls hl => ?_)
  refine lv_aload_n hx hb dX9_isFirst_7 rfl (lv_at hl 0 rfl) ?_
  refine lv_aload_n hx hb dX9_isFirst_8 rfl (lv_at hl 0 rfl) ?_
  refine va_getN (host := "OffTheLead") (D := (dC, dI)) (ci := 7) (v := .int (st (36 + 20 * i + (6 + va)) 1)) (C := RX6) (T := TX6) (N := 9) hx hb hts ii_X9_isFirst_X6 hown hK hP (36 + 20 * i + (6 + va)) (xw_is (r := (36 + 20 * i + (6 + va))) (by omega) (xc_person (i := i) (p := va) (by omega) (by omega))) rfl 1 (by decide) (va_Nw.use rfl (nf_X9_25 hEv)) (fun _ hh => hh) rfl dX9_isFirst_9 ?_
  obtain ⟨n1, hn1, en1⟩ := hG.1.at (r := (36 + 20 * i + (6 + va))) (k := 1) (b := 5) ((xrg_pe (i := i) (p := va) (by omega)).trans (by decide)) (by decide)
  refine zz_top (v := nI n1) (by exact en1) ?_
  clear en1
  refine lv_iload_n hx hb dX9_isFirst_12 rfl (lv_at hl 3 rfl) ?_
  refine va_calli (va_runV (As := [.int (nI n1), .int vb]) (rest := []) ⟨hx, hb, hml, hown, hts⟩ (x_X6_isDue l dC dI ad E hEE A C nb _ hN st sl so i va (nI n1) vb (by omega) (by omega) hG.1) (cwV 2 hts gX9_isFirst_X6_isDue rfl rfl rfl (by decide +kernel) ⟨Nat.le_of_ble_eq_true rfl, Nat.le_of_ble_eq_true rfl⟩) ⟨fun a U g mk q => ⟨q.1, xPre.blind hEE q.2⟩, va_recv hK hP (ci := 7) (q0 := (36 + 20 * i + (6 + va))) rfl (xw_is (r := (36 + 20 * i + (6 + va))) (by omega) (xc_person (i := i) (p := va) (by omega) (by omega))), fun U hU hW => ⟨rfl, xPre.of hEE hP hK hE hS hU hW⟩⟩ rfl rfl hl.1 rfl (lv_room (Nat.le_of_ble_eq_true rfl)) dX9_isFirst_13 ⟨Nat.le_of_ble_eq_true rfl, Nat.le_of_ble_eq_true rfl⟩) hS (fun q _ h => XA.le hS.1 q h) (XA.le hS.1) (fun r2 x t H locs ht hvm hw hB _ _ hS => ?_)
  have hP := xB.at ht hB
  clear hB ht hvm
  obtain ⟨rfl, hw⟩ := hw
  have hP : va_P (dC, dI) vwCl (xw A C nb st sl so) _ := hP
  rcases hw with rfl | rfl
  · refine lv_if_ne (tgt := 21) hx hb dX9_isFirst_16 (by decide) (fun _ => ?_) (fun cc => absurd cc (by decide))
    refine lv_iconst (v := 0) hx hb dX9_isFirst_21 (by decide) ?_
    refine lv_istore (lv' := [(4, .int 0), (3, .ref (A (36 + 20 * i + (6 + va)))), (0, .ref (A (36 + 20 * i))), (1, .int (nI va)), (2, .int vb)]) hx hb dX9_isFirst_22 hl (by decide) rfl (fun ls hl => ?_)
    refine zz_wf (fun n stk H locs ls => ∃ k3 : Nat, n = 9 - k3 ∧ 0 ≤ k3 ∧ k3 < 9 ∧ va_P (dC, dI) vwCl (xw A C nb st sl so) H ∧ va_S (XA A s.heap.size) s.heap H locs ∧ lv_has ls 6 [(4, .int (nI k3)), (3, .ref (A (36 + 20 * i + (6 + va)))), (0, .ref (A (36 + 20 * i))), (1, .int (nI va)), (2, .int vb)] ∧ stk = []) ?_ (9 - 0) _ _ _ _ ⟨0, rfl, by omega, by omega, hP, hS, lv_sub hl [0, 1, 2, 3, 4] rfl, rfl⟩
    rintro nn stk H locs ls ⟨k3, hm5, hv4_0, hv5_1, hP, hS, hl, rfl⟩ ih6
    refine lv_iload hx hb dX9_isFirst_24 (lv_at hl 0 rfl) ?_
    refine lv_iload_n hx hb dX9_isFirst_26 rfl (lv_at hl 3 rfl) ?_
    refine lv_icmp_ge (tgt := 76) hx hb dX9_isFirst_27 (by decide) (fun c2 => ?_) (fun c2 => ?_)
    · have c2 : va ≤ k3 := (nI_leI (a := va) (b := k3) (by omega) (by omega)).mp c2
      refine lv_iconst (v := 1) hx hb dX9_isFirst_76 (by decide) ?_
      exact W.zret (v := 1) hx hb hr rfl (fun t ht hW => ⟨⟨1, (st, sl, so), rfl, ⟨rfl, Or.inl (rfl)⟩, xB.of ht hP⟩, hS.F ht⟩) hS.2.2 dX9_isFirst_77
    · have c2 : ¬ va ≤ k3 := fun hh => c2 ((nI_leI (a := va) (b := k3) (by omega) (by omega)).mpr hh)
      refine lv_aload_n hx hb dX9_isFirst_30 rfl (lv_at hl 2 rfl) ?_
      refine va_getN (host := "OffTheLead") (D := (dC, dI)) (ci := 5) (v := .ref (A (36 + 20 * i + 4))) (C := RX4) (T := TX4) (N := 12) hx hb hts ii_X9_isFirst_X4 hown hK hP (36 + 20 * i) (xw_is (r := (36 + 20 * i)) (by omega) (xc_pk (i := i) (o := 0) (by omega) (by omega))) rfl 3 (by decide) (va_Nw.use rfl (nf_X9_21 hEv)) (fun _ hh => hh) rfl dX9_isFirst_31 ?_
      refine lv_iload hx hb dX9_isFirst_34 (lv_at hl 0 rfl) ?_
      refine va_aldq hx hb hK hP (36 + 20 * i + 4) (36 + 20 * i + 4) (xw_is (r := (36 + 20 * i + 4)) (by omega) (xc_pk (i := i) (o := 4) (by omega) (by omega))) (xt_is (r := (36 + 20 * i + 4)) (by omega) ((xty_pk (i := i) (o := 4) (by omega)).trans rfl)) (i := (nI k3)) (vp_in_nI (by omega) (by decide)) dX9_isFirst_36 ?_
      refine zz_topq (r := some (A (36 + 20 * i + (6 + k3)))) (by rw [nI_clamp (by omega)]; exact congrArg some (congrArg A (by omega))) ?_
      refine lv_astore (lv' := [(5, .ref (A (36 + 20 * i + (6 + k3)))), (4, .int (nI k3)), (3, .ref (A (36 + 20 * i + (6 + va)))), (0, .ref (A (36 + 20 * i))), (1, .int (nI va)), (2, .int vb)]) hx hb dX9_isFirst_37 hl (by decide) rfl (fun ls hl => ?_)
      refine lv_aload hx hb dX9_isFirst_39 (lv_at hl 0 rfl) ?_
      refine va_getN (host := "OffTheLead") (D := (dC, dI)) (ci := 7) (v := .int (st (36 + 20 * i + (6 + k3)) 8)) (C := RX6) (T := TX6) (N := 9) hx hb hts ii_X9_isFirst_X6 hown hK hP (36 + 20 * i + (6 + k3)) (xw_is (r := (36 + 20 * i + (6 + k3))) (by omega) (xc_person (i := i) (p := k3) (by omega) (by omega))) rfl 8 (by decide) (va_Nw.use rfl (nf_X9_100 hEv)) (fun _ hh => hh) rfl dX9_isFirst_41 ?_
      refine lv_topi (fun z7 ez7 => ?_)
      clear ez7
      refine lv_if_ne (tgt := 70) hx hb dX9_isFirst_44 (by decide) (fun c3 => ?_) (fun c3 => ?_)
      · refine lv_iinc (v := (nI (k3 + 1))) (lv' := [(4, .int (nI (k3 + 1))), (5, .ref (A (36 + 20 * i + (6 + k3)))), (3, .ref (A (36 + 20 * i + (6 + va)))), (0, .ref (A (36 + 20 * i))), (1, .int (nI va)), (2, .int vb)]) hx hb dX9_isFirst_70 hl (k := 1) rfl (nI_add k3 1) (by decide) rfl (fun ls hl => ?_)
        refine lv_goto (tgt := 24) hx hb dX9_isFirst_73 (by decide) ?_
        exact ih6 (9 - (k3 + 1)) _ _ _ _ (by omega) ⟨(k3 + 1), rfl, by omega, by omega, hP, hS, lv_sub hl [0, 2, 3, 4, 5] rfl, rfl⟩
      · refine lv_aload hx hb dX9_isFirst_47 (lv_at hl 0 rfl) ?_
        refine va_getN (host := "OffTheLead") (D := (dC, dI)) (ci := 7) (v := .int (st (36 + 20 * i + (6 + k3)) 5)) (C := RX6) (T := TX6) (N := 9) hx hb hts ii_X9_isFirst_X6 hown hK hP (36 + 20 * i + (6 + k3)) (xw_is (r := (36 + 20 * i + (6 + k3))) (by omega) (xc_person (i := i) (p := k3) (by omega) (by omega))) rfl 5 (by decide) (va_Nw.use rfl (nf_X9_30 hEv)) (fun _ hh => hh) rfl dX9_isFirst_49 ?_
        refine lv_topi (fun z8 ez8 => ?_)
        clear ez8
        refine lv_if_ne (tgt := 70) hx hb dX9_isFirst_52 (by decide) (fun c4 => ?_) (fun c4 => ?_)
        · refine lv_iinc (v := (nI (k3 + 1))) (lv' := [(4, .int (nI (k3 + 1))), (5, .ref (A (36 + 20 * i + (6 + k3)))), (3, .ref (A (36 + 20 * i + (6 + va)))), (0, .ref (A (36 + 20 * i))), (1, .int (nI va)), (2, .int vb)]) hx hb dX9_isFirst_70 hl (k := 1) rfl (nI_add k3 1) (by decide) rfl (fun ls hl => ?_)
          refine lv_goto (tgt := 24) hx hb dX9_isFirst_73 (by decide) ?_
          exact ih6 (9 - (k3 + 1)) _ _ _ _ (by omega) ⟨(k3 + 1), rfl, by omega, by omega, hP, hS, lv_sub hl [0, 2, 3, 4, 5] rfl, rfl⟩
        · refine lv_aload hx hb dX9_isFirst_55 (lv_at hl 0 rfl) ?_
          refine lv_aload_n hx hb dX9_isFirst_57 rfl (lv_at hl 2 rfl) ?_
          refine va_getN (host := "OffTheLead") (D := (dC, dI)) (ci := 7) (v := .int (st (36 + 20 * i + (6 + va)) 1)) (C := RX6) (T := TX6) (N := 9) hx hb hts ii_X9_isFirst_X6 hown hK hP (36 + 20 * i + (6 + va)) (xw_is (r := (36 + 20 * i + (6 + va))) (by omega) (xc_person (i := i) (p := va) (by omega) (by omega))) rfl 1 (by decide) (va_Nw.use rfl (nf_X9_25 hEv)) (fun _ hh => hh) rfl dX9_isFirst_58 ?_
          obtain ⟨n9, hn9, en9⟩ := hG.1.at (r := (36 + 20 * i + (6 + va))) (k := 1) (b := 5) ((xrg_pe (i := i) (p := va) (by omega)).trans (by decide)) (by decide)
          refine zz_top (v := nI n9) (by exact en9) ?_
          clear en9
          refine lv_iload_n hx hb dX9_isFirst_61 rfl (lv_at hl 5 rfl) ?_
          refine va_calli (va_runV (As := [.int (nI n9), .int vb]) (rest := []) ⟨hx, hb, hml, hown, hts⟩ (x_X6_isDue l dC dI ad E hEE A C nb _ hN st sl so i k3 (nI n9) vb (by omega) (by omega) hG.1) (cwV 2 hts gX9_isFirst_X6_isDue rfl rfl rfl (by decide +kernel) ⟨Nat.le_of_ble_eq_true rfl, Nat.le_of_ble_eq_true rfl⟩) ⟨fun a U g mk q => ⟨q.1, xPre.blind hEE q.2⟩, va_recv hK hP (ci := 7) (q0 := (36 + 20 * i + (6 + k3))) rfl (xw_is (r := (36 + 20 * i + (6 + k3))) (by omega) (xc_person (i := i) (p := k3) (by omega) (by omega))), fun U hU hW => ⟨rfl, xPre.of hEE hP hK hE hS hU hW⟩⟩ rfl rfl hl.1 rfl (lv_room (Nat.le_of_ble_eq_true rfl)) dX9_isFirst_62 ⟨Nat.le_of_ble_eq_true rfl, Nat.le_of_ble_eq_true rfl⟩) hS (fun q _ h => XA.le hS.1 q h) (XA.le hS.1) (fun r10 x t H locs ht hvm hw hB _ _ hS => ?_)
          have hP := xB.at ht hB
          clear hB ht hvm
          obtain ⟨rfl, hw⟩ := hw
          have hP : va_P (dC, dI) vwCl (xw A C nb st sl so) _ := hP
          rcases hw with rfl | rfl
          · refine lv_if_eq (tgt := 70) hx hb dX9_isFirst_65 (by decide) (fun cc => absurd cc (by decide)) (fun _ => ?_)
            refine lv_iconst (v := 0) hx hb dX9_isFirst_68 (by decide) ?_
            exact W.zret (v := 0) hx hb hr rfl (fun t ht hW => ⟨⟨0, (st, sl, so), rfl, ⟨rfl, Or.inr (rfl)⟩, xB.of ht hP⟩, hS.F ht⟩) hS.2.2 dX9_isFirst_69
          · refine lv_if_eq (tgt := 70) hx hb dX9_isFirst_65 (by decide) (fun _ => ?_) (fun cc => absurd (by decide) cc)
            refine lv_iinc (v := (nI (k3 + 1))) (lv' := [(4, .int (nI (k3 + 1))), (5, .ref (A (36 + 20 * i + (6 + k3)))), (3, .ref (A (36 + 20 * i + (6 + va)))), (0, .ref (A (36 + 20 * i))), (1, .int (nI va)), (2, .int vb)]) hx hb dX9_isFirst_70 hl (k := 1) rfl (nI_add k3 1) (by decide) rfl (fun ls hl => ?_)
            refine lv_goto (tgt := 24) hx hb dX9_isFirst_73 (by decide) ?_
            exact ih6 (9 - (k3 + 1)) _ _ _ _ (by omega) ⟨(k3 + 1), rfl, by omega, by omega, hP, hS, lv_sub hl [0, 2, 3, 4, 5] rfl, rfl⟩
  · refine lv_if_ne (tgt := 21) hx hb dX9_isFirst_16 (by decide) (fun cc => absurd (by decide) cc) (fun _ => ?_)
    refine lv_iconst (v := 0) hx hb dX9_isFirst_19 (by decide) ?_
    exact W.zret (v := 0) hx hb hr rfl (fun t ht hW => ⟨⟨0, (st, sl, so), rfl, ⟨rfl, Or.inr (rfl)⟩, xB.of ht hP⟩, hS.F ht⟩) hS.2.2 dX9_isFirst_20
set_option maxHeartbeats 4000000 in
set_option maxRecDepth 100000 in
theorem x_X9_mayReach (l : Launch) (dC : Nat → ClassId) (dI : Nat → Nat → Nat) (ad : Nat → Nat) (E : EP) (hEE : EC ad E) (A : Nat → Nat) (C : Nat → ClassId) (nb sz : Nat) (hN : XN A) (st : Nat → Nat → Int32) (sl : Nat → Nat → Int64) (so : Nat → XR) (i : Nat) (va : Nat) (vb : Nat) (vc : Int32) (hi : i < 13) (hva : va < 6) (hvb : vb < 8) (hI : XI st) : Met l yX9_mayReach wsX9_mayReach ({ frames := 1, cells := 0, slots := 0, locals := 22 }) (va_Pc [.ref (A (36 + 20 * i)), .int (nI va), .int (nI vb), .int vc] (xPre E dC dI A C nb sz st sl so)) (va_Qi (fun (r : Int32) (x : XT) => x = (st, sl, so) ∧ ((r = 1) ∨ (r = 0))) (xB dC dI A C nb) (XA A sz)) 0 0 (XA A sz) := by
  refine Met.ofW (cc := cX9_mayReach) (maxL := 7) (ret := (some .boolean)) (by decide) rfl ?_
  intro p e s m args below meth c s₁ B hml hv
  obtain ⟨rfl, hsz, hP, hK, hE⟩ := hv
  have hx := B.exec
  have hb := B.bytes
  have hr := B.returns
  have hts := atoms_spec (ws := wsX9_mayReach) B.pre
  have hown : s.vm.findClass RX9 = some m.cls := findClass_of_methodNamed B.named
  subst hsz
  have hEv := hEE.1 _ _ _ hE
  have hS : va_S (XA A s.heap.size) s.heap s.heap [] := va_S.rf
  have hG : XG [1, 2, 3, 4, 5, 6, 7, 8, 9, 10, 11, 12, 13, 14, 15] st st := XG.rf hI
  have hl := lv_entry ([.ref (A (36 + 20 * i)), .int (nI va), .int (nI vb), .int vc]) (n := 7) (Nat.le_of_ble_eq_true rfl)
  rw [lg_entry_eq]
  generalize (lg_sl ([.ref (A (36 + 20 * i)), .int (nI va), .int (nI vb), .int vc]) ++ List.replicate (7 - (lg_sl ([.ref (A (36 + 20 * i)), .int (nI va), .int (nI vb), .int vc])).length) Slot.unset).toArray = ls at hl ⊢
  have hl : lv_has ls 7 [(0, .ref (A (36 + 20 * i))), (1, .int (nI va)), (2, .int (nI vb)), (3, .int vc)] := hl
  clear hI
  refine lv_aload_n hx hb dX9_mayReach_0 rfl (lv_at hl 0 rfl) ?_
  refine va_getN (host := "OffTheLead") (D := (dC, dI)) (ci := 5) (v := .ref (A (36 + 20 * i + 4))) (C := RX4) (T := TX4) (N := 12) hx hb hts ii_X9_mayReach_X4 hown hK hP (36 + 20 * i) (xw_is (r := (36 + 20 * i)) (by omega) (xc_pk (i := i) (o := 0) (by omega) (by omega))) rfl 3 (by decide) (va_Nw.use rfl (nf_X9_21 hEv)) (fun _ hh => hh) rfl dX9_mayReach_1 ?_
  refine lv_iload_n hx hb dX9_mayReach_4 rfl (lv_at hl 2 rfl) ?_
  refine va_aldq hx hb hK hP (36 + 20 * i + 4) (36 + 20 * i + 4) (xw_is (r := (36 + 20 * i + 4)) (by omega) (xc_pk (i := i) (o := 4) (by omega) (by omega))) (xt_is (r := (36 + 20 * i + 4)) (by omega) ((xty_pk (i := i) (o := 4) (by omega)).trans rfl)) (i := (nI vb)) (vp_in_nI (by omega) (by decide)) dX9_mayReach_5 ?_
  refine zz_topq (r := some (A (36 + 20 * i + (6 + vb)))) (by rw [nI_clamp (by omega)]; exact congrArg some (congrArg A (by omega))) ?_
  refine va_getN (host := "OffTheLead") (D := (dC, dI)) (ci := 7) (v := .int (st (36 + 20 * i + (6 + vb)) 1)) (C := RX6) (T := TX6) (N := 9) hx hb hts ii_X9_mayReach_X6 hown hK hP (36 + 20 * i + (6 + vb)) (xw_is (r := (36 + 20 * i + (6 + vb))) (by omega) (xc_person (i := i) (p := vb) (by omega) (by omega))) rfl 1 (by decide) (va_Nw.use rfl (nf_X9_25 hEv)) (fun _ hh => hh) rfl dX9_mayReach_6 ?_
  obtain ⟨n1, hn1, en1⟩ := hG.1.at (r := (36 + 20 * i + (6 + vb))) (k := 1) (b := 5) ((xrg_pe (i := i) (p := vb) (by omega)).trans (by decide)) (by decide)
  refine zz_top (v := nI n1) (by exact en1) ?_
  clear en1
  refine lv_istore (lv' := [(4, .int (nI n1)), (0, .ref (A (36 + 20 * i))), (1, .int (nI va)), (2, .int (nI vb)), (3, .int vc)]) hx hb dX9_mayReach_9 hl (by decide) rfl (fun ls hl => ?_)
  refine lv_aload_n hx hb dX9_mayReach_11 rfl (lv_at hl 1 rfl) ?_
  refine va_getN (host := "OffTheLead") (D := (dC, dI)) (ci := 5) (v := .ref (A (36 + 20 * i + 5))) (C := RX4) (T := TX4) (N := 12) hx hb hts ii_X9_mayReach_X4 hown hK hP (36 + 20 * i) (xw_is (r := (36 + 20 * i)) (by omega) (xc_pk (i := i) (o := 0) (by omega) (by omega))) rfl 4 (by decide) (va_Nw.use rfl (nf_X9_87 hEv)) (fun _ hh => hh) rfl dX9_mayReach_12 ?_
  refine lv_iload_n hx hb dX9_mayReach_15 rfl (lv_at hl 2 rfl) ?_
  refine va_aldq hx hb hK hP (36 + 20 * i + 5) (36 + 20 * i + 5) (xw_is (r := (36 + 20 * i + 5)) (by omega) (xc_pk (i := i) (o := 5) (by omega) (by omega))) (xt_is (r := (36 + 20 * i + 5)) (by omega) ((xty_pk (i := i) (o := 5) (by omega)).trans rfl)) (i := (nI va)) (vp_in_nI (by omega) (by decide)) dX9_mayReach_16 ?_
  refine zz_topq (r := some (A (36 + 20 * i + (14 + va)))) (by rw [nI_clamp (by omega)]; exact congrArg some (congrArg A (by omega))) ?_
  refine lv_astore (lv' := [(5, .ref (A (36 + 20 * i + (14 + va)))), (4, .int (nI n1)), (0, .ref (A (36 + 20 * i))), (1, .int (nI va)), (2, .int (nI vb)), (3, .int vc)]) hx hb dX9_mayReach_17 hl (by decide) rfl (fun ls hl => ?_)
  refine lv_aload_n hx hb dX9_mayReach_19 rfl (lv_at hl 2 rfl) ?_
  refine va_getN (host := "OffTheLead") (D := (dC, dI)) (ci := 5) (v := .ref (A (36 + 20 * i + 4))) (C := RX4) (T := TX4) (N := 12) hx hb hts ii_X9_mayReach_X4 hown hK hP (36 + 20 * i) (xw_is (r := (36 + 20 * i)) (by omega) (xc_pk (i := i) (o := 0) (by omega) (by omega))) rfl 3 (by decide) (va_Nw.use rfl (nf_X9_21 hEv)) (fun _ hh => hh) rfl dX9_mayReach_20 ?_
  refine lv_aload hx hb dX9_mayReach_23 (lv_at hl 0 rfl) ?_
  refine va_getN (host := "OffTheLead") (D := (dC, dI)) (ci := 3) (v := .int (st (36 + 20 * i + (14 + va)) 1)) (C := RX2) (T := TX2) (N := 7) hx hb hts ii_X9_mayReach_X2 hown hK hP (36 + 20 * i + (14 + va)) (xw_is (r := (36 + 20 * i + (14 + va))) (by omega) (xc_dog (i := i) (p := va) (by omega) (by omega))) rfl 1 (by decide) (va_Nw.use rfl (nf_X9_102 hEv)) (fun _ hh => hh) rfl dX9_mayReach_25 ?_
  obtain ⟨n2, hn2, en2⟩ := hG.1.at (r := (36 + 20 * i + (14 + va))) (k := 1) (b := 8) ((xrg_do (i := i) (p := va) (by omega)).trans (by decide)) (by decide)
  refine zz_top (v := nI n2) (by exact en2) ?_
  clear en2
  refine va_aldq hx hb hK hP (36 + 20 * i + 4) (36 + 20 * i + 4) (xw_is (r := (36 + 20 * i + 4)) (by omega) (xc_pk (i := i) (o := 4) (by omega) (by omega))) (xt_is (r := (36 + 20 * i + 4)) (by omega) ((xty_pk (i := i) (o := 4) (by omega)).trans rfl)) (i := (nI n2)) (vp_in_nI (by omega) (by decide)) dX9_mayReach_28 ?_
  refine zz_topq (r := some (A (36 + 20 * i + (6 + n2)))) (by rw [nI_clamp (by omega)]; exact congrArg some (congrArg A (by omega))) ?_
  refine lv_astore (lv' := [(6, .ref (A (36 + 20 * i + (6 + n2)))), (5, .ref (A (36 + 20 * i + (14 + va)))), (4, .int (nI n1)), (0, .ref (A (36 + 20 * i))), (1, .int (nI va)), (2, .int (nI vb)), (3, .int vc)]) hx hb dX9_mayReach_29 hl (by decide) rfl (fun ls hl => ?_)
  refine lv_aload_n hx hb dX9_mayReach_31 rfl (lv_at hl 3 rfl) ?_
  refine va_getN (host := "OffTheLead") (D := (dC, dI)) (ci := 5) (v := .ref (A (36 + 20 * i + 3))) (C := RX4) (T := TX4) (N := 12) hx hb hts ii_X9_mayReach_X4 hown hK hP (36 + 20 * i) (xw_is (r := (36 + 20 * i)) (by omega) (xc_pk (i := i) (o := 0) (by omega) (by omega))) rfl 2 (by decide) (va_Nw.use rfl (nf_X9_40 hEv)) (fun _ hh => hh) rfl dX9_mayReach_32 ?_
  refine lv_iload hx hb dX9_mayReach_35 (lv_at hl 2 rfl) ?_
  refine va_zald hx hb hK hP (36 + 20 * i + 3) (36 + 20 * i + 3) (xw_is (r := (36 + 20 * i + 3)) (by omega) (xc_pk (i := i) (o := 3) (by omega) (by omega))) (xt_is (r := (36 + 20 * i + 3)) (by omega) ((xty_pk (i := i) (o := 3) (by omega)).trans rfl)) (i := (nI n1)) (vp_in_nI (by omega) (by decide)) dX9_mayReach_37 ?_
  refine lv_topi (fun z3 ez3 => ?_)
  clear ez3
  refine lv_if_ne (tgt := 72) hx hb dX9_mayReach_38 (by decide) (fun c1 => ?_) (fun c1 => ?_)
  · refine lv_iconst (v := 0) hx hb dX9_mayReach_72 (by decide) ?_
    exact W.zret (v := 0) hx hb hr rfl (fun t ht hW => ⟨⟨0, (st, sl, so), rfl, ⟨rfl, Or.inr (rfl)⟩, xB.of ht hP⟩, hS.F ht⟩) hS.2.2 dX9_mayReach_73
  · refine lv_aload hx hb dX9_mayReach_41 (lv_at hl 1 rfl) ?_
    refine va_getN (host := "OffTheLead") (D := (dC, dI)) (ci := 3) (v := .int (st (36 + 20 * i + (14 + va)) 4)) (C := RX2) (T := TX2) (N := 7) hx hb hts ii_X9_mayReach_X2 hown hK hP (36 + 20 * i + (14 + va)) (xw_is (r := (36 + 20 * i + (14 + va))) (by omega) (xc_dog (i := i) (p := va) (by omega) (by omega))) rfl 4 (by decide) (va_Nw.use rfl (nf_X9_105 hEv)) (fun _ hh => hh) rfl dX9_mayReach_43 ?_
    obtain ⟨n4, hn4, en4⟩ := hG.1.at (r := (36 + 20 * i + (14 + va))) (k := 4) (b := 2) ((xrg_do (i := i) (p := va) (by omega)).trans (by decide)) (by decide)
    refine zz_top (v := nI n4) (by exact en4) ?_
    clear en4
    refine lv_if_ne (tgt := 72) hx hb dX9_mayReach_46 (by decide) (fun c2 => ?_) (fun c2 => ?_)
    · have c2 : ¬ n4 = 0 := fun hh => c2 ((nI_eq (a := n4) (b := 0) (by omega) (by omega)).mpr hh)
      refine lv_iconst (v := 0) hx hb dX9_mayReach_72 (by decide) ?_
      exact W.zret (v := 0) hx hb hr rfl (fun t ht hW => ⟨⟨0, (st, sl, so), rfl, ⟨rfl, Or.inr (rfl)⟩, xB.of ht hP⟩, hS.F ht⟩) hS.2.2 dX9_mayReach_73
    · have c2 : n4 = 0 := (nI_eq (a := n4) (b := 0) (by omega) (by omega)).mp c2
      refine lv_aload hx hb dX9_mayReach_49 (lv_at hl 0 rfl) ?_
      refine va_getN (host := "OffTheLead") (D := (dC, dI)) (ci := 7) (v := .int (st (36 + 20 * i + (6 + n2)) 5)) (C := RX6) (T := TX6) (N := 9) hx hb hts ii_X9_mayReach_X6 hown hK hP (36 + 20 * i + (6 + n2)) (xw_is (r := (36 + 20 * i + (6 + n2))) (by omega) (xc_person (i := i) (p := n2) (by omega) (by omega))) rfl 5 (by decide) (va_Nw.use rfl (nf_X9_30 hEv)) (fun _ hh => hh) rfl dX9_mayReach_51 ?_
      refine lv_topi (fun z5 ez5 => ?_)
      clear ez5
      refine lv_if_ne (tgt := 72) hx hb dX9_mayReach_54 (by decide) (fun c3 => ?_) (fun c3 => ?_)
      · refine lv_iconst (v := 0) hx hb dX9_mayReach_72 (by decide) ?_
        exact W.zret (v := 0) hx hb hr rfl (fun t ht hW => ⟨⟨0, (st, sl, so), rfl, ⟨rfl, Or.inr (rfl)⟩, xB.of ht hP⟩, hS.F ht⟩) hS.2.2 dX9_mayReach_73
      · refine lv_aload hx hb dX9_mayReach_57 (lv_at hl 0 rfl) ?_
        refine lv_iload hx hb dX9_mayReach_59 (lv_at hl 2 rfl) ?_
        refine lv_iload_n hx hb dX9_mayReach_61 rfl (lv_at hl 6 rfl) ?_
        refine va_calli (va_runV (As := [.int (nI n1), .int vc]) (rest := []) ⟨hx, hb, hml, hown, hts⟩ (x_X6_isDue l dC dI ad E hEE A C nb _ hN st sl so i n2 (nI n1) vc (by omega) (by omega) hG.1) (cwV 2 hts gX9_mayReach_X6_isDue rfl rfl rfl (by decide +kernel) ⟨Nat.le_of_ble_eq_true rfl, Nat.le_of_ble_eq_true rfl⟩) ⟨fun a U g mk q => ⟨q.1, xPre.blind hEE q.2⟩, va_recv hK hP (ci := 7) (q0 := (36 + 20 * i + (6 + n2))) rfl (xw_is (r := (36 + 20 * i + (6 + n2))) (by omega) (xc_person (i := i) (p := n2) (by omega) (by omega))), fun U hU hW => ⟨rfl, xPre.of hEE hP hK hE hS hU hW⟩⟩ rfl rfl hl.1 rfl (lv_room (Nat.le_of_ble_eq_true rfl)) dX9_mayReach_62 ⟨Nat.le_of_ble_eq_true rfl, Nat.le_of_ble_eq_true rfl⟩) hS (fun q _ h => XA.le hS.1 q h) (XA.le hS.1) (fun r6 x t H locs ht hvm hw hB _ _ hS => ?_)
        have hP := xB.at ht hB
        clear hB ht hvm
        obtain ⟨rfl, hw⟩ := hw
        have hP : va_P (dC, dI) vwCl (xw A C nb st sl so) _ := hP
        rcases hw with rfl | rfl
        · refine lv_if_eq (tgt := 72) hx hb dX9_mayReach_65 (by decide) (fun cc => absurd cc (by decide)) (fun _ => ?_)
          refine lv_iconst (v := 1) hx hb dX9_mayReach_68 (by decide) ?_
          refine lv_goto (tgt := 73) hx hb dX9_mayReach_69 (by decide) ?_
          exact W.zret (v := 1) hx hb hr rfl (fun t ht hW => ⟨⟨1, (st, sl, so), rfl, ⟨rfl, Or.inl (rfl)⟩, xB.of ht hP⟩, hS.F ht⟩) hS.2.2 dX9_mayReach_73
        · refine lv_if_eq (tgt := 72) hx hb dX9_mayReach_65 (by decide) (fun _ => ?_) (fun cc => absurd (by decide) cc)
          refine lv_iconst (v := 0) hx hb dX9_mayReach_72 (by decide) ?_
          exact W.zret (v := 0) hx hb hr rfl (fun t ht hW => ⟨⟨0, (st, sl, so), rfl, ⟨rfl, Or.inr (rfl)⟩, xB.of ht hP⟩, hS.F ht⟩) hS.2.2 dX9_mayReach_73
set_option maxHeartbeats 4000000 in
set_option maxRecDepth 100000 in
theorem x_X9_perilsOf (l : Launch) (dC : Nat → ClassId) (dI : Nat → Nat → Nat) (ad : Nat → Nat) (E : EP) (hEE : EC ad E) (A : Nat → Nat) (C : Nat → ClassId) (nb sz : Nat) (hN : XN A) (st : Nat → Nat → Int32) (sl : Nat → Nat → Int64) (so : Nat → XR) (i : Nat) (va : Nat) (hi : i < 13) (hva : va < 8) (hI : XI st) : Met l yX9_perilsOf wsX9_perilsOf ({ frames := 2, cells := 0, slots := 0, locals := 48 }) (va_Pc [.ref (A (36 + 20 * i)), .int (nI va)] (xPre E dC dI A C nb sz st sl so)) (va_Qi (fun (r : Int32) (x : XT) => x = (st, sl, so) ∧ (True)) (xB dC dI A C nb) (XA A sz)) 0 0 (XA A sz) := by
  refine Met.ofW (cc := cX9_perilsOf) (maxL := 5) (ret := (some .int)) (by decide) rfl ?_
  intro p e s m args below meth c s₁ B hml hv
  obtain ⟨rfl, hsz, hP, hK, hE⟩ := hv
  have hx := B.exec
  have hb := B.bytes
  have hr := B.returns
  have hts := atoms_spec (ws := wsX9_perilsOf) B.pre
  have hown : s.vm.findClass RX9 = some m.cls := findClass_of_methodNamed B.named
  subst hsz
  have hEv := hEE.1 _ _ _ hE
  have hS : va_S (XA A s.heap.size) s.heap s.heap [] := va_S.rf
  have hG : XG [1, 2, 3, 4, 5, 6, 7, 8, 9, 10, 11, 12, 13, 14, 15] st st := XG.rf hI
  have hl := lv_entry ([.ref (A (36 + 20 * i)), .int (nI va)]) (n := 5) (Nat.le_of_ble_eq_true rfl)
  rw [lg_entry_eq]
  generalize (lg_sl ([.ref (A (36 + 20 * i)), .int (nI va)]) ++ List.replicate (5 - (lg_sl ([.ref (A (36 + 20 * i)), .int (nI va)])).length) Slot.unset).toArray = ls at hl ⊢
  have hl : lv_has ls 5 [(0, .ref (A (36 + 20 * i))), (1, .int (nI va))] := hl
  clear hI
  refine lv_iconst (v := 0) hx hb dX9_perilsOf_0 (by decide) ?_
  refine lv_istore_n (lv' := [(2, .int 0), (0, .ref (A (36 + 20 * i))), (1, .int (nI va))]) hx hb dX9_perilsOf_1 rfl hl (by decide) rfl (fun ls hl => ?_)
  refine lv_iconst (v := 0) hx hb dX9_perilsOf_2 (by decide) ?_
  refine lv_istore_n (lv' := [(3, .int 0), (2, .int 0), (0, .ref (A (36 + 20 * i))), (1, .int (nI va))]) hx hb dX9_perilsOf_3 rfl hl (by decide) rfl (fun ls hl => ?_)
  refine zz_wf (fun n stk H locs ls => ∃ k1 : Nat, ∃ z2 : Int32, n = 25 - k1 ∧ 0 ≤ k1 ∧ k1 < 25 ∧ va_P (dC, dI) vwCl (xw A C nb st sl so) H ∧ va_S (XA A s.heap.size) s.heap H locs ∧ lv_has ls 5 [(3, .int (nI k1)), (2, .int z2), (0, .ref (A (36 + 20 * i))), (1, .int (nI va))] ∧ stk = []) ?_ (25 - 0) _ _ _ _ ⟨0, 0, rfl, by omega, by omega, hP, hS, lv_sub hl [0, 1, 2, 3] rfl, rfl⟩
  rintro nn stk H locs ls ⟨k1, z2, hm4, hv3_0, hv4_1, hP, hS, hl, rfl⟩ ih5
  refine lv_iload_n hx hb dX9_perilsOf_4 rfl (lv_at hl 0 rfl) ?_
  refine lv_bipush (v := 24) hx hb dX9_perilsOf_5 (by decide) ?_
  refine lv_icmp_ge (tgt := 57) hx hb dX9_perilsOf_7 (by decide) (fun c1 => ?_) (fun c1 => ?_)
  · have c1 : 24 ≤ k1 := (nI_leI (a := 24) (b := k1) (by omega) (by omega)).mp c1
    refine lv_iload_n hx hb dX9_perilsOf_57 rfl (lv_at hl 1 rfl) ?_
    exact W.iret (v := z2) hx hb hr (fun t ht hW => ⟨⟨z2, (st, sl, so), rfl, ⟨rfl, trivial⟩, xB.of ht hP⟩, hS.F ht⟩) hS.2.2 dX9_perilsOf_58
  · have c1 : ¬ 24 ≤ k1 := fun hh => c1 ((nI_leI (a := 24) (b := k1) (by omega) (by omega)).mpr hh)
    refine lv_aload_n hx hb dX9_perilsOf_10 rfl (lv_at hl 2 rfl) ?_
    refine lv_iload_n hx hb dX9_perilsOf_11 rfl (lv_at hl 3 rfl) ?_
    refine lv_iload_n hx hb dX9_perilsOf_12 rfl (lv_at hl 0 rfl) ?_
    refine va_calli (va_runS (As := [.ref (A (36 + 20 * i)), .int (nI va), .int (nI k1)]) (rest := []) ⟨hx, hb, hml, hown, hts⟩ (x_X9_isFirst l dC dI ad E hEE A C nb _ hN st sl so i va (nI k1) (by omega) (by omega) hG.1) (va_cwS 3 hts gX9_perilsOf_X9_isFirst rfl rfl rfl (by decide +kernel) ⟨Nat.le_of_ble_eq_true rfl, Nat.le_of_ble_eq_true rfl⟩) ⟨fun a U g mk q => ⟨q.1, xPre.blind hEE q.2⟩, fun U hU hW => ⟨rfl, xPre.of hEE hP hK hE hS hU hW⟩⟩ rfl rfl hl.1 rfl (lv_room (Nat.le_of_ble_eq_true rfl)) dX9_perilsOf_13 ⟨Nat.le_of_ble_eq_true rfl, Nat.le_of_ble_eq_true rfl⟩) hS (fun q _ h => XA.le hS.1 q h) (XA.le hS.1) (fun r6 x t H locs ht hvm hw hB _ _ hS => ?_)
    have hP := xB.at ht hB
    clear hB ht hvm
    obtain ⟨rfl, hw⟩ := hw
    have hP : va_P (dC, dI) vwCl (xw A C nb st sl so) _ := hP
    rcases hw with rfl | rfl
    · refine lv_if_eq (tgt := 51) hx hb dX9_perilsOf_16 (by decide) (fun cc => absurd cc (by decide)) (fun _ => ?_)
      refine lv_iconst (v := 0) hx hb dX9_perilsOf_19 (by decide) ?_
      refine lv_istore (lv' := [(4, .int 0), (3, .int (nI k1)), (2, .int z2), (0, .ref (A (36 + 20 * i))), (1, .int (nI va))]) hx hb dX9_perilsOf_20 hl (by decide) rfl (fun ls hl => ?_)
      refine zz_wf (fun n stk H locs ls => ∃ k7 : Nat, ∃ z8 : Int32, n = 7 - k7 ∧ 0 ≤ k7 ∧ k7 < 7 ∧ va_P (dC, dI) vwCl (xw A C nb st sl so) H ∧ va_S (XA A s.heap.size) s.heap H locs ∧ lv_has ls 5 [(4, .int (nI k7)), (3, .int (nI k1)), (2, .int z8), (0, .ref (A (36 + 20 * i))), (1, .int (nI va))] ∧ stk = []) ?_ (7 - 0) _ _ _ _ ⟨0, z2, rfl, by omega, by omega, hP, hS, lv_sub hl [0, 1, 2, 3, 4] rfl, rfl⟩
      rintro nn stk H locs ls ⟨k7, z8, hm10, hv9_0, hv10_1, hP, hS, hl, rfl⟩ ih11
      refine lv_iload hx hb dX9_perilsOf_22 (lv_at hl 0 rfl) ?_
      refine lv_aload_n hx hb dX9_perilsOf_24 rfl (lv_at hl 3 rfl) ?_
      refine va_getN (host := "OffTheLead") (D := (dC, dI)) (ci := 5) (v := .int (st (36 + 20 * i) 7)) (C := RX4) (T := TX4) (N := 12) hx hb hts ii_X9_perilsOf_X4 hown hK hP (36 + 20 * i) (xw_is (r := (36 + 20 * i)) (by omega) (xc_pk (i := i) (o := 0) (by omega) (by omega))) rfl 7 (by decide) (va_Nw.use rfl (nf_X9_62 hEv)) (fun _ hh => hh) rfl dX9_perilsOf_25 ?_
      obtain ⟨n12, hn12, en12⟩ := hG.1.at (r := (36 + 20 * i)) (k := 7) (b := 7) ((xrg_pk (i := i) (o := 0) (k := 7) (by omega)).trans (by first | rfl | decide)) (by decide)
      refine zz_top (v := nI n12) (by exact en12) ?_
      clear en12
      refine lv_icmp_ge (tgt := 51) hx hb dX9_perilsOf_28 (by decide) (fun c3 => ?_) (fun c3 => ?_)
      · have c3 : n12 ≤ k7 := (nI_leI (a := n12) (b := k7) (by omega) (by omega)).mp c3
        refine lv_iinc (v := (nI (k1 + 1))) (lv' := [(3, .int (nI (k1 + 1))), (4, .int (nI k7)), (2, .int z8), (0, .ref (A (36 + 20 * i))), (1, .int (nI va))]) hx hb dX9_perilsOf_51 hl (k := 1) rfl (nI_add k1 1) (by decide) rfl (fun ls hl => ?_)
        refine lv_goto (tgt := 4) hx hb dX9_perilsOf_54 (by decide) ?_
        exact ih5 (25 - (k1 + 1)) _ _ _ _ (by omega) ⟨(k1 + 1), z8, rfl, by omega, by omega, hP, hS, lv_sub hl [0, 2, 3, 4] rfl, rfl⟩
      · have c3 : ¬ n12 ≤ k7 := fun hh => c3 ((nI_leI (a := n12) (b := k7) (by omega) (by omega)).mpr hh)
        refine lv_aload_n hx hb dX9_perilsOf_31 rfl (lv_at hl 3 rfl) ?_
        refine lv_iload hx hb dX9_perilsOf_32 (lv_at hl 0 rfl) ?_
        refine lv_iload_n hx hb dX9_perilsOf_34 rfl (lv_at hl 4 rfl) ?_
        refine lv_iload_n hx hb dX9_perilsOf_35 rfl (lv_at hl 1 rfl) ?_
        refine va_calli (va_runS (As := [.ref (A (36 + 20 * i)), .int (nI k7), .int (nI va), .int (nI k1)]) (rest := []) ⟨hx, hb, hml, hown, hts⟩ (x_X9_mayReach l dC dI ad E hEE A C nb _ hN st sl so i k7 va (nI k1) (by omega) (by omega) (by omega) hG.1) (va_cwS 4 hts gX9_perilsOf_X9_mayReach rfl rfl rfl (by decide +kernel) ⟨Nat.le_of_ble_eq_true rfl, Nat.le_of_ble_eq_true rfl⟩) ⟨fun a U g mk q => ⟨q.1, xPre.blind hEE q.2⟩, fun U hU hW => ⟨rfl, xPre.of hEE hP hK hE hS hU hW⟩⟩ rfl rfl hl.1 rfl (lv_room (Nat.le_of_ble_eq_true rfl)) dX9_perilsOf_36 ⟨Nat.le_of_ble_eq_true rfl, Nat.le_of_ble_eq_true rfl⟩) hS (fun q _ h => XA.le hS.1 q h) (XA.le hS.1) (fun r13 x t H locs ht hvm hw hB _ _ hS => ?_)
        have hP := xB.at ht hB
        clear hB ht hvm
        obtain ⟨rfl, hw⟩ := hw
        have hP : va_P (dC, dI) vwCl (xw A C nb st sl so) _ := hP
        rcases hw with rfl | rfl
        · refine lv_if_eq (tgt := 45) hx hb dX9_perilsOf_39 (by decide) (fun cc => absurd cc (by decide)) (fun _ => ?_)
          obtain ⟨z14, ez14⟩ : ∃ y : Int32, y = z8 + 1 := ⟨_, rfl⟩
          refine lv_iinc (v := z14) (lv' := [(2, .int z14), (4, .int (nI k7)), (3, .int (nI k1)), (0, .ref (A (36 + 20 * i))), (1, .int (nI va))]) hx hb dX9_perilsOf_42 hl (k := 2) rfl (by rw [ez14]; rfl) (by decide) rfl (fun ls hl => ?_)
          refine lv_iinc (v := (nI (k7 + 1))) (lv' := [(4, .int (nI (k7 + 1))), (2, .int z14), (3, .int (nI k1)), (0, .ref (A (36 + 20 * i))), (1, .int (nI va))]) hx hb dX9_perilsOf_45 hl (k := 1) rfl (nI_add k7 1) (by decide) rfl (fun ls hl => ?_)
          refine lv_goto (tgt := 22) hx hb dX9_perilsOf_48 (by decide) ?_
          exact ih11 (7 - (k7 + 1)) _ _ _ _ (by omega) ⟨(k7 + 1), z14, rfl, by omega, by omega, hP, hS, lv_sub hl [0, 2, 1, 3, 4] rfl, rfl⟩
        · refine lv_if_eq (tgt := 45) hx hb dX9_perilsOf_39 (by decide) (fun _ => ?_) (fun cc => absurd (by decide) cc)
          refine lv_iinc (v := (nI (k7 + 1))) (lv' := [(4, .int (nI (k7 + 1))), (3, .int (nI k1)), (2, .int z8), (0, .ref (A (36 + 20 * i))), (1, .int (nI va))]) hx hb dX9_perilsOf_45 hl (k := 0) rfl (nI_add k7 1) (by decide) rfl (fun ls hl => ?_)
          refine lv_goto (tgt := 22) hx hb dX9_perilsOf_48 (by decide) ?_
          exact ih11 (7 - (k7 + 1)) _ _ _ _ (by omega) ⟨(k7 + 1), z8, rfl, by omega, by omega, hP, hS, lv_sub hl [0, 1, 2, 3, 4] rfl, rfl⟩
    · refine lv_if_eq (tgt := 51) hx hb dX9_perilsOf_16 (by decide) (fun _ => ?_) (fun cc => absurd (by decide) cc)
      refine lv_iinc (v := (nI (k1 + 1))) (lv' := [(3, .int (nI (k1 + 1))), (2, .int z2), (0, .ref (A (36 + 20 * i))), (1, .int (nI va))]) hx hb dX9_perilsOf_51 hl (k := 0) rfl (nI_add k1 1) (by decide) rfl (fun ls hl => ?_)
      refine lv_goto (tgt := 4) hx hb dX9_perilsOf_54 (by decide) ?_
      exact ih5 (25 - (k1 + 1)) _ _ _ _ (by omega) ⟨(k1 + 1), z2, rfl, by omega, by omega, hP, hS, lv_sub hl [0, 1, 2, 3] rfl, rfl⟩
set_option maxHeartbeats 4000000 in
set_option maxRecDepth 100000 in
theorem x_X9_waysOfPerils (l : Launch) (dC : Nat → ClassId) (dI : Nat → Nat → Nat) (ad : Nat → Nat) (E : EP) (hEE : EC ad E) (A : Nat → Nat) (C : Nat → ClassId) (nb sz : Nat) (hN : XN A) (st : Nat → Nat → Int32) (sl : Nat → Nat → Int64) (so : Nat → XR) (i : Nat) (va : Nat) (hi : i < 13) (hva : va < 8) (hI : XI st) : Met l yX9_waysOfPerils wsX9_waysOfPerils ({ frames := 3, cells := 0, slots := 0, locals := 72 }) (va_Pc [.ref (A (36 + 20 * i)), .int (nI va)] (xPre E dC dI A C nb sz st sl so)) (va_Ql (fun (r : Int64) (x : XT) => x = (st, sl, so) ∧ (True)) (xB dC dI A C nb) (XA A sz)) 0 0 (XA A sz) := by
  refine Met.ofW (cc := cX9_waysOfPerils) (maxL := 6) (ret := (some .long)) (by decide) rfl ?_
  intro p e s m args below meth c s₁ B hml hv
  obtain ⟨rfl, hsz, hP, hK, hE⟩ := hv
  have hx := B.exec
  have hb := B.bytes
  have hr := B.returns
  have hts := atoms_spec (ws := wsX9_waysOfPerils) B.pre
  have hown : s.vm.findClass RX9 = some m.cls := findClass_of_methodNamed B.named
  subst hsz
  have hEv := hEE.1 _ _ _ hE
  have hS : va_S (XA A s.heap.size) s.heap s.heap [] := va_S.rf
  have hG : XG [1, 2, 3, 4, 5, 6, 7, 8, 9, 10, 11, 12, 13, 14, 15] st st := XG.rf hI
  have hl := lv_entry ([.ref (A (36 + 20 * i)), .int (nI va)]) (n := 6) (Nat.le_of_ble_eq_true rfl)
  rw [lg_entry_eq]
  generalize (lg_sl ([.ref (A (36 + 20 * i)), .int (nI va)]) ++ List.replicate (6 - (lg_sl ([.ref (A (36 + 20 * i)), .int (nI va)])).length) Slot.unset).toArray = ls at hl ⊢
  have hl : lv_has ls 6 [(0, .ref (A (36 + 20 * i))), (1, .int (nI va))] := hl
  clear hI
  refine lv_lconst (v := 1) hx hb dX9_waysOfPerils_0 (by decide) ?_
  refine lv_lstore_n (lv' := [(2, .long 1), (0, .ref (A (36 + 20 * i))), (1, .int (nI va))]) hx hb dX9_waysOfPerils_1 rfl hl (by decide) rfl (fun ls hl => ?_)
  refine lv_aload_n hx hb dX9_waysOfPerils_2 rfl (lv_at hl 1 rfl) ?_
  refine lv_iload_n hx hb dX9_waysOfPerils_3 rfl (lv_at hl 2 rfl) ?_
  refine va_calli (va_runS (As := [.ref (A (36 + 20 * i)), .int (nI va)]) (rest := []) ⟨hx, hb, hml, hown, hts⟩ (x_X9_perilsOf l dC dI ad E hEE A C nb _ hN st sl so i va (by omega) (by omega) hG.1) (va_cwS 2 hts gX9_waysOfPerils_X9_perilsOf rfl rfl rfl (by decide +kernel) ⟨Nat.le_of_ble_eq_true rfl, Nat.le_of_ble_eq_true rfl⟩) ⟨fun a U g mk q => ⟨q.1, xPre.blind hEE q.2⟩, fun U hU hW => ⟨rfl, xPre.of hEE hP hK hE hS hU hW⟩⟩ rfl rfl hl.1 rfl (lv_room (Nat.le_of_ble_eq_true rfl)) dX9_waysOfPerils_4 ⟨Nat.le_of_ble_eq_true rfl, Nat.le_of_ble_eq_true rfl⟩) hS (fun q _ h => XA.le hS.1 q h) (XA.le hS.1) (fun r1 x t H locs ht hvm hw hB _ _ hS => ?_)
  have hP := xB.at ht hB
  clear hB ht hvm
  obtain ⟨rfl, hw⟩ := hw
  have hP : va_P (dC, dI) vwCl (xw A C nb st sl so) _ := hP
  clear hw
  refine lv_bipush (v := 8) hx hb dX9_waysOfPerils_7 (by decide) ?_
  refine va_mmin hx hb (by rw [hml]; exact hl.1.symm) hown (hts _ mm_X9_waysOfPerils_1) (hts _ mm_X9_waysOfPerils_2) (hts _ mm_X9_waysOfPerils_3) (hts _ mm_X9_waysOfPerils_4) (Nat.le_of_ble_eq_true rfl) (Nat.le_of_ble_eq_true rfl) (Nat.le_of_ble_eq_true rfl) (Nat.le_of_ble_eq_true rfl) dX9_waysOfPerils_9 ?_
  refine lv_topi (fun z2 ez2 => ?_)
  clear ez2
  refine lv_istore (lv' := [(4, .int z2), (2, .long 1), (0, .ref (A (36 + 20 * i))), (1, .int (nI va))]) hx hb dX9_waysOfPerils_12 hl (by decide) rfl (fun ls hl => ?_)
  refine lv_iconst (v := 0) hx hb dX9_waysOfPerils_14 (by decide) ?_
  refine lv_istore (lv' := [(5, .int 0), (4, .int z2), (2, .long 1), (0, .ref (A (36 + 20 * i))), (1, .int (nI va))]) hx hb dX9_waysOfPerils_15 hl (by decide) rfl (fun ls hl => ?_)
  refine zz_wf (fun n stk H locs ls => ∃ k3 : Nat, ∃ z4 : Int64, n = (z2.toInt - k3).toNat ∧ 0 ≤ k3 ∧ k3 < 2147483648 ∧ va_P (dC, dI) vwCl (xw A C nb st sl so) H ∧ va_S (XA A s.heap.size) s.heap H locs ∧ lv_has ls 6 [(5, .int (nI k3)), (4, .int z2), (2, .long z4), (0, .ref (A (36 + 20 * i))), (1, .int (nI va))] ∧ stk = []) ?_ ((z2.toInt - 0).toNat) _ _ _ _ ⟨0, 1, rfl, by omega, by omega, hP, hS, lv_sub hl [0, 1, 2, 3, 4] rfl, rfl⟩
  rintro nn stk H locs ls ⟨k3, z4, hm6, hv5_0, hv6_1, hP, hS, hl, rfl⟩ ih7
  refine lv_iload hx hb dX9_waysOfPerils_17 (lv_at hl 0 rfl) ?_
  refine lv_iload hx hb dX9_waysOfPerils_19 (lv_at hl 1 rfl) ?_
  refine lv_icmp_ge (tgt := 36) hx hb dX9_waysOfPerils_21 (by decide) (fun c1 => ?_) (fun c1 => ?_)
  · refine lv_lload_n hx hb dX9_waysOfPerils_36 rfl (lv_at hl 2 rfl) ?_
    exact W.lret (v := z4) hx hb hr (fun t ht hW => ⟨⟨z4, (st, sl, so), rfl, ⟨rfl, trivial⟩, xB.of ht hP⟩, hS.F ht⟩) hS.2.2 dX9_waysOfPerils_37
  · have hqc1 := zz_ltany c1 (by omega)
    refine lv_lload_n hx hb dX9_waysOfPerils_24 rfl (lv_at hl 2 rfl) ?_
    refine lv_ldc2 (v := 144) hx hb hown (hts _ mm_X9_waysOfPerils_5) dX9_waysOfPerils_25 ?_
    refine lv_lmul hx hb dX9_waysOfPerils_28 ?_
    refine lv_topl (fun z8 ez8 => ?_)
    clear ez8
    refine lv_lstore_n (lv' := [(2, .long z8), (5, .int (nI k3)), (4, .int z2), (0, .ref (A (36 + 20 * i))), (1, .int (nI va))]) hx hb dX9_waysOfPerils_29 rfl hl (by decide) rfl (fun ls hl => ?_)
    refine lv_iinc (v := (nI (k3 + 1))) (lv' := [(5, .int (nI (k3 + 1))), (2, .long z8), (4, .int z2), (0, .ref (A (36 + 20 * i))), (1, .int (nI va))]) hx hb dX9_waysOfPerils_30 hl (k := 1) rfl (nI_add k3 1) (by decide) rfl (fun ls hl => ?_)
    refine lv_goto (tgt := 17) hx hb dX9_waysOfPerils_33 (by decide) ?_
    exact ih7 ((z2.toInt - (k3 + 1)).toNat) _ _ _ _ (by omega) ⟨(k3 + 1), z8, rfl, by omega, by omega, hP, hS, lv_sub hl [0, 2, 1, 3, 4] rfl, rfl⟩
