set_option maxHeartbeats 4000000 in
set_option maxRecDepth 100000 in
theorem x_X9_waysUnharmed (l : Launch) (dC : Nat → ClassId) (dI : Nat → Nat → Nat) (ad : Nat → Nat) (E : EP) (hEE : EC ad E) (A : Nat → Nat) (C : Nat → ClassId) (nb sz : Nat) (hN : XN A) (st : Nat → Nat → Int32) (sl : Nat → Nat → Int64) (so : Nat → XR) (i : Nat) (va : Nat) (hi : i < 13) (hva : va < 8) (hI : XI st) : Met l yX9_waysUnharmed wsX9_waysUnharmed ({ frames := 2, cells := 0, slots := 0, locals := 48 }) (va_Pc [.ref (A (36 + 20 * i)), .int (nI va)] (xPre E dC dI A C nb sz st sl so)) (va_Ql (fun (r : Int64) (x : XT) => x = (st, sl, so) ∧ (True)) (xB dC dI A C nb) (XA A sz)) 0 0 (XA A sz) := by
  refine Met.ofW (cc := cX9_waysUnharmed) (maxL := 8) (ret := (some .long)) (by decide) rfl ?_
  intro p e s m args below meth c s₁ B hml hv
  obtain ⟨rfl, hsz, hP, hK, hE⟩ := hv
  have hx := B.exec
  have hb := B.bytes
  have hr := B.returns
  have hts := atoms_spec (ws := wsX9_waysUnharmed) B.pre
  have hown : s.vm.findClass RX9 = some m.cls := findClass_of_methodNamed B.named
  subst hsz
  have hEv := hEE.1 _ _ _ hE
  have hS : va_S (XA A s.heap.size) s.heap s.heap [] := va_S.rf
  have hG : XG [1, 2, 3, 4, 5, 6, 7, 8, 9, 10, 11, 12, 13, 14, 15] st st := XG.rf hI
  have hl := lv_entry ([.ref (A (36 + 20 * i)), .int (nI va)]) (n := 8) (Nat.le_of_ble_eq_true rfl)
  rw [lg_entry_eq]
  generalize (lg_sl ([.ref (A (36 + 20 * i)), .int (nI va)]) ++ List.replicate (8 - (lg_sl ([.ref (A (36 + 20 * i)), .int (nI va)])).length) Slot.unset).toArray = ls at hl ⊢
  have hl : lv_has ls 8 [(0, .ref (A (36 + 20 * i))), (1, .int (nI va))] := hl
  clear hI
  refine lv_lconst (v := 1) hx hb dX9_waysUnharmed_0 (by decide) ?_
  refine lv_lstore_n (lv' := [(2, .long 1), (0, .ref (A (36 + 20 * i))), (1, .int (nI va))]) hx hb dX9_waysUnharmed_1 rfl hl (by decide) rfl (fun ls hl => ?_)
  refine lv_aload_n hx hb dX9_waysUnharmed_2 rfl (lv_at hl 1 rfl) ?_
  refine va_getN (host := "OffTheLead") (D := (dC, dI)) (ci := 5) (v := .ref (A (36 + 20 * i + 4))) (C := RX4) (T := TX4) (N := 12) hx hb hts ii_X9_waysUnharmed_X4 hown hK hP (36 + 20 * i) (xw_is (r := (36 + 20 * i)) (by omega) (xc_pk (i := i) (o := 0) (by omega) (by omega))) rfl 3 (by decide) (va_Nw.use rfl (nf_X9_21 hEv)) (fun _ hh => hh) rfl dX9_waysUnharmed_3 ?_
  refine lv_iload_n hx hb dX9_waysUnharmed_6 rfl (lv_at hl 2 rfl) ?_
  refine va_aldq hx hb hK hP (36 + 20 * i + 4) (36 + 20 * i + 4) (xw_is (r := (36 + 20 * i + 4)) (by omega) (xc_pk (i := i) (o := 4) (by omega) (by omega))) (xt_is (r := (36 + 20 * i + 4)) (by omega) ((xty_pk (i := i) (o := 4) (by omega)).trans rfl)) (i := (nI va)) (vp_in_nI (by omega) (by decide)) dX9_waysUnharmed_7 ?_
  refine zz_topq (r := some (A (36 + 20 * i + (6 + va)))) (by rw [nI_clamp (by omega)]; exact congrArg some (congrArg A (by omega))) ?_
  refine va_getN (host := "OffTheLead") (D := (dC, dI)) (ci := 7) (v := .int (st (36 + 20 * i + (6 + va)) 1)) (C := RX6) (T := TX6) (N := 9) hx hb hts ii_X9_waysUnharmed_X6 hown hK hP (36 + 20 * i + (6 + va)) (xw_is (r := (36 + 20 * i + (6 + va))) (by omega) (xc_person (i := i) (p := va) (by omega) (by omega))) rfl 1 (by decide) (va_Nw.use rfl (nf_X9_25 hEv)) (fun _ hh => hh) rfl dX9_waysUnharmed_8 ?_
  obtain ⟨n1, hn1, en1⟩ := hG.1.at (r := (36 + 20 * i + (6 + va))) (k := 1) (b := 5) ((xrg_pe (i := i) (p := va) (by omega)).trans (by decide)) (by decide)
  refine zz_top (v := nI n1) (by exact en1) ?_
  clear en1
  refine lv_istore (lv' := [(4, .int (nI n1)), (2, .long 1), (0, .ref (A (36 + 20 * i))), (1, .int (nI va))]) hx hb dX9_waysUnharmed_11 hl (by decide) rfl (fun ls hl => ?_)
  refine lv_iconst (v := 0) hx hb dX9_waysUnharmed_13 (by decide) ?_
  refine lv_istore (lv' := [(5, .int 0), (4, .int (nI n1)), (2, .long 1), (0, .ref (A (36 + 20 * i))), (1, .int (nI va))]) hx hb dX9_waysUnharmed_14 hl (by decide) rfl (fun ls hl => ?_)
  refine zz_wf (fun n stk H locs ls => ∃ k2 : Nat, ∃ z3 : Int64, n = 25 - k2 ∧ 0 ≤ k2 ∧ k2 < 25 ∧ va_P (dC, dI) vwCl (xw A C nb st sl so) H ∧ va_S (XA A s.heap.size) s.heap H locs ∧ lv_has ls 8 [(5, .int (nI k2)), (4, .int (nI n1)), (2, .long z3), (0, .ref (A (36 + 20 * i))), (1, .int (nI va))] ∧ stk = []) ?_ (25 - 0) _ _ _ _ ⟨0, 1, rfl, by omega, by omega, hP, hS, lv_sub hl [0, 1, 2, 3, 4] rfl, rfl⟩
  rintro nn stk H locs ls ⟨k2, z3, hm5, hv4_0, hv5_1, hP, hS, hl, rfl⟩ ih6
  refine lv_iload hx hb dX9_waysUnharmed_16 (lv_at hl 0 rfl) ?_
  refine lv_bipush (v := 24) hx hb dX9_waysUnharmed_18 (by decide) ?_
  refine lv_icmp_ge (tgt := 120) hx hb dX9_waysUnharmed_20 (by decide) (fun c1 => ?_) (fun c1 => ?_)
  · have c1 : 24 ≤ k2 := (nI_leI (a := 24) (b := k2) (by omega) (by omega)).mp c1
    refine lv_lload_n hx hb dX9_waysUnharmed_120 rfl (lv_at hl 2 rfl) ?_
    exact W.lret (v := z3) hx hb hr (fun t ht hW => ⟨⟨z3, (st, sl, so), rfl, ⟨rfl, trivial⟩, xB.of ht hP⟩, hS.F ht⟩) hS.2.2 dX9_waysUnharmed_121
  · have c1 : ¬ 24 ≤ k2 := fun hh => c1 ((nI_leI (a := 24) (b := k2) (by omega) (by omega)).mpr hh)
    refine lv_aload_n hx hb dX9_waysUnharmed_23 rfl (lv_at hl 3 rfl) ?_
    refine va_getN (host := "OffTheLead") (D := (dC, dI)) (ci := 5) (v := .ref (A (36 + 20 * i + 2))) (C := RX4) (T := TX4) (N := 12) hx hb hts ii_X9_waysUnharmed_X4 hown hK hP (36 + 20 * i) (xw_is (r := (36 + 20 * i)) (by omega) (xc_pk (i := i) (o := 0) (by omega) (by omega))) rfl 1 (by decide) (va_Nw.use rfl (nf_X9_80 hEv)) (fun _ hh => hh) rfl dX9_waysUnharmed_24 ?_
    refine lv_iload hx hb dX9_waysUnharmed_27 (lv_at hl 1 rfl) ?_
    refine va_iald hx hb hK hP (36 + 20 * i + 2) (36 + 20 * i + 2) (xw_is (r := (36 + 20 * i + 2)) (by omega) (xc_pk (i := i) (o := 2) (by omega) (by omega))) (xt_is (r := (36 + 20 * i + 2)) (by omega) ((xty_pk (i := i) (o := 2) (by omega)).trans rfl)) (i := (nI n1)) (vp_in_nI (by omega) (by decide)) dX9_waysUnharmed_29 ?_
    refine lv_topi (fun z7 ez7 => ?_)
    clear ez7
    refine lv_iload hx hb dX9_waysUnharmed_30 (lv_at hl 0 rfl) ?_
    refine lv_ishr hx hb dX9_waysUnharmed_32 ?_
    refine lv_topi (fun z8 ez8 => ?_)
    clear ez8
    refine lv_iconst (v := 1) hx hb dX9_waysUnharmed_33 (by decide) ?_
    refine lv_iand hx hb dX9_waysUnharmed_34 ?_
    refine lv_topi (fun z9 ez9 => ?_)
    clear ez9
    refine lv_iconst (v := 1) hx hb dX9_waysUnharmed_35 (by decide) ?_
    refine lv_icmp_ne (tgt := 44) hx hb dX9_waysUnharmed_36 (by decide) (fun c2 => ?_) (fun c2 => ?_)
    · refine lv_aload_n hx hb dX9_waysUnharmed_44 rfl (lv_at hl 3 rfl) ?_
      refine va_getN (host := "OffTheLead") (D := (dC, dI)) (ci := 5) (v := .int (st (36 + 20 * i) 8)) (C := RX4) (T := TX4) (N := 12) hx hb hts ii_X9_waysUnharmed_X4 hown hK hP (36 + 20 * i) (xw_is (r := (36 + 20 * i)) (by omega) (xc_pk (i := i) (o := 0) (by omega) (by omega))) rfl 8 (by decide) (va_Nw.use rfl (nf_X9_84 hEv)) (fun _ hh => hh) rfl dX9_waysUnharmed_45 ?_
      refine lv_topi (fun z10 ez10 => ?_)
      clear ez10
      refine lv_istore (lv' := [(6, .int z10), (5, .int (nI k2)), (4, .int (nI n1)), (2, .long z3), (0, .ref (A (36 + 20 * i))), (1, .int (nI va))]) hx hb dX9_waysUnharmed_48 hl (by decide) rfl (fun ls hl => ?_)
      refine lv_aload_n hx hb dX9_waysUnharmed_50 rfl (lv_at hl 4 rfl) ?_
      refine lv_iload_n hx hb dX9_waysUnharmed_51 rfl (lv_at hl 5 rfl) ?_
      refine lv_iload hx hb dX9_waysUnharmed_52 (lv_at hl 1 rfl) ?_
      refine va_calli (va_runS (As := [.ref (A (36 + 20 * i)), .int (nI va), .int (nI k2)]) (rest := []) ⟨hx, hb, hml, hown, hts⟩ (x_X9_isFirst l dC dI ad E hEE A C nb _ hN st sl so i va (nI k2) (by omega) (by omega) hG.1) (va_cwS 3 hts gX9_waysUnharmed_X9_isFirst rfl rfl rfl (by decide +kernel) ⟨Nat.le_of_ble_eq_true rfl, Nat.le_of_ble_eq_true rfl⟩) ⟨fun a U g mk q => ⟨q.1, xPre.blind hEE q.2⟩, fun U hU hW => ⟨rfl, xPre.of hEE hP hK hE hS hU hW⟩⟩ rfl rfl hl.1 rfl (lv_room (Nat.le_of_ble_eq_true rfl)) dX9_waysUnharmed_54 ⟨Nat.le_of_ble_eq_true rfl, Nat.le_of_ble_eq_true rfl⟩) hS (fun q _ h => XA.le hS.1 q h) (XA.le hS.1) (fun r11 x t H locs ht hvm hw hB _ _ hS => ?_)
      have hP := xB.at ht hB
      clear hB ht hvm
      obtain ⟨rfl, hw⟩ := hw
      have hP : va_P (dC, dI) vwCl (xw A C nb st sl so) _ := hP
      rcases hw with rfl | rfl
      · refine lv_if_eq (tgt := 114) hx hb dX9_waysUnharmed_57 (by decide) (fun cc => absurd cc (by decide)) (fun _ => ?_)
        refine lv_iconst (v := 0) hx hb dX9_waysUnharmed_60 (by decide) ?_
        refine lv_istore (lv' := [(7, .int 0), (6, .int z10), (5, .int (nI k2)), (4, .int (nI n1)), (2, .long z3), (0, .ref (A (36 + 20 * i))), (1, .int (nI va))]) hx hb dX9_waysUnharmed_61 hl (by decide) rfl (fun ls hl => ?_)
        refine zz_wf (fun n stk H locs ls => ∃ k12 : Nat, ∃ z13 : Int64, n = 7 - k12 ∧ 0 ≤ k12 ∧ k12 < 7 ∧ va_P (dC, dI) vwCl (xw A C nb st sl so) H ∧ va_S (XA A s.heap.size) s.heap H locs ∧ lv_has ls 8 [(7, .int (nI k12)), (6, .int z10), (5, .int (nI k2)), (4, .int (nI n1)), (2, .long z13), (0, .ref (A (36 + 20 * i))), (1, .int (nI va))] ∧ stk = []) ?_ (7 - 0) _ _ _ _ ⟨0, z3, rfl, by omega, by omega, hP, hS, lv_sub hl [0, 1, 2, 3, 4, 5, 6] rfl, rfl⟩
        rintro nn stk H locs ls ⟨k12, z13, hm15, hv14_0, hv15_1, hP, hS, hl, rfl⟩ ih16
        refine lv_iload hx hb dX9_waysUnharmed_63 (lv_at hl 0 rfl) ?_
        refine lv_aload_n hx hb dX9_waysUnharmed_65 rfl (lv_at hl 5 rfl) ?_
        refine va_getN (host := "OffTheLead") (D := (dC, dI)) (ci := 5) (v := .int (st (36 + 20 * i) 7)) (C := RX4) (T := TX4) (N := 12) hx hb hts ii_X9_waysUnharmed_X4 hown hK hP (36 + 20 * i) (xw_is (r := (36 + 20 * i)) (by omega) (xc_pk (i := i) (o := 0) (by omega) (by omega))) rfl 7 (by decide) (va_Nw.use rfl (nf_X9_62 hEv)) (fun _ hh => hh) rfl dX9_waysUnharmed_66 ?_
        obtain ⟨n17, hn17, en17⟩ := hG.1.at (r := (36 + 20 * i)) (k := 7) (b := 7) ((xrg_pk (i := i) (o := 0) (k := 7) (by omega)).trans (by first | rfl | decide)) (by decide)
        refine zz_top (v := nI n17) (by exact en17) ?_
        clear en17
        refine lv_icmp_ge (tgt := 114) hx hb dX9_waysUnharmed_69 (by decide) (fun c4 => ?_) (fun c4 => ?_)
        · have c4 : n17 ≤ k12 := (nI_leI (a := n17) (b := k12) (by omega) (by omega)).mp c4
          refine lv_iinc (v := (nI (k2 + 1))) (lv' := [(5, .int (nI (k2 + 1))), (7, .int (nI k12)), (6, .int z10), (4, .int (nI n1)), (2, .long z13), (0, .ref (A (36 + 20 * i))), (1, .int (nI va))]) hx hb dX9_waysUnharmed_114 hl (k := 2) rfl (nI_add k2 1) (by decide) rfl (fun ls hl => ?_)
          refine lv_goto (tgt := 16) hx hb dX9_waysUnharmed_117 (by decide) ?_
          exact ih6 (25 - (k2 + 1)) _ _ _ _ (by omega) ⟨(k2 + 1), z13, rfl, by omega, by omega, hP, hS, lv_sub hl [0, 3, 4, 5, 6] rfl, rfl⟩
        · have c4 : ¬ n17 ≤ k12 := fun hh => c4 ((nI_leI (a := n17) (b := k12) (by omega) (by omega)).mpr hh)
          refine lv_aload_n hx hb dX9_waysUnharmed_72 rfl (lv_at hl 5 rfl) ?_
          refine lv_iload hx hb dX9_waysUnharmed_73 (lv_at hl 0 rfl) ?_
          refine lv_iload_n hx hb dX9_waysUnharmed_75 rfl (lv_at hl 6 rfl) ?_
          refine lv_iload hx hb dX9_waysUnharmed_76 (lv_at hl 2 rfl) ?_
          refine va_calli (va_runS (As := [.ref (A (36 + 20 * i)), .int (nI k12), .int (nI va), .int (nI k2)]) (rest := []) ⟨hx, hb, hml, hown, hts⟩ (x_X9_mayReach l dC dI ad E hEE A C nb _ hN st sl so i k12 va (nI k2) (by omega) (by omega) (by omega) hG.1) (va_cwS 4 hts gX9_waysUnharmed_X9_mayReach rfl rfl rfl (by decide +kernel) ⟨Nat.le_of_ble_eq_true rfl, Nat.le_of_ble_eq_true rfl⟩) ⟨fun a U g mk q => ⟨q.1, xPre.blind hEE q.2⟩, fun U hU hW => ⟨rfl, xPre.of hEE hP hK hE hS hU hW⟩⟩ rfl rfl hl.1 rfl (lv_room (Nat.le_of_ble_eq_true rfl)) dX9_waysUnharmed_78 ⟨Nat.le_of_ble_eq_true rfl, Nat.le_of_ble_eq_true rfl⟩) hS (fun q _ h => XA.le hS.1 q h) (XA.le hS.1) (fun r18 x t H locs ht hvm hw hB _ _ hS => ?_)
          have hP := xB.at ht hB
          clear hB ht hvm
          obtain ⟨rfl, hw⟩ := hw
          have hP : va_P (dC, dI) vwCl (xw A C nb st sl so) _ := hP
          rcases hw with rfl | rfl
          · refine lv_if_eq (tgt := 108) hx hb dX9_waysUnharmed_81 (by decide) (fun cc => absurd cc (by decide)) (fun _ => ?_)
            refine lv_lload_n hx hb dX9_waysUnharmed_84 rfl (lv_at hl 4 rfl) ?_
            refine lv_sipush (v := 144) hx hb dX9_waysUnharmed_85 (by decide) ?_
            refine lv_iload hx hb dX9_waysUnharmed_88 (lv_at hl 1 rfl) ?_
            refine lv_bipush (v := 12) hx hb dX9_waysUnharmed_90 (by decide) ?_
            refine lv_aload_n hx hb dX9_waysUnharmed_92 rfl (lv_at hl 5 rfl) ?_
            refine va_getN (host := "OffTheLead") (D := (dC, dI)) (ci := 5) (v := .ref (A (36 + 20 * i + 5))) (C := RX4) (T := TX4) (N := 12) hx hb hts ii_X9_waysUnharmed_X4 hown hK hP (36 + 20 * i) (xw_is (r := (36 + 20 * i)) (by omega) (xc_pk (i := i) (o := 0) (by omega) (by omega))) rfl 4 (by decide) (va_Nw.use rfl (nf_X9_87 hEv)) (fun _ hh => hh) rfl dX9_waysUnharmed_93 ?_
            refine lv_iload hx hb dX9_waysUnharmed_96 (lv_at hl 0 rfl) ?_
            refine va_aldq hx hb hK hP (36 + 20 * i + 5) (36 + 20 * i + 5) (xw_is (r := (36 + 20 * i + 5)) (by omega) (xc_pk (i := i) (o := 5) (by omega) (by omega))) (xt_is (r := (36 + 20 * i + 5)) (by omega) ((xty_pk (i := i) (o := 5) (by omega)).trans rfl)) (i := (nI k12)) (vp_in_nI (by omega) (by decide)) dX9_waysUnharmed_98 ?_
            refine zz_topq (r := some (A (36 + 20 * i + (14 + k12)))) (by rw [nI_clamp (by omega)]; exact congrArg some (congrArg A (by omega))) ?_
            refine va_getN (host := "OffTheLead") (D := (dC, dI)) (ci := 3) (v := .int (st (36 + 20 * i + (14 + k12)) 2)) (C := RX2) (T := TX2) (N := 7) hx hb hts ii_X9_waysUnharmed_X2 hown hK hP (36 + 20 * i + (14 + k12)) (xw_is (r := (36 + 20 * i + (14 + k12))) (by omega) (xc_dog (i := i) (p := k12) (by omega) (by omega))) rfl 2 (by decide) (va_Nw.use rfl (nf_X9_91 hEv)) (fun _ hh => hh) rfl dX9_waysUnharmed_99 ?_
            refine lv_topi (fun z19 ez19 => ?_)
            clear ez19
            refine lv_isub hx hb dX9_waysUnharmed_102 ?_
            refine lv_topi (fun z20 ez20 => ?_)
            clear ez20
            refine lv_imul hx hb dX9_waysUnharmed_103 ?_
            refine lv_topi (fun z21 ez21 => ?_)
            clear ez21
            refine lv_isub hx hb dX9_waysUnharmed_104 ?_
            refine lv_topi (fun z22 ez22 => ?_)
            clear ez22
            refine lv_i2l hx hb dX9_waysUnharmed_105 rfl ?_
            refine lv_topl (fun z23 ez23 => ?_)
            clear ez23
            refine lv_lmul hx hb dX9_waysUnharmed_106 ?_
            refine lv_topl (fun z24 ez24 => ?_)
            clear ez24
            refine lv_lstore_n (lv' := [(2, .long z24), (7, .int (nI k12)), (6, .int z10), (5, .int (nI k2)), (4, .int (nI n1)), (0, .ref (A (36 + 20 * i))), (1, .int (nI va))]) hx hb dX9_waysUnharmed_107 rfl hl (by decide) rfl (fun ls hl => ?_)
            refine lv_iinc (v := (nI (k12 + 1))) (lv' := [(7, .int (nI (k12 + 1))), (2, .long z24), (6, .int z10), (5, .int (nI k2)), (4, .int (nI n1)), (0, .ref (A (36 + 20 * i))), (1, .int (nI va))]) hx hb dX9_waysUnharmed_108 hl (k := 1) rfl (nI_add k12 1) (by decide) rfl (fun ls hl => ?_)
            refine lv_goto (tgt := 63) hx hb dX9_waysUnharmed_111 (by decide) ?_
            exact ih16 (7 - (k12 + 1)) _ _ _ _ (by omega) ⟨(k12 + 1), z24, rfl, by omega, by omega, hP, hS, lv_sub hl [0, 2, 3, 4, 1, 5, 6] rfl, rfl⟩
          · refine lv_if_eq (tgt := 108) hx hb dX9_waysUnharmed_81 (by decide) (fun _ => ?_) (fun cc => absurd (by decide) cc)
            refine lv_iinc (v := (nI (k12 + 1))) (lv' := [(7, .int (nI (k12 + 1))), (6, .int z10), (5, .int (nI k2)), (4, .int (nI n1)), (2, .long z13), (0, .ref (A (36 + 20 * i))), (1, .int (nI va))]) hx hb dX9_waysUnharmed_108 hl (k := 0) rfl (nI_add k12 1) (by decide) rfl (fun ls hl => ?_)
            refine lv_goto (tgt := 63) hx hb dX9_waysUnharmed_111 (by decide) ?_
            exact ih16 (7 - (k12 + 1)) _ _ _ _ (by omega) ⟨(k12 + 1), z13, rfl, by omega, by omega, hP, hS, lv_sub hl [0, 1, 2, 3, 4, 5, 6] rfl, rfl⟩
      · refine lv_if_eq (tgt := 114) hx hb dX9_waysUnharmed_57 (by decide) (fun _ => ?_) (fun cc => absurd (by decide) cc)
        refine lv_iinc (v := (nI (k2 + 1))) (lv' := [(5, .int (nI (k2 + 1))), (6, .int z10), (4, .int (nI n1)), (2, .long z3), (0, .ref (A (36 + 20 * i))), (1, .int (nI va))]) hx hb dX9_waysUnharmed_114 hl (k := 1) rfl (nI_add k2 1) (by decide) rfl (fun ls hl => ?_)
        refine lv_goto (tgt := 16) hx hb dX9_waysUnharmed_117 (by decide) ?_
        exact ih6 (25 - (k2 + 1)) _ _ _ _ (by omega) ⟨(k2 + 1), z3, rfl, by omega, by omega, hP, hS, lv_sub hl [0, 2, 3, 4, 5] rfl, rfl⟩
    · refine lv_bipush (v := 12) hx hb dX9_waysUnharmed_39 (by decide) ?_
      refine lv_goto (tgt := 48) hx hb dX9_waysUnharmed_41 (by decide) ?_
      refine lv_istore (lv' := [(6, .int 12), (5, .int (nI k2)), (4, .int (nI n1)), (2, .long z3), (0, .ref (A (36 + 20 * i))), (1, .int (nI va))]) hx hb dX9_waysUnharmed_48 hl (by decide) rfl (fun ls hl => ?_)
      refine lv_aload_n hx hb dX9_waysUnharmed_50 rfl (lv_at hl 4 rfl) ?_
      refine lv_iload_n hx hb dX9_waysUnharmed_51 rfl (lv_at hl 5 rfl) ?_
      refine lv_iload hx hb dX9_waysUnharmed_52 (lv_at hl 1 rfl) ?_
      refine va_calli (va_runS (As := [.ref (A (36 + 20 * i)), .int (nI va), .int (nI k2)]) (rest := []) ⟨hx, hb, hml, hown, hts⟩ (x_X9_isFirst l dC dI ad E hEE A C nb _ hN st sl so i va (nI k2) (by omega) (by omega) hG.1) (va_cwS 3 hts gX9_waysUnharmed_X9_isFirst rfl rfl rfl (by decide +kernel) ⟨Nat.le_of_ble_eq_true rfl, Nat.le_of_ble_eq_true rfl⟩) ⟨fun a U g mk q => ⟨q.1, xPre.blind hEE q.2⟩, fun U hU hW => ⟨rfl, xPre.of hEE hP hK hE hS hU hW⟩⟩ rfl rfl hl.1 rfl (lv_room (Nat.le_of_ble_eq_true rfl)) dX9_waysUnharmed_54 ⟨Nat.le_of_ble_eq_true rfl, Nat.le_of_ble_eq_true rfl⟩) hS (fun q _ h => XA.le hS.1 q h) (XA.le hS.1) (fun r25 x t H locs ht hvm hw hB _ _ hS => ?_)
      have hP := xB.at ht hB
      clear hB ht hvm
      obtain ⟨rfl, hw⟩ := hw
      have hP : va_P (dC, dI) vwCl (xw A C nb st sl so) _ := hP
      rcases hw with rfl | rfl
      · refine lv_if_eq (tgt := 114) hx hb dX9_waysUnharmed_57 (by decide) (fun cc => absurd cc (by decide)) (fun _ => ?_)
        refine lv_iconst (v := 0) hx hb dX9_waysUnharmed_60 (by decide) ?_
        refine lv_istore (lv' := [(7, .int 0), (6, .int 12), (5, .int (nI k2)), (4, .int (nI n1)), (2, .long z3), (0, .ref (A (36 + 20 * i))), (1, .int (nI va))]) hx hb dX9_waysUnharmed_61 hl (by decide) rfl (fun ls hl => ?_)
        refine zz_wf (fun n stk H locs ls => ∃ k26 : Nat, ∃ z27 : Int64, n = 7 - k26 ∧ 0 ≤ k26 ∧ k26 < 7 ∧ va_P (dC, dI) vwCl (xw A C nb st sl so) H ∧ va_S (XA A s.heap.size) s.heap H locs ∧ lv_has ls 8 [(7, .int (nI k26)), (6, .int 12), (5, .int (nI k2)), (4, .int (nI n1)), (2, .long z27), (0, .ref (A (36 + 20 * i))), (1, .int (nI va))] ∧ stk = []) ?_ (7 - 0) _ _ _ _ ⟨0, z3, rfl, by omega, by omega, hP, hS, lv_sub hl [0, 1, 2, 3, 4, 5, 6] rfl, rfl⟩
        rintro nn stk H locs ls ⟨k26, z27, hm29, hv28_0, hv29_1, hP, hS, hl, rfl⟩ ih30
        refine lv_iload hx hb dX9_waysUnharmed_63 (lv_at hl 0 rfl) ?_
        refine lv_aload_n hx hb dX9_waysUnharmed_65 rfl (lv_at hl 5 rfl) ?_
        refine va_getN (host := "OffTheLead") (D := (dC, dI)) (ci := 5) (v := .int (st (36 + 20 * i) 7)) (C := RX4) (T := TX4) (N := 12) hx hb hts ii_X9_waysUnharmed_X4 hown hK hP (36 + 20 * i) (xw_is (r := (36 + 20 * i)) (by omega) (xc_pk (i := i) (o := 0) (by omega) (by omega))) rfl 7 (by decide) (va_Nw.use rfl (nf_X9_62 hEv)) (fun _ hh => hh) rfl dX9_waysUnharmed_66 ?_
        obtain ⟨n31, hn31, en31⟩ := hG.1.at (r := (36 + 20 * i)) (k := 7) (b := 7) ((xrg_pk (i := i) (o := 0) (k := 7) (by omega)).trans (by first | rfl | decide)) (by decide)
        refine zz_top (v := nI n31) (by exact en31) ?_
        clear en31
        refine lv_icmp_ge (tgt := 114) hx hb dX9_waysUnharmed_69 (by decide) (fun c9 => ?_) (fun c9 => ?_)
        · have c9 : n31 ≤ k26 := (nI_leI (a := n31) (b := k26) (by omega) (by omega)).mp c9
          refine lv_iinc (v := (nI (k2 + 1))) (lv' := [(5, .int (nI (k2 + 1))), (7, .int (nI k26)), (6, .int 12), (4, .int (nI n1)), (2, .long z27), (0, .ref (A (36 + 20 * i))), (1, .int (nI va))]) hx hb dX9_waysUnharmed_114 hl (k := 2) rfl (nI_add k2 1) (by decide) rfl (fun ls hl => ?_)
          refine lv_goto (tgt := 16) hx hb dX9_waysUnharmed_117 (by decide) ?_
          exact ih6 (25 - (k2 + 1)) _ _ _ _ (by omega) ⟨(k2 + 1), z27, rfl, by omega, by omega, hP, hS, lv_sub hl [0, 3, 4, 5, 6] rfl, rfl⟩
        · have c9 : ¬ n31 ≤ k26 := fun hh => c9 ((nI_leI (a := n31) (b := k26) (by omega) (by omega)).mpr hh)
          refine lv_aload_n hx hb dX9_waysUnharmed_72 rfl (lv_at hl 5 rfl) ?_
          refine lv_iload hx hb dX9_waysUnharmed_73 (lv_at hl 0 rfl) ?_
          refine lv_iload_n hx hb dX9_waysUnharmed_75 rfl (lv_at hl 6 rfl) ?_
          refine lv_iload hx hb dX9_waysUnharmed_76 (lv_at hl 2 rfl) ?_
          refine va_calli (va_runS (As := [.ref (A (36 + 20 * i)), .int (nI k26), .int (nI va), .int (nI k2)]) (rest := []) ⟨hx, hb, hml, hown, hts⟩ (x_X9_mayReach l dC dI ad E hEE A C nb _ hN st sl so i k26 va (nI k2) (by omega) (by omega) (by omega) hG.1) (va_cwS 4 hts gX9_waysUnharmed_X9_mayReach rfl rfl rfl (by decide +kernel) ⟨Nat.le_of_ble_eq_true rfl, Nat.le_of_ble_eq_true rfl⟩) ⟨fun a U g mk q => ⟨q.1, xPre.blind hEE q.2⟩, fun U hU hW => ⟨rfl, xPre.of hEE hP hK hE hS hU hW⟩⟩ rfl rfl hl.1 rfl (lv_room (Nat.le_of_ble_eq_true rfl)) dX9_waysUnharmed_78 ⟨Nat.le_of_ble_eq_true rfl, Nat.le_of_ble_eq_true rfl⟩) hS (fun q _ h => XA.le hS.1 q h) (XA.le hS.1) (fun r32 x t H locs ht hvm hw hB _ _ hS => ?_)
          have hP := xB.at ht hB
          clear hB ht hvm
          obtain ⟨rfl, hw⟩ := hw
          have hP : va_P (dC, dI) vwCl (xw A C nb st sl so) _ := hP
          rcases hw with rfl | rfl
          · refine lv_if_eq (tgt := 108) hx hb dX9_waysUnharmed_81 (by decide) (fun cc => absurd cc (by decide)) (fun _ => ?_)
            refine lv_lload_n hx hb dX9_waysUnharmed_84 rfl (lv_at hl 4 rfl) ?_
            refine lv_sipush (v := 144) hx hb dX9_waysUnharmed_85 (by decide) ?_
            refine lv_iload hx hb dX9_waysUnharmed_88 (lv_at hl 1 rfl) ?_
            refine lv_bipush (v := 12) hx hb dX9_waysUnharmed_90 (by decide) ?_
            refine lv_aload_n hx hb dX9_waysUnharmed_92 rfl (lv_at hl 5 rfl) ?_
            refine va_getN (host := "OffTheLead") (D := (dC, dI)) (ci := 5) (v := .ref (A (36 + 20 * i + 5))) (C := RX4) (T := TX4) (N := 12) hx hb hts ii_X9_waysUnharmed_X4 hown hK hP (36 + 20 * i) (xw_is (r := (36 + 20 * i)) (by omega) (xc_pk (i := i) (o := 0) (by omega) (by omega))) rfl 4 (by decide) (va_Nw.use rfl (nf_X9_87 hEv)) (fun _ hh => hh) rfl dX9_waysUnharmed_93 ?_
            refine lv_iload hx hb dX9_waysUnharmed_96 (lv_at hl 0 rfl) ?_
            refine va_aldq hx hb hK hP (36 + 20 * i + 5) (36 + 20 * i + 5) (xw_is (r := (36 + 20 * i + 5)) (by omega) (xc_pk (i := i) (o := 5) (by omega) (by omega))) (xt_is (r := (36 + 20 * i + 5)) (by omega) ((xty_pk (i := i) (o := 5) (by omega)).trans rfl)) (i := (nI k26)) (vp_in_nI (by omega) (by decide)) dX9_waysUnharmed_98 ?_
            refine zz_topq (r := some (A (36 + 20 * i + (14 + k26)))) (by rw [nI_clamp (by omega)]; exact congrArg some (congrArg A (by omega))) ?_
            refine va_getN (host := "OffTheLead") (D := (dC, dI)) (ci := 3) (v := .int (st (36 + 20 * i + (14 + k26)) 2)) (C := RX2) (T := TX2) (N := 7) hx hb hts ii_X9_waysUnharmed_X2 hown hK hP (36 + 20 * i + (14 + k26)) (xw_is (r := (36 + 20 * i + (14 + k26))) (by omega) (xc_dog (i := i) (p := k26) (by omega) (by omega))) rfl 2 (by decide) (va_Nw.use rfl (nf_X9_91 hEv)) (fun _ hh => hh) rfl dX9_waysUnharmed_99 ?_
            refine lv_topi (fun z33 ez33 => ?_)
            clear ez33
            refine lv_isub hx hb dX9_waysUnharmed_102 ?_
            refine lv_topi (fun z34 ez34 => ?_)
            clear ez34
            refine lv_imul hx hb dX9_waysUnharmed_103 ?_
            refine lv_topi (fun z35 ez35 => ?_)
            clear ez35
            refine lv_isub hx hb dX9_waysUnharmed_104 ?_
            refine lv_topi (fun z36 ez36 => ?_)
            clear ez36
            refine lv_i2l hx hb dX9_waysUnharmed_105 rfl ?_
            refine lv_topl (fun z37 ez37 => ?_)
            clear ez37
            refine lv_lmul hx hb dX9_waysUnharmed_106 ?_
            refine lv_topl (fun z38 ez38 => ?_)
            clear ez38
            refine lv_lstore_n (lv' := [(2, .long z38), (7, .int (nI k26)), (6, .int 12), (5, .int (nI k2)), (4, .int (nI n1)), (0, .ref (A (36 + 20 * i))), (1, .int (nI va))]) hx hb dX9_waysUnharmed_107 rfl hl (by decide) rfl (fun ls hl => ?_)
            refine lv_iinc (v := (nI (k26 + 1))) (lv' := [(7, .int (nI (k26 + 1))), (2, .long z38), (6, .int 12), (5, .int (nI k2)), (4, .int (nI n1)), (0, .ref (A (36 + 20 * i))), (1, .int (nI va))]) hx hb dX9_waysUnharmed_108 hl (k := 1) rfl (nI_add k26 1) (by decide) rfl (fun ls hl => ?_)
            refine lv_goto (tgt := 63) hx hb dX9_waysUnharmed_111 (by decide) ?_
            exact ih30 (7 - (k26 + 1)) _ _ _ _ (by omega) ⟨(k26 + 1), z38, rfl, by omega, by omega, hP, hS, lv_sub hl [0, 2, 3, 4, 1, 5, 6] rfl, rfl⟩
          · refine lv_if_eq (tgt := 108) hx hb dX9_waysUnharmed_81 (by decide) (fun _ => ?_) (fun cc => absurd (by decide) cc)
            refine lv_iinc (v := (nI (k26 + 1))) (lv' := [(7, .int (nI (k26 + 1))), (6, .int 12), (5, .int (nI k2)), (4, .int (nI n1)), (2, .long z27), (0, .ref (A (36 + 20 * i))), (1, .int (nI va))]) hx hb dX9_waysUnharmed_108 hl (k := 0) rfl (nI_add k26 1) (by decide) rfl (fun ls hl => ?_)
            refine lv_goto (tgt := 63) hx hb dX9_waysUnharmed_111 (by decide) ?_
            exact ih30 (7 - (k26 + 1)) _ _ _ _ (by omega) ⟨(k26 + 1), z27, rfl, by omega, by omega, hP, hS, lv_sub hl [0, 1, 2, 3, 4, 5, 6] rfl, rfl⟩
      · refine lv_if_eq (tgt := 114) hx hb dX9_waysUnharmed_57 (by decide) (fun _ => ?_) (fun cc => absurd (by decide) cc)
        refine lv_iinc (v := (nI (k2 + 1))) (lv' := [(5, .int (nI (k2 + 1))), (6, .int 12), (4, .int (nI n1)), (2, .long z3), (0, .ref (A (36 + 20 * i))), (1, .int (nI va))]) hx hb dX9_waysUnharmed_114 hl (k := 1) rfl (nI_add k2 1) (by decide) rfl (fun ls hl => ?_)
        refine lv_goto (tgt := 16) hx hb dX9_waysUnharmed_117 (by decide) ?_
        exact ih6 (25 - (k2 + 1)) _ _ _ _ (by omega) ⟨(k2 + 1), z3, rfl, by omega, by omega, hP, hS, lv_sub hl [0, 2, 3, 4, 5] rfl, rfl⟩
