set_option maxHeartbeats 4000000 in
set_option maxRecDepth 100000 in
theorem x_X4_goodOfAll (l : Launch) (dC : Nat → ClassId) (dI : Nat → Nat → Nat) (ad : Nat → Nat) (E : EP) (hEE : EC ad E) (A : Nat → Nat) (C : Nat → ClassId) (nb sz : Nat) (hN : XN A) (st : Nat → Nat → Int32) (sl : Nat → Nat → Int64) (so : Nat → XR) (i : Nat) (va : Int32) (hi : i < 13) (hI : XI st) : Met l yX4_goodOfAll wsX4_goodOfAll ({ frames := 4, cells := 0, slots := 0, locals := 87 }) (va_Pc [.ref (A (36 + 20 * i)), .int va] (xPre E dC dI A C nb sz st sl so)) (va_Qi (fun (r : Int32) (x : XT) => x = (st, sl, so) ∧ (True)) (xB dC dI A C nb) (XA A sz)) 0 0 (XA A sz) := by
  refine Met.ofW (cc := cX4_goodOfAll) (maxL := 4) (ret := (some .int)) (by decide) rfl ?_
  intro p e s m args below meth c s₁ B hml hv
  obtain ⟨rfl, hsz, hP, hK, hE⟩ := hv
  have hx := B.exec
  have hb := B.bytes
  have hr := B.returns
  have hts := atoms_spec (ws := wsX4_goodOfAll) B.pre
  have hown : s.vm.findClass RX4 = some m.cls := findClass_of_methodNamed B.named
  subst hsz
  have hEv := hEE.1 _ _ _ hE
  have hS : va_S (XA A s.heap.size) s.heap s.heap [] := va_S.rf
  have hG : XG [1, 2, 3, 4, 5, 6, 7, 8, 9, 10, 11, 12, 13, 14, 15] st st := XG.rf hI
  have hl := lv_entry ([.ref (A (36 + 20 * i)), .int va]) (n := 4) (Nat.le_of_ble_eq_true rfl)
  rw [lg_entry_eq]
  generalize (lg_sl ([.ref (A (36 + 20 * i)), .int va]) ++ List.replicate (4 - (lg_sl ([.ref (A (36 + 20 * i)), .int va])).length) Slot.unset).toArray = ls at hl ⊢
  have hl : lv_has ls 4 [(0, .ref (A (36 + 20 * i))), (1, .int va)] := hl
  clear hI
  refine lv_iconst (v := 0) hx hb dX4_goodOfAll_0 (by decide) ?_
  refine lv_istore_n (lv' := [(2, .int 0), (0, .ref (A (36 + 20 * i))), (1, .int va)]) hx hb dX4_goodOfAll_1 rfl hl (by decide) rfl (fun ls hl => ?_)
  refine lv_iconst (v := 0) hx hb dX4_goodOfAll_2 (by decide) ?_
  refine lv_istore_n (lv' := [(3, .int 0), (2, .int 0), (0, .ref (A (36 + 20 * i))), (1, .int va)]) hx hb dX4_goodOfAll_3 rfl hl (by decide) rfl (fun ls hl => ?_)
  refine zz_wf (fun n stk H locs ls => ∃ k1 : Nat, ∃ z2 : Int32, n = 9 - k1 ∧ 0 ≤ k1 ∧ k1 < 9 ∧ va_P (dC, dI) vwCl (xw A C nb st sl so) H ∧ va_S (XA A s.heap.size) s.heap H locs ∧ lv_has ls 4 [(3, .int (nI k1)), (2, .int z2), (0, .ref (A (36 + 20 * i))), (1, .int va)] ∧ stk = []) ?_ (9 - 0) _ _ _ _ ⟨0, 0, rfl, by omega, by omega, hP, hS, lv_sub hl [0, 1, 2, 3] rfl, rfl⟩
  rintro nn stk H locs ls ⟨k1, z2, hm4, hv3_0, hv4_1, hP, hS, hl, rfl⟩ ih5
  refine lv_iload_n hx hb dX4_goodOfAll_4 rfl (lv_at hl 0 rfl) ?_
  refine lv_aload_n hx hb dX4_goodOfAll_5 rfl (lv_at hl 2 rfl) ?_
  refine va_get (D := (dC, dI)) (ci := 5) (v := .int (st (36 + 20 * i) 6)) (C := RX4) (T := TX4) (N := 12) hx hb hts ii_X4_goodOfAll_X4 hown hK hP (36 + 20 * i) (xw_is (r := (36 + 20 * i)) (by omega) (xc_pk (i := i) (o := 0) (by omega) (by omega))) rfl 6 (by decide) (hts _ mm_X4_goodOfAll_1) (fun _ hh => hh) rfl dX4_goodOfAll_6 ?_
  obtain ⟨n6, hn6, en6⟩ := hG.1.at (r := (36 + 20 * i)) (k := 6) (b := 9) ((xrg_pk (i := i) (o := 0) (k := 6) (by omega)).trans (by first | rfl | decide)) (by decide)
  refine zz_top (v := nI n6) (by exact en6) ?_
  clear en6
  refine lv_icmp_ge (tgt := 51) hx hb dX4_goodOfAll_9 (by decide) (fun c1 => ?_) (fun c1 => ?_)
  · have c1 : n6 ≤ k1 := (nI_leI (a := n6) (b := k1) (by omega) (by omega)).mp c1
    refine lv_iload_n hx hb dX4_goodOfAll_51 rfl (lv_at hl 1 rfl) ?_
    exact W.iret (v := z2) hx hb hr (fun t ht hW => ⟨⟨z2, (st, sl, so), rfl, ⟨rfl, trivial⟩, xB.of ht hP⟩, hS.F ht⟩) hS.2.2 dX4_goodOfAll_52
  · have c1 : ¬ n6 ≤ k1 := fun hh => c1 ((nI_leI (a := n6) (b := k1) (by omega) (by omega)).mpr hh)
    refine lv_iload_n hx hb dX4_goodOfAll_12 rfl (lv_at hl 3 rfl) ?_
    refine lv_if_ne (tgt := 28) hx hb dX4_goodOfAll_13 (by decide) (fun c2 => ?_) (fun c2 => ?_)
    · refine lv_iload_n hx hb dX4_goodOfAll_28 rfl (lv_at hl 1 rfl) ?_
      refine lv_aload_n hx hb dX4_goodOfAll_29 rfl (lv_at hl 2 rfl) ?_
      refine lv_iload_n hx hb dX4_goodOfAll_30 rfl (lv_at hl 0 rfl) ?_
      refine lv_aload_n hx hb dX4_goodOfAll_31 rfl (lv_at hl 2 rfl) ?_
      refine va_get (D := (dC, dI)) (ci := 5) (v := .ref (A (36 + 20 * i + 4))) (C := RX4) (T := TX4) (N := 12) hx hb hts ii_X4_goodOfAll_X4 hown hK hP (36 + 20 * i) (xw_is (r := (36 + 20 * i)) (by omega) (xc_pk (i := i) (o := 0) (by omega) (by omega))) rfl 3 (by decide) (hts _ mm_X4_goodOfAll_2) (fun _ hh => hh) rfl dX4_goodOfAll_32 ?_
      refine lv_iload_n hx hb dX4_goodOfAll_35 rfl (lv_at hl 0 rfl) ?_
      refine va_aldq hx hb hK hP (36 + 20 * i + 4) (36 + 20 * i + 4) (xw_is (r := (36 + 20 * i + 4)) (by omega) (xc_pk (i := i) (o := 4) (by omega) (by omega))) (xt_is (r := (36 + 20 * i + 4)) (by omega) ((xty_pk (i := i) (o := 4) (by omega)).trans rfl)) (i := (nI k1)) (vp_in_nI (by omega) (by decide)) dX4_goodOfAll_36 ?_
      refine zz_topq (r := some (A (36 + 20 * i + (6 + k1)))) (by rw [nI_clamp (by omega)]; exact congrArg some (congrArg A (by omega))) ?_
      refine va_getN (host := "OffTheLead") (D := (dC, dI)) (ci := 7) (v := .int (st (36 + 20 * i + (6 + k1)) 1)) (C := RX6) (T := TX6) (N := 9) hx hb hts ii_X4_goodOfAll_X6 hown hK hP (36 + 20 * i + (6 + k1)) (xw_is (r := (36 + 20 * i + (6 + k1))) (by omega) (xc_person (i := i) (p := k1) (by omega) (by omega))) rfl 1 (by decide) (va_Nw.use rfl (nf_X4_97 hEv)) (fun _ hh => hh) rfl dX4_goodOfAll_37 ?_
      obtain ⟨n7, hn7, en7⟩ := hG.1.at (r := (36 + 20 * i + (6 + k1))) (k := 1) (b := 5) ((xrg_pe (i := i) (p := k1) (by omega)).trans (by decide)) (by decide)
      refine zz_top (v := nI n7) (by exact en7) ?_
      clear en7
      refine va_calli (va_runV (As := [.int (nI k1), .int (nI n7)]) (rest := [.int z2]) ⟨hx, hb, hml, hown, hts⟩ (x_X4_goodOf l dC dI ad E hEE A C nb _ hN st sl so i k1 n7 (by omega) (by omega) (by omega) hG.1) (cwV 2 hts gX4_goodOfAll_X4_goodOf rfl rfl rfl (by decide +kernel) ⟨Nat.le_of_ble_eq_true rfl, Nat.le_of_ble_eq_true rfl⟩) ⟨fun a U g mk q => ⟨q.1, xPre.blind hEE q.2⟩, va_recv hK hP (ci := 5) (q0 := (36 + 20 * i)) rfl (xw_is (r := (36 + 20 * i)) (by omega) (xc_pk (i := i) (o := 0) (by omega) (by omega))), fun U hU hW => ⟨rfl, xPre.of hEE hP hK hE hS hU hW⟩⟩ rfl rfl hl.1 rfl (lv_room (Nat.le_of_ble_eq_true rfl)) dX4_goodOfAll_40 ⟨Nat.le_of_ble_eq_true rfl, Nat.le_of_ble_eq_true rfl⟩) hS (fun q _ h => XA.le hS.1 q h) (XA.le hS.1) (fun r8 x t H locs ht hvm hw hB _ _ hS => ?_)
      have hP := xB.at ht hB
      clear hB ht hvm
      obtain ⟨rfl, hw⟩ := hw
      have hP : va_P (dC, dI) vwCl (xw A C nb st sl so) _ := hP
      clear hw
      refine lv_iadd hx hb dX4_goodOfAll_43 ?_
      refine lv_topi (fun z9 ez9 => ?_)
      clear ez9
      refine lv_istore_n (lv' := [(2, .int z9), (3, .int (nI k1)), (0, .ref (A (36 + 20 * i))), (1, .int va)]) hx hb dX4_goodOfAll_44 rfl hl (by decide) rfl (fun ls hl => ?_)
      refine lv_iinc (v := (nI (k1 + 1))) (lv' := [(3, .int (nI (k1 + 1))), (2, .int z9), (0, .ref (A (36 + 20 * i))), (1, .int va)]) hx hb dX4_goodOfAll_45 hl (k := 1) rfl (nI_add k1 1) (by decide) rfl (fun ls hl => ?_)
      refine lv_goto (tgt := 4) hx hb dX4_goodOfAll_48 (by decide) ?_
      exact ih5 (9 - (k1 + 1)) _ _ _ _ (by omega) ⟨(k1 + 1), z9, rfl, by omega, by omega, hP, hS, lv_sub hl [0, 1, 2, 3] rfl, rfl⟩
    · refine lv_aload_n hx hb dX4_goodOfAll_16 rfl (lv_at hl 2 rfl) ?_
      refine va_get (D := (dC, dI)) (ci := 5) (v := .ref (A (36 + 20 * i + 4))) (C := RX4) (T := TX4) (N := 12) hx hb hts ii_X4_goodOfAll_X4 hown hK hP (36 + 20 * i) (xw_is (r := (36 + 20 * i)) (by omega) (xc_pk (i := i) (o := 0) (by omega) (by omega))) rfl 3 (by decide) (hts _ mm_X4_goodOfAll_2) (fun _ hh => hh) rfl dX4_goodOfAll_17 ?_
      refine lv_iload_n hx hb dX4_goodOfAll_20 rfl (lv_at hl 0 rfl) ?_
      refine va_aldq hx hb hK hP (36 + 20 * i + 4) (36 + 20 * i + 4) (xw_is (r := (36 + 20 * i + 4)) (by omega) (xc_pk (i := i) (o := 4) (by omega) (by omega))) (xt_is (r := (36 + 20 * i + 4)) (by omega) ((xty_pk (i := i) (o := 4) (by omega)).trans rfl)) (i := (nI k1)) (vp_in_nI (by omega) (by decide)) dX4_goodOfAll_21 ?_
      refine zz_topq (r := some (A (36 + 20 * i + (6 + k1)))) (by rw [nI_clamp (by omega)]; exact congrArg some (congrArg A (by omega))) ?_
      refine va_getN (host := "OffTheLead") (D := (dC, dI)) (ci := 7) (v := .int (st (36 + 20 * i + (6 + k1)) 5)) (C := RX6) (T := TX6) (N := 9) hx hb hts ii_X4_goodOfAll_X6 hown hK hP (36 + 20 * i + (6 + k1)) (xw_is (r := (36 + 20 * i + (6 + k1))) (by omega) (xc_person (i := i) (p := k1) (by omega) (by omega))) rfl 5 (by decide) (va_Nw.use rfl (nf_X4_70 hEv)) (fun _ hh => hh) rfl dX4_goodOfAll_22 ?_
      refine lv_topi (fun z10 ez10 => ?_)
      clear ez10
      refine lv_if_ne (tgt := 45) hx hb dX4_goodOfAll_25 (by decide) (fun c3 => ?_) (fun c3 => ?_)
      · refine lv_iinc (v := (nI (k1 + 1))) (lv' := [(3, .int (nI (k1 + 1))), (2, .int z2), (0, .ref (A (36 + 20 * i))), (1, .int va)]) hx hb dX4_goodOfAll_45 hl (k := 0) rfl (nI_add k1 1) (by decide) rfl (fun ls hl => ?_)
        refine lv_goto (tgt := 4) hx hb dX4_goodOfAll_48 (by decide) ?_
        exact ih5 (9 - (k1 + 1)) _ _ _ _ (by omega) ⟨(k1 + 1), z2, rfl, by omega, by omega, hP, hS, lv_sub hl [0, 1, 2, 3] rfl, rfl⟩
      · refine lv_iload_n hx hb dX4_goodOfAll_28 rfl (lv_at hl 1 rfl) ?_
        refine lv_aload_n hx hb dX4_goodOfAll_29 rfl (lv_at hl 2 rfl) ?_
        refine lv_iload_n hx hb dX4_goodOfAll_30 rfl (lv_at hl 0 rfl) ?_
        refine lv_aload_n hx hb dX4_goodOfAll_31 rfl (lv_at hl 2 rfl) ?_
        refine va_get (D := (dC, dI)) (ci := 5) (v := .ref (A (36 + 20 * i + 4))) (C := RX4) (T := TX4) (N := 12) hx hb hts ii_X4_goodOfAll_X4 hown hK hP (36 + 20 * i) (xw_is (r := (36 + 20 * i)) (by omega) (xc_pk (i := i) (o := 0) (by omega) (by omega))) rfl 3 (by decide) (hts _ mm_X4_goodOfAll_2) (fun _ hh => hh) rfl dX4_goodOfAll_32 ?_
        refine lv_iload_n hx hb dX4_goodOfAll_35 rfl (lv_at hl 0 rfl) ?_
        refine va_aldq hx hb hK hP (36 + 20 * i + 4) (36 + 20 * i + 4) (xw_is (r := (36 + 20 * i + 4)) (by omega) (xc_pk (i := i) (o := 4) (by omega) (by omega))) (xt_is (r := (36 + 20 * i + 4)) (by omega) ((xty_pk (i := i) (o := 4) (by omega)).trans rfl)) (i := (nI k1)) (vp_in_nI (by omega) (by decide)) dX4_goodOfAll_36 ?_
        refine zz_topq (r := some (A (36 + 20 * i + (6 + k1)))) (by rw [nI_clamp (by omega)]; exact congrArg some (congrArg A (by omega))) ?_
        refine va_getN (host := "OffTheLead") (D := (dC, dI)) (ci := 7) (v := .int (st (36 + 20 * i + (6 + k1)) 1)) (C := RX6) (T := TX6) (N := 9) hx hb hts ii_X4_goodOfAll_X6 hown hK hP (36 + 20 * i + (6 + k1)) (xw_is (r := (36 + 20 * i + (6 + k1))) (by omega) (xc_person (i := i) (p := k1) (by omega) (by omega))) rfl 1 (by decide) (va_Nw.use rfl (nf_X4_97 hEv)) (fun _ hh => hh) rfl dX4_goodOfAll_37 ?_
        obtain ⟨n11, hn11, en11⟩ := hG.1.at (r := (36 + 20 * i + (6 + k1))) (k := 1) (b := 5) ((xrg_pe (i := i) (p := k1) (by omega)).trans (by decide)) (by decide)
        refine zz_top (v := nI n11) (by exact en11) ?_
        clear en11
        refine va_calli (va_runV (As := [.int (nI k1), .int (nI n11)]) (rest := [.int z2]) ⟨hx, hb, hml, hown, hts⟩ (x_X4_goodOf l dC dI ad E hEE A C nb _ hN st sl so i k1 n11 (by omega) (by omega) (by omega) hG.1) (cwV 2 hts gX4_goodOfAll_X4_goodOf rfl rfl rfl (by decide +kernel) ⟨Nat.le_of_ble_eq_true rfl, Nat.le_of_ble_eq_true rfl⟩) ⟨fun a U g mk q => ⟨q.1, xPre.blind hEE q.2⟩, va_recv hK hP (ci := 5) (q0 := (36 + 20 * i)) rfl (xw_is (r := (36 + 20 * i)) (by omega) (xc_pk (i := i) (o := 0) (by omega) (by omega))), fun U hU hW => ⟨rfl, xPre.of hEE hP hK hE hS hU hW⟩⟩ rfl rfl hl.1 rfl (lv_room (Nat.le_of_ble_eq_true rfl)) dX4_goodOfAll_40 ⟨Nat.le_of_ble_eq_true rfl, Nat.le_of_ble_eq_true rfl⟩) hS (fun q _ h => XA.le hS.1 q h) (XA.le hS.1) (fun r12 x t H locs ht hvm hw hB _ _ hS => ?_)
        have hP := xB.at ht hB
        clear hB ht hvm
        obtain ⟨rfl, hw⟩ := hw
        have hP : va_P (dC, dI) vwCl (xw A C nb st sl so) _ := hP
        clear hw
        refine lv_iadd hx hb dX4_goodOfAll_43 ?_
        refine lv_topi (fun z13 ez13 => ?_)
        clear ez13
        refine lv_istore_n (lv' := [(2, .int z13), (3, .int (nI k1)), (0, .ref (A (36 + 20 * i))), (1, .int va)]) hx hb dX4_goodOfAll_44 rfl hl (by decide) rfl (fun ls hl => ?_)
        refine lv_iinc (v := (nI (k1 + 1))) (lv' := [(3, .int (nI (k1 + 1))), (2, .int z13), (0, .ref (A (36 + 20 * i))), (1, .int va)]) hx hb dX4_goodOfAll_45 hl (k := 1) rfl (nI_add k1 1) (by decide) rfl (fun ls hl => ?_)
        refine lv_goto (tgt := 4) hx hb dX4_goodOfAll_48 (by decide) ?_
        exact ih5 (9 - (k1 + 1)) _ _ _ _ (by omega) ⟨(k1 + 1), z13, rfl, by omega, by omega, hP, hS, lv_sub hl [0, 1, 2, 3] rfl, rfl⟩
