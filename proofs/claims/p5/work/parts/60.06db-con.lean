set_option maxHeartbeats 4000000 in
set_option maxRecDepth 100000 in
theorem x_copyS20 (l : Launch) (dC : Nat → ClassId) (dI : Nat → Nat → Nat) (ad : Nat → Nat) (E : EP) (hEE : EC ad E) (A : Nat → Nat) (C : Nat → ClassId) (nb sz : Nat) (hN : XN A) (st : Nat → Nat → Int32) (sl : Nat → Nat → Int64) (so : Nat → XR) (hI : XI st) (hOI : OI ad so) : Met l yX7_copyFrom wsX7_copyFrom ({ frames := 0, cells := 0, slots := 0, locals := 0 }) (va_Pc [.ref (A (20 + 4 * 2)), .ref (A (20 + 4 * 0))] (xPre E dC dI A C nb sz st sl so)) (va_Qv (fun (x : XT) => XG [1, 2, 3, 6, 7, 8, 9, 10, 11, 12, 13, 14, 15] st x.1 ∧ LGq sl x.2.1 ∧ OG ad [1, 2, 3] so x.2.2 ∧ ((SKs ad st so 0 → SKs ad x.1 x.2.2 2) ∧ (∀ q, q < 4 → ¬ q = 2 → SKs ad st so q → SKs ad x.1 x.2.2 q))) (xB dC dI A C nb) (XA A sz)) 0 0 (XA A sz) := by
  refine Met.ofW (cc := cX7_copyFrom) (maxL := 3) (ret := none) (by decide) rfl ?_
  intro p e s m args below meth c s₁ B hml hv
  obtain ⟨rfl, hsz, hP, hK, hE⟩ := hv
  have hx := B.exec
  have hb := B.bytes
  have hr := B.returns
  have hts := atoms_spec (ws := wsX7_copyFrom) B.pre
  have hown : s.vm.findClass RX7 = some m.cls := findClass_of_methodNamed B.named
  subst hsz
  have hEv := hEE.1 _ _ _ hE
  have hS : va_S (XA A s.heap.size) s.heap s.heap [] := va_S.rf
  have hG : XG [1, 2, 3, 6, 7, 8, 9, 10, 11, 12, 13, 14, 15] st st := XG.rf hI
  have hO : OG ad [1, 2, 3] so so := OG.rf hOI
  have hl := lv_entry ([.ref (A (20 + 4 * 2)), .ref (A (20 + 4 * 0))]) (n := 3) (Nat.le_of_ble_eq_true rfl)
  rw [lg_entry_eq]
  generalize (lg_sl ([.ref (A (20 + 4 * 2)), .ref (A (20 + 4 * 0))]) ++ List.replicate (3 - (lg_sl ([.ref (A (20 + 4 * 2)), .ref (A (20 + 4 * 0))])).length) Slot.unset).toArray = ls at hl ⊢
  have hl : lv_has ls 3 [(0, .ref (A (20 + 4 * 2))), (1, .ref (A (20 + 4 * 0)))] := hl
  have hL : LGq sl sl := LGq.rf
  refine lv_aload_n hx hb dX7_copyFrom_0 rfl (lv_at hl 0 rfl) ?_
  refine lv_aload_n hx hb dX7_copyFrom_1 rfl (lv_at hl 1 rfl) ?_
  refine va_get (D := (dC, dI)) (ci := 8) (v := .int (st (20 + 4 * 0) 3)) (C := RX7) (T := TX7) (N := 5) hx hb hts ii_X7_copyFrom_X7 hown hK hP (20 + 4 * 0) (xw_is (r := (20 + 4 * 0)) (by omega) (xc_sn (q := 0) (o := 0) (by omega) (by omega))) rfl 3 (by decide) (hts _ mm_X7_copyFrom_1) (fun _ hh => hh) rfl dX7_copyFrom_2 ?_
  obtain ⟨n1, hn1, en1⟩ := hG.1.at (r := (20 + 4 * 0)) (k := 3) (b := 41) ((xrg_sn (q := 0) (o := 0) (by omega) (by omega)).trans (by first | rfl | decide)) (by decide)
  refine zz_top (v := nI n1) (by exact en1) ?_
  refine va_put (D := (dC, dI)) (ci := 8) (v := .int (nI n1)) (ty := .int) (C := RX7) (T := TX7) (N := 5) hx hb hts ii_X7_copyFrom_X7 tyX7 tyX7_ok nmX7 hown hK hP (xD hN _ _ _ _ _ _) hS (20 + 4 * 2) (xw_is (r := (20 + 4 * 2)) (by omega) (xc_sn (q := 2) (o := 0) (by omega) (by omega))) rfl 3 (by decide) (hts _ mm_X7_copyFrom_1) (fun _ hh => hh) rfl (by decide +kernel) rfl rfl (Nat.le_of_ble_eq_true rfl) dX7_copyFrom_5 (fun H locs hP _ hS => ?_)
  have hP : va_P (dC, dI) vwCl (xw A C nb (up2 st (20 + 4 * 2) 3 (nI n1)) sl so) H := by rw [← xset (r := (20 + 4 * 2)) (k := 3) (v := (nI n1)) (xc_sn (q := 2) (o := 0) (by omega) (by omega))]; exact hP
  obtain ⟨st2, est2⟩ : ∃ y, y = up2 st (20 + 4 * 2) 3 (nI n1) := ⟨_, rfl⟩
  have hG : XG [1, 2, 3, 6, 7, 8, 9, 10, 11, 12, 13, 14, 15] st st2 := by rw [est2]; exact hG.up (xn (n := n1) (b := 41) ((xrg_sn (q := 2) (o := 0) (by omega) (by omega)).trans (by first | rfl | decide)) (by omega)) (xpn (c := 5) ((xcl_sn (q := 2) (o := 0) (k := 3) (by omega) (by omega)).trans (by first | rfl | decide)) (by decide))
  rw [← est2] at hP
  refine lv_aload_n hx hb dX7_copyFrom_8 rfl (lv_at hl 0 rfl) ?_
  refine lv_aload_n hx hb dX7_copyFrom_9 rfl (lv_at hl 1 rfl) ?_
  refine va_get (D := (dC, dI)) (ci := 8) (v := .int (st2 (20 + 4 * 0) 4)) (C := RX7) (T := TX7) (N := 5) hx hb hts ii_X7_copyFrom_X7 hown hK hP (20 + 4 * 0) (xw_is (r := (20 + 4 * 0)) (by omega) (xc_sn (q := 0) (o := 0) (by omega) (by omega))) rfl 4 (by decide) (hts _ mm_X7_copyFrom_2) (fun _ hh => hh) rfl dX7_copyFrom_10 ?_
  obtain ⟨z3, ez3⟩ : ∃ y : Int32, st2 (20 + 4 * 0) 4 = y := ⟨_, rfl⟩
  refine zz_top (v := z3) (by exact ez3) ?_
  refine va_put (D := (dC, dI)) (ci := 8) (v := .int z3) (ty := .int) (C := RX7) (T := TX7) (N := 5) hx hb hts ii_X7_copyFrom_X7 tyX7 tyX7_ok nmX7 hown hK hP (xD hN _ _ _ _ _ _) hS (20 + 4 * 2) (xw_is (r := (20 + 4 * 2)) (by omega) (xc_sn (q := 2) (o := 0) (by omega) (by omega))) rfl 4 (by decide) (hts _ mm_X7_copyFrom_2) (fun _ hh => hh) rfl (by decide +kernel) rfl rfl (Nat.le_of_ble_eq_true rfl) dX7_copyFrom_13 (fun H locs hP _ hS => ?_)
  have hP : va_P (dC, dI) vwCl (xw A C nb (up2 st2 (20 + 4 * 2) 4 z3) sl so) H := by rw [← xset (r := (20 + 4 * 2)) (k := 4) (v := z3) (xc_sn (q := 2) (o := 0) (by omega) (by omega))]; exact hP
  obtain ⟨st4, est4⟩ : ∃ y, y = up2 st2 (20 + 4 * 2) 4 z3 := ⟨_, rfl⟩
  have hG : XG [1, 2, 3, 6, 7, 8, 9, 10, 11, 12, 13, 14, 15] st st4 := by rw [est4]; exact hG.up (xz (r := (20 + 4 * 2)) (k := 4) ((xrg_sn (q := 2) (o := 0) (by omega) (by omega)).trans (by first | rfl | decide))) (xpn (c := 0) ((xcl_sn (q := 2) (o := 0) (k := 4) (by omega) (by omega)).trans (by first | rfl | decide)) (by decide))
  rw [← est4] at hP
  refine lv_iconst (v := 0) hx hb dX7_copyFrom_16 (by decide) ?_
  refine lv_istore_n (lv' := [(2, .int 0), (0, .ref (A (20 + 4 * 2))), (1, .ref (A (20 + 4 * 0)))]) hx hb dX7_copyFrom_17 rfl hl (by decide) rfl (fun ls hl => ?_)
  refine zz_wf (fun n stk H locs ls => ∃ k5 : Nat, ∃ st6 : Nat → Nat → Int32, ∃ sl7 : Nat → Nat → Int64, ∃ so8 : Nat → XR, n = 41 - k5 ∧ 0 ≤ k5 ∧ k5 < 41 ∧ st6 (20 + 4 * 2) 3 = nI n1 ∧ (∀ jj, jj < k5 → st6 (20 + 4 * 2 + 3) jj = st (20 + 4 * 0 + 3) jj) ∧ (∀ jj, jj < k5 → so8 (20 + 4 * 2 + 1) jj = so (20 + 4 * 0 + 1) jj) ∧ (∀ r, ¬ (20 + 4 * 2 ≤ r ∧ r < 20 + 4 * 2 + 4) → st6 r = st r) ∧ (∀ r, ¬ (20 + 4 * 2 ≤ r ∧ r < 20 + 4 * 2 + 4) → so8 r = so r) ∧ va_P (dC, dI) vwCl (xw A C nb st6 sl7 so8) H ∧ XG [1, 2, 3, 6, 7, 8, 9, 10, 11, 12, 13, 14, 15] st st6 ∧ OG ad [1, 2, 3] so so8 ∧ LGq sl sl7 ∧ va_S (XA A s.heap.size) s.heap H locs ∧ lv_has ls 3 [(2, .int (nI k5)), (0, .ref (A (20 + 4 * 2))), (1, .ref (A (20 + 4 * 0)))] ∧ stk = []) ?_ (41 - 0) _ _ _ _ ⟨0, st4, sl, so, rfl, by omega, by omega, by show st4 (20 + 4 * 2) 3 = _; rw [est4, up2_ne (r := (20 + 4 * 2)) (k := 4) (a := (20 + 4 * 2)) (j := 3) _ _ (by omega), est2, up2_same], fun jj hk => absurd hk (by omega), fun jj hk => absurd hk (by omega), fun r9 h9 => by rw [est4, up2_o r9 (by omega), est2, up2_o r9 (by omega)], fun r9 h9 => rfl, hP, hG, hO, hL, hS, lv_sub hl [0, 1, 2] rfl, rfl⟩
  rintro nn stk H locs ls ⟨k5, st6, sl7, so8, hm15, hv9_0, hv10_1, hv11_0, hv12_1, hv13_2, hv14_3, hv15_4, hP, hG, hO, hL, hS, hl, rfl⟩ ih16
  refine lv_iload_n hx hb dX7_copyFrom_18 rfl (lv_at hl 0 rfl) ?_
  refine lv_aload_n hx hb dX7_copyFrom_19 rfl (lv_at hl 1 rfl) ?_
  refine va_get (D := (dC, dI)) (ci := 8) (v := .int (st6 (20 + 4 * 2) 3)) (C := RX7) (T := TX7) (N := 5) hx hb hts ii_X7_copyFrom_X7 hown hK hP (20 + 4 * 2) (xw_is (r := (20 + 4 * 2)) (by omega) (xc_sn (q := 2) (o := 0) (by omega) (by omega))) rfl 3 (by decide) (hts _ mm_X7_copyFrom_1) (fun _ hh => hh) rfl dX7_copyFrom_20 ?_
  refine zz_top (v := (nI n1)) (by show st6 (20 + 4 * 2) 3 = _; rw [hv11_0]) ?_
  refine lv_icmp_ge (tgt := 68) hx hb dX7_copyFrom_23 (by decide) (fun c1 => ?_) (fun c1 => ?_)
  · have c1 : n1 ≤ k5 := (nI_leI (a := n1) (b := k5) (by omega) (by omega)).mp c1
    exact W.vret hx hb hr (fun t ht hW => ⟨⟨(st6, sl7, so8), rfl, ⟨hG, hL, hO, ⟨fun hh => SKs.copy (q := 0) (p := 2) (n := n1) hv11_0 en1 (fun jj hk => hv12_1 jj (by omega)) (fun jj hk => hv13_2 jj (by omega)) (by omega) hh, fun q9 h8 h9 hh => SKs.rows (p := 2) hv14_3 hv15_4 h9 hh⟩⟩, xB.of ht hP⟩, hS.F ht⟩) hS.2.2 dX7_copyFrom_68
  · have c1 : ¬ n1 ≤ k5 := fun hh => c1 ((nI_leI (a := n1) (b := k5) (by omega) (by omega)).mpr hh)
    refine lv_aload_n hx hb dX7_copyFrom_26 rfl (lv_at hl 1 rfl) ?_
    refine va_get (D := (dC, dI)) (ci := 8) (v := .ref (A (20 + 4 * 2 + 1))) (C := RX7) (T := TX7) (N := 5) hx hb hts ii_X7_copyFrom_X7 hown hK hP (20 + 4 * 2) (xw_is (r := (20 + 4 * 2)) (by omega) (xc_sn (q := 2) (o := 0) (by omega) (by omega))) rfl 0 (by decide) (hts _ mm_X7_copyFrom_3) (fun _ hh => hh) rfl dX7_copyFrom_27 ?_
    refine lv_iload_n hx hb dX7_copyFrom_30 rfl (lv_at hl 0 rfl) ?_
    refine lv_aload_n hx hb dX7_copyFrom_31 rfl (lv_at hl 2 rfl) ?_
    refine va_get (D := (dC, dI)) (ci := 8) (v := .ref (A (20 + 4 * 0 + 1))) (C := RX7) (T := TX7) (N := 5) hx hb hts ii_X7_copyFrom_X7 hown hK hP (20 + 4 * 0) (xw_is (r := (20 + 4 * 0)) (by omega) (xc_sn (q := 0) (o := 0) (by omega) (by omega))) rfl 0 (by decide) (hts _ mm_X7_copyFrom_3) (fun _ hh => hh) rfl dX7_copyFrom_32 ?_
    refine lv_iload_n hx hb dX7_copyFrom_35 rfl (lv_at hl 0 rfl) ?_
    refine va_aldq hx hb hK hP (20 + 4 * 0 + 1) (20 + 4 * 0 + 1) (xw_is (r := (20 + 4 * 0 + 1)) (by omega) (xc_sn (q := 0) (o := 1) (by omega) (by omega))) (xt_is (r := (20 + 4 * 0 + 1)) (by omega) ((xty_sn (q := 0) (o := 1) (by omega) (by omega)).trans rfl)) (i := (nI k5)) (vp_in_nI (by omega) (by decide)) dX7_copyFrom_36 ?_
    refine zz_topq (r := so8 (20 + 4 * 0 + 1) k5) (by rw [nI_clamp (by omega)]) ?_
    rcases hO.1.1 (20 + 4 * 0 + 1) k5 with ej17 | ⟨j17, hj17, ej17⟩
    · refine zz_topq (r := none) (by exact ej17) ?_
      refine zz_astw (x := none) hx hb hEv hK hP (xD hN _ _ _ _ _ _) hS (20 + 4 * 2 + 1) (20 + 4 * 2 + 1) (xw_is (r := (20 + 4 * 2 + 1)) (by omega) (xc_sn (q := 2) (o := 1) (by omega) (by omega))) (xt_is (r := (20 + 4 * 2 + 1)) (by omega) ((xty_sn (q := 2) (o := 1) (by omega) (by omega)).trans rfl)) (Or.inl rfl) (i := (nI k5)) (vp_in_nI (by omega) (by decide)) dX7_copyFrom_37 (fun H locs hP _ hS => ?_)
      rw [nI_clamp (by omega)] at hP
      have hP : va_P (dC, dI) vwCl (xw A C nb st6 sl7 (upO so8 (20 + 4 * 2 + 1) k5 none)) H := by rw [← xsetO (r := (20 + 4 * 2 + 1)) (k := k5) (v := none) (xc_sn (q := 2) (o := 1) (by omega) (by omega))]; exact hP
      obtain ⟨so18, eso18⟩ : ∃ y, y = upO so8 (20 + 4 * 2 + 1) k5 none := ⟨_, rfl⟩
      have hO : OG ad [1, 2, 3] so so18 := by rw [eso18]; exact hO.up (Or.inl rfl) (fun hh => absurd hh (by omega)) (by decide)
      rw [← eso18] at hP
      refine lv_aload_n hx hb dX7_copyFrom_38 rfl (lv_at hl 1 rfl) ?_
      refine va_get (D := (dC, dI)) (ci := 8) (v := .ref (A (20 + 4 * 2 + 2))) (C := RX7) (T := TX7) (N := 5) hx hb hts ii_X7_copyFrom_X7 hown hK hP (20 + 4 * 2) (xw_is (r := (20 + 4 * 2)) (by omega) (xc_sn (q := 2) (o := 0) (by omega) (by omega))) rfl 1 (by decide) (hts _ mm_X7_copyFrom_4) (fun _ hh => hh) rfl dX7_copyFrom_39 ?_
      refine lv_iload_n hx hb dX7_copyFrom_42 rfl (lv_at hl 0 rfl) ?_
      refine lv_aload_n hx hb dX7_copyFrom_43 rfl (lv_at hl 2 rfl) ?_
      refine va_get (D := (dC, dI)) (ci := 8) (v := .ref (A (20 + 4 * 0 + 2))) (C := RX7) (T := TX7) (N := 5) hx hb hts ii_X7_copyFrom_X7 hown hK hP (20 + 4 * 0) (xw_is (r := (20 + 4 * 0)) (by omega) (xc_sn (q := 0) (o := 0) (by omega) (by omega))) rfl 1 (by decide) (hts _ mm_X7_copyFrom_4) (fun _ hh => hh) rfl dX7_copyFrom_44 ?_
      refine lv_iload_n hx hb dX7_copyFrom_47 rfl (lv_at hl 0 rfl) ?_
      refine va_iald hx hb hK hP (20 + 4 * 0 + 2) (20 + 4 * 0 + 2) (xw_is (r := (20 + 4 * 0 + 2)) (by omega) (xc_sn (q := 0) (o := 2) (by omega) (by omega))) (xt_is (r := (20 + 4 * 0 + 2)) (by omega) ((xty_sn (q := 0) (o := 2) (by omega) (by omega)).trans rfl)) (i := (nI k5)) (vp_in_nI (by omega) (by decide)) dX7_copyFrom_48 ?_
      obtain ⟨z19, ez19⟩ : ∃ y : Int32, st6 (20 + 4 * 0 + 2) k5 = y := ⟨_, rfl⟩
      refine zz_top (v := z19) (by rw [nI_clamp (by omega)]; exact ez19) ?_
      refine va_iast hx hb hK hP (xD hN _ _ _ _ _ _) hS (20 + 4 * 2 + 2) (20 + 4 * 2 + 2) (xw_is (r := (20 + 4 * 2 + 2)) (by omega) (xc_sn (q := 2) (o := 2) (by omega) (by omega))) (xt_is (r := (20 + 4 * 2 + 2)) (by omega) ((xty_sn (q := 2) (o := 2) (by omega) (by omega)).trans rfl)) (i := (nI k5)) (vp_in_nI (by omega) (by decide)) dX7_copyFrom_49 (fun H locs hP _ hS => ?_)
      rw [nI_clamp (by omega)] at hP
      have hP : va_P (dC, dI) vwCl (xw A C nb (up2 st6 (20 + 4 * 2 + 2) k5 z19) sl7 so18) H := by rw [← xset (r := (20 + 4 * 2 + 2)) (k := k5) (v := z19) (xc_sn (q := 2) (o := 2) (by omega) (by omega))]; exact hP
      obtain ⟨st20, est20⟩ : ∃ y, y = up2 st6 (20 + 4 * 2 + 2) k5 z19 := ⟨_, rfl⟩
      have hG : XG [1, 2, 3, 6, 7, 8, 9, 10, 11, 12, 13, 14, 15] st st20 := by rw [est20]; exact hG.up (xz (r := (20 + 4 * 2 + 2)) (k := k5) ((xrg_sn (q := 2) (o := 2) (by omega) (by omega)).trans (by first | rfl | decide))) (xpn (c := 0) ((xcl_sn (q := 2) (o := 2) (k := k5) (by omega) (by omega)).trans (by first | rfl | decide)) (by decide))
      rw [← est20] at hP
      refine lv_aload_n hx hb dX7_copyFrom_50 rfl (lv_at hl 1 rfl) ?_
      refine va_get (D := (dC, dI)) (ci := 8) (v := .ref (A (20 + 4 * 2 + 3))) (C := RX7) (T := TX7) (N := 5) hx hb hts ii_X7_copyFrom_X7 hown hK hP (20 + 4 * 2) (xw_is (r := (20 + 4 * 2)) (by omega) (xc_sn (q := 2) (o := 0) (by omega) (by omega))) rfl 2 (by decide) (hts _ mm_X7_copyFrom_5) (fun _ hh => hh) rfl dX7_copyFrom_51 ?_
      refine lv_iload_n hx hb dX7_copyFrom_54 rfl (lv_at hl 0 rfl) ?_
      refine lv_aload_n hx hb dX7_copyFrom_55 rfl (lv_at hl 2 rfl) ?_
      refine va_get (D := (dC, dI)) (ci := 8) (v := .ref (A (20 + 4 * 0 + 3))) (C := RX7) (T := TX7) (N := 5) hx hb hts ii_X7_copyFrom_X7 hown hK hP (20 + 4 * 0) (xw_is (r := (20 + 4 * 0)) (by omega) (xc_sn (q := 0) (o := 0) (by omega) (by omega))) rfl 2 (by decide) (hts _ mm_X7_copyFrom_5) (fun _ hh => hh) rfl dX7_copyFrom_56 ?_
      refine lv_iload_n hx hb dX7_copyFrom_59 rfl (lv_at hl 0 rfl) ?_
      refine va_iald hx hb hK hP (20 + 4 * 0 + 3) (20 + 4 * 0 + 3) (xw_is (r := (20 + 4 * 0 + 3)) (by omega) (xc_sn (q := 0) (o := 3) (by omega) (by omega))) (xt_is (r := (20 + 4 * 0 + 3)) (by omega) ((xty_sn (q := 0) (o := 3) (by omega) (by omega)).trans rfl)) (i := (nI k5)) (vp_in_nI (by omega) (by decide)) dX7_copyFrom_60 ?_
      obtain ⟨z21, ez21⟩ : ∃ y : Int32, st20 (20 + 4 * 0 + 3) k5 = y := ⟨_, rfl⟩
      refine zz_top (v := z21) (by rw [nI_clamp (by omega)]; exact ez21) ?_
      refine va_iast hx hb hK hP (xD hN _ _ _ _ _ _) hS (20 + 4 * 2 + 3) (20 + 4 * 2 + 3) (xw_is (r := (20 + 4 * 2 + 3)) (by omega) (xc_sn (q := 2) (o := 3) (by omega) (by omega))) (xt_is (r := (20 + 4 * 2 + 3)) (by omega) ((xty_sn (q := 2) (o := 3) (by omega) (by omega)).trans rfl)) (i := (nI k5)) (vp_in_nI (by omega) (by decide)) dX7_copyFrom_61 (fun H locs hP _ hS => ?_)
      rw [nI_clamp (by omega)] at hP
      have hP : va_P (dC, dI) vwCl (xw A C nb (up2 st20 (20 + 4 * 2 + 3) k5 z21) sl7 so18) H := by rw [← xset (r := (20 + 4 * 2 + 3)) (k := k5) (v := z21) (xc_sn (q := 2) (o := 3) (by omega) (by omega))]; exact hP
      obtain ⟨st22, est22⟩ : ∃ y, y = up2 st20 (20 + 4 * 2 + 3) k5 z21 := ⟨_, rfl⟩
      have hG : XG [1, 2, 3, 6, 7, 8, 9, 10, 11, 12, 13, 14, 15] st st22 := by rw [est22]; exact hG.up (xz (r := (20 + 4 * 2 + 3)) (k := k5) ((xrg_sn (q := 2) (o := 3) (by omega) (by omega)).trans (by first | rfl | decide))) (xpn (c := 4) ((xcl_sn (q := 2) (o := 3) (k := k5) (by omega) (by omega)).trans (by first | rfl | decide)) (by decide))
      rw [← est22] at hP
      refine lv_iinc (v := (nI (k5 + 1))) (lv' := [(2, .int (nI (k5 + 1))), (0, .ref (A (20 + 4 * 2))), (1, .ref (A (20 + 4 * 0)))]) hx hb dX7_copyFrom_62 hl (k := 0) rfl (nI_add k5 1) (by decide) rfl (fun ls hl => ?_)
      refine lv_goto (tgt := 18) hx hb dX7_copyFrom_65 (by decide) ?_
      exact ih16 (41 - (k5 + 1)) _ _ _ _ (by omega) ⟨(k5 + 1), st22, sl7, so18, rfl, by omega, by omega, by show st22 (20 + 4 * 2) 3 = _; rw [est22, up2_ne (r := (20 + 4 * 2 + 3)) (k := k5) (a := (20 + 4 * 2)) (j := 3) _ _ (by omega), est20, up2_ne (r := (20 + 4 * 2 + 2)) (k := k5) (a := (20 + 4 * 2)) (j := 3) _ _ (by omega), hv11_0], fun jj hk => by show st22 (20 + 4 * 2 + 3) jj = st (20 + 4 * 0 + 3) jj; by_cases ee : jj = k5; (rw [ee, est22, up2_same]; exact (show z21 = st (20 + 4 * 0 + 3) k5 by rw [← ez21, est20, up2_o _ (by omega), hv14_3 _ (by omega)])); (rw [est22, up2_ne (r := (20 + 4 * 2 + 3)) (k := k5) (a := (20 + 4 * 2 + 3)) (j := jj) _ _ (by omega), est20, up2_ne (r := (20 + 4 * 2 + 2)) (k := k5) (a := (20 + 4 * 2 + 3)) (j := jj) _ _ (by omega)]; exact hv12_1 jj (by omega)), fun jj hk => by show so18 (20 + 4 * 2 + 1) jj = so (20 + 4 * 0 + 1) jj; by_cases ee : jj = k5; (rw [ee, eso18, upO_same]; exact (show none = so (20 + 4 * 0 + 1) k5 by rw [← ej17, hv15_4 _ (by omega)])); (rw [eso18, upO_ne (r := (20 + 4 * 2 + 1)) (k := k5) (a := (20 + 4 * 2 + 1)) (j := jj) _ _ (by omega)]; exact hv13_2 jj (by omega)), fun r9 h9 => by rw [est22, up2_o r9 (by omega), est20, up2_o r9 (by omega)]; exact hv14_3 r9 h9, fun r9 h9 => by rw [eso18, upO_o r9 (by omega)]; exact hv15_4 r9 h9, hP, hG, hO, hL, hS, lv_sub hl [0, 1, 2] rfl, rfl⟩
    · refine zz_topq (r := (some (ad j17))) (by exact ej17) ?_
      refine zz_astw (x := (some (ad j17))) hx hb hEv hK hP (xD hN _ _ _ _ _ _) hS (20 + 4 * 2 + 1) (20 + 4 * 2 + 1) (xw_is (r := (20 + 4 * 2 + 1)) (by omega) (xc_sn (q := 2) (o := 1) (by omega) (by omega))) (xt_is (r := (20 + 4 * 2 + 1)) (by omega) ((xty_sn (q := 2) (o := 1) (by omega) (by omega)).trans rfl)) (isW.of (by omega)) (i := (nI k5)) (vp_in_nI (by omega) (by decide)) dX7_copyFrom_37 (fun H locs hP _ hS => ?_)
      rw [nI_clamp (by omega)] at hP
      have hP : va_P (dC, dI) vwCl (xw A C nb st6 sl7 (upO so8 (20 + 4 * 2 + 1) k5 (some (ad j17)))) H := by rw [← xsetO (r := (20 + 4 * 2 + 1)) (k := k5) (v := (some (ad j17))) (xc_sn (q := 2) (o := 1) (by omega) (by omega))]; exact hP
      obtain ⟨so23, eso23⟩ : ∃ y, y = upO so8 (20 + 4 * 2 + 1) k5 (some (ad j17)) := ⟨_, rfl⟩
      have hO : OG ad [1, 2, 3] so so23 := by rw [eso23]; exact hO.up (isW.of (by omega)) (fun hh => absurd hh (by omega)) (by decide)
      rw [← eso23] at hP
      refine lv_aload_n hx hb dX7_copyFrom_38 rfl (lv_at hl 1 rfl) ?_
      refine va_get (D := (dC, dI)) (ci := 8) (v := .ref (A (20 + 4 * 2 + 2))) (C := RX7) (T := TX7) (N := 5) hx hb hts ii_X7_copyFrom_X7 hown hK hP (20 + 4 * 2) (xw_is (r := (20 + 4 * 2)) (by omega) (xc_sn (q := 2) (o := 0) (by omega) (by omega))) rfl 1 (by decide) (hts _ mm_X7_copyFrom_4) (fun _ hh => hh) rfl dX7_copyFrom_39 ?_
      refine lv_iload_n hx hb dX7_copyFrom_42 rfl (lv_at hl 0 rfl) ?_
      refine lv_aload_n hx hb dX7_copyFrom_43 rfl (lv_at hl 2 rfl) ?_
      refine va_get (D := (dC, dI)) (ci := 8) (v := .ref (A (20 + 4 * 0 + 2))) (C := RX7) (T := TX7) (N := 5) hx hb hts ii_X7_copyFrom_X7 hown hK hP (20 + 4 * 0) (xw_is (r := (20 + 4 * 0)) (by omega) (xc_sn (q := 0) (o := 0) (by omega) (by omega))) rfl 1 (by decide) (hts _ mm_X7_copyFrom_4) (fun _ hh => hh) rfl dX7_copyFrom_44 ?_
      refine lv_iload_n hx hb dX7_copyFrom_47 rfl (lv_at hl 0 rfl) ?_
      refine va_iald hx hb hK hP (20 + 4 * 0 + 2) (20 + 4 * 0 + 2) (xw_is (r := (20 + 4 * 0 + 2)) (by omega) (xc_sn (q := 0) (o := 2) (by omega) (by omega))) (xt_is (r := (20 + 4 * 0 + 2)) (by omega) ((xty_sn (q := 0) (o := 2) (by omega) (by omega)).trans rfl)) (i := (nI k5)) (vp_in_nI (by omega) (by decide)) dX7_copyFrom_48 ?_
      obtain ⟨z24, ez24⟩ : ∃ y : Int32, st6 (20 + 4 * 0 + 2) k5 = y := ⟨_, rfl⟩
      refine zz_top (v := z24) (by rw [nI_clamp (by omega)]; exact ez24) ?_
      refine va_iast hx hb hK hP (xD hN _ _ _ _ _ _) hS (20 + 4 * 2 + 2) (20 + 4 * 2 + 2) (xw_is (r := (20 + 4 * 2 + 2)) (by omega) (xc_sn (q := 2) (o := 2) (by omega) (by omega))) (xt_is (r := (20 + 4 * 2 + 2)) (by omega) ((xty_sn (q := 2) (o := 2) (by omega) (by omega)).trans rfl)) (i := (nI k5)) (vp_in_nI (by omega) (by decide)) dX7_copyFrom_49 (fun H locs hP _ hS => ?_)
      rw [nI_clamp (by omega)] at hP
      have hP : va_P (dC, dI) vwCl (xw A C nb (up2 st6 (20 + 4 * 2 + 2) k5 z24) sl7 so23) H := by rw [← xset (r := (20 + 4 * 2 + 2)) (k := k5) (v := z24) (xc_sn (q := 2) (o := 2) (by omega) (by omega))]; exact hP
      obtain ⟨st25, est25⟩ : ∃ y, y = up2 st6 (20 + 4 * 2 + 2) k5 z24 := ⟨_, rfl⟩
      have hG : XG [1, 2, 3, 6, 7, 8, 9, 10, 11, 12, 13, 14, 15] st st25 := by rw [est25]; exact hG.up (xz (r := (20 + 4 * 2 + 2)) (k := k5) ((xrg_sn (q := 2) (o := 2) (by omega) (by omega)).trans (by first | rfl | decide))) (xpn (c := 0) ((xcl_sn (q := 2) (o := 2) (k := k5) (by omega) (by omega)).trans (by first | rfl | decide)) (by decide))
      rw [← est25] at hP
      refine lv_aload_n hx hb dX7_copyFrom_50 rfl (lv_at hl 1 rfl) ?_
      refine va_get (D := (dC, dI)) (ci := 8) (v := .ref (A (20 + 4 * 2 + 3))) (C := RX7) (T := TX7) (N := 5) hx hb hts ii_X7_copyFrom_X7 hown hK hP (20 + 4 * 2) (xw_is (r := (20 + 4 * 2)) (by omega) (xc_sn (q := 2) (o := 0) (by omega) (by omega))) rfl 2 (by decide) (hts _ mm_X7_copyFrom_5) (fun _ hh => hh) rfl dX7_copyFrom_51 ?_
      refine lv_iload_n hx hb dX7_copyFrom_54 rfl (lv_at hl 0 rfl) ?_
      refine lv_aload_n hx hb dX7_copyFrom_55 rfl (lv_at hl 2 rfl) ?_
      refine va_get (D := (dC, dI)) (ci := 8) (v := .ref (A (20 + 4 * 0 + 3))) (C := RX7) (T := TX7) (N := 5) hx hb hts ii_X7_copyFrom_X7 hown hK hP (20 + 4 * 0) (xw_is (r := (20 + 4 * 0)) (by omega) (xc_sn (q := 0) (o := 0) (by omega) (by omega))) rfl 2 (by decide) (hts _ mm_X7_copyFrom_5) (fun _ hh => hh) rfl dX7_copyFrom_56 ?_
      refine lv_iload_n hx hb dX7_copyFrom_59 rfl (lv_at hl 0 rfl) ?_
      refine va_iald hx hb hK hP (20 + 4 * 0 + 3) (20 + 4 * 0 + 3) (xw_is (r := (20 + 4 * 0 + 3)) (by omega) (xc_sn (q := 0) (o := 3) (by omega) (by omega))) (xt_is (r := (20 + 4 * 0 + 3)) (by omega) ((xty_sn (q := 0) (o := 3) (by omega) (by omega)).trans rfl)) (i := (nI k5)) (vp_in_nI (by omega) (by decide)) dX7_copyFrom_60 ?_
      obtain ⟨z26, ez26⟩ : ∃ y : Int32, st25 (20 + 4 * 0 + 3) k5 = y := ⟨_, rfl⟩
      refine zz_top (v := z26) (by rw [nI_clamp (by omega)]; exact ez26) ?_
      refine va_iast hx hb hK hP (xD hN _ _ _ _ _ _) hS (20 + 4 * 2 + 3) (20 + 4 * 2 + 3) (xw_is (r := (20 + 4 * 2 + 3)) (by omega) (xc_sn (q := 2) (o := 3) (by omega) (by omega))) (xt_is (r := (20 + 4 * 2 + 3)) (by omega) ((xty_sn (q := 2) (o := 3) (by omega) (by omega)).trans rfl)) (i := (nI k5)) (vp_in_nI (by omega) (by decide)) dX7_copyFrom_61 (fun H locs hP _ hS => ?_)
      rw [nI_clamp (by omega)] at hP
      have hP : va_P (dC, dI) vwCl (xw A C nb (up2 st25 (20 + 4 * 2 + 3) k5 z26) sl7 so23) H := by rw [← xset (r := (20 + 4 * 2 + 3)) (k := k5) (v := z26) (xc_sn (q := 2) (o := 3) (by omega) (by omega))]; exact hP
      obtain ⟨st27, est27⟩ : ∃ y, y = up2 st25 (20 + 4 * 2 + 3) k5 z26 := ⟨_, rfl⟩
      have hG : XG [1, 2, 3, 6, 7, 8, 9, 10, 11, 12, 13, 14, 15] st st27 := by rw [est27]; exact hG.up (xz (r := (20 + 4 * 2 + 3)) (k := k5) ((xrg_sn (q := 2) (o := 3) (by omega) (by omega)).trans (by first | rfl | decide))) (xpn (c := 4) ((xcl_sn (q := 2) (o := 3) (k := k5) (by omega) (by omega)).trans (by first | rfl | decide)) (by decide))
      rw [← est27] at hP
      refine lv_iinc (v := (nI (k5 + 1))) (lv' := [(2, .int (nI (k5 + 1))), (0, .ref (A (20 + 4 * 2))), (1, .ref (A (20 + 4 * 0)))]) hx hb dX7_copyFrom_62 hl (k := 0) rfl (nI_add k5 1) (by decide) rfl (fun ls hl => ?_)
      refine lv_goto (tgt := 18) hx hb dX7_copyFrom_65 (by decide) ?_
      exact ih16 (41 - (k5 + 1)) _ _ _ _ (by omega) ⟨(k5 + 1), st27, sl7, so23, rfl, by omega, by omega, by show st27 (20 + 4 * 2) 3 = _; rw [est27, up2_ne (r := (20 + 4 * 2 + 3)) (k := k5) (a := (20 + 4 * 2)) (j := 3) _ _ (by omega), est25, up2_ne (r := (20 + 4 * 2 + 2)) (k := k5) (a := (20 + 4 * 2)) (j := 3) _ _ (by omega), hv11_0], fun jj hk => by show st27 (20 + 4 * 2 + 3) jj = st (20 + 4 * 0 + 3) jj; by_cases ee : jj = k5; (rw [ee, est27, up2_same]; exact (show z26 = st (20 + 4 * 0 + 3) k5 by rw [← ez26, est25, up2_o _ (by omega), hv14_3 _ (by omega)])); (rw [est27, up2_ne (r := (20 + 4 * 2 + 3)) (k := k5) (a := (20 + 4 * 2 + 3)) (j := jj) _ _ (by omega), est25, up2_ne (r := (20 + 4 * 2 + 2)) (k := k5) (a := (20 + 4 * 2 + 3)) (j := jj) _ _ (by omega)]; exact hv12_1 jj (by omega)), fun jj hk => by show so23 (20 + 4 * 2 + 1) jj = so (20 + 4 * 0 + 1) jj; by_cases ee : jj = k5; (rw [ee, eso23, upO_same]; exact (show (some (ad j17)) = so (20 + 4 * 0 + 1) k5 by rw [← ej17, hv15_4 _ (by omega)])); (rw [eso23, upO_ne (r := (20 + 4 * 2 + 1)) (k := k5) (a := (20 + 4 * 2 + 1)) (j := jj) _ _ (by omega)]; exact hv13_2 jj (by omega)), fun r9 h9 => by rw [est27, up2_o r9 (by omega), est25, up2_o r9 (by omega)]; exact hv14_3 r9 h9, fun r9 h9 => by rw [eso23, upO_o r9 (by omega)]; exact hv15_4 r9 h9, hP, hG, hO, hL, hS, lv_sub hl [0, 1, 2] rfl, rfl⟩
set_option maxHeartbeats 4000000 in
set_option maxRecDepth 100000 in
theorem x_copyS30 (l : Launch) (dC : Nat → ClassId) (dI : Nat → Nat → Nat) (ad : Nat → Nat) (E : EP) (hEE : EC ad E) (A : Nat → Nat) (C : Nat → ClassId) (nb sz : Nat) (hN : XN A) (st : Nat → Nat → Int32) (sl : Nat → Nat → Int64) (so : Nat → XR) (hI : XI st) (hOI : OI ad so) : Met l yX7_copyFrom wsX7_copyFrom ({ frames := 0, cells := 0, slots := 0, locals := 0 }) (va_Pc [.ref (A (20 + 4 * 3)), .ref (A (20 + 4 * 0))] (xPre E dC dI A C nb sz st sl so)) (va_Qv (fun (x : XT) => XG [1, 2, 3, 6, 7, 8, 9, 10, 11, 12, 13, 14, 15] st x.1 ∧ LGq sl x.2.1 ∧ OG ad [1, 2, 3] so x.2.2 ∧ ((SKs ad st so 0 → SKs ad x.1 x.2.2 3) ∧ (∀ q, q < 4 → ¬ q = 3 → SKs ad st so q → SKs ad x.1 x.2.2 q))) (xB dC dI A C nb) (XA A sz)) 0 0 (XA A sz) := by
  refine Met.ofW (cc := cX7_copyFrom) (maxL := 3) (ret := none) (by decide) rfl ?_
  intro p e s m args below meth c s₁ B hml hv
  obtain ⟨rfl, hsz, hP, hK, hE⟩ := hv
  have hx := B.exec
  have hb := B.bytes
  have hr := B.returns
  have hts := atoms_spec (ws := wsX7_copyFrom) B.pre
  have hown : s.vm.findClass RX7 = some m.cls := findClass_of_methodNamed B.named
  subst hsz
  have hEv := hEE.1 _ _ _ hE
  have hS : va_S (XA A s.heap.size) s.heap s.heap [] := va_S.rf
  have hG : XG [1, 2, 3, 6, 7, 8, 9, 10, 11, 12, 13, 14, 15] st st := XG.rf hI
  have hO : OG ad [1, 2, 3] so so := OG.rf hOI
  have hl := lv_entry ([.ref (A (20 + 4 * 3)), .ref (A (20 + 4 * 0))]) (n := 3) (Nat.le_of_ble_eq_true rfl)
  rw [lg_entry_eq]
  generalize (lg_sl ([.ref (A (20 + 4 * 3)), .ref (A (20 + 4 * 0))]) ++ List.replicate (3 - (lg_sl ([.ref (A (20 + 4 * 3)), .ref (A (20 + 4 * 0))])).length) Slot.unset).toArray = ls at hl ⊢
  have hl : lv_has ls 3 [(0, .ref (A (20 + 4 * 3))), (1, .ref (A (20 + 4 * 0)))] := hl
  have hL : LGq sl sl := LGq.rf
  refine lv_aload_n hx hb dX7_copyFrom_0 rfl (lv_at hl 0 rfl) ?_
  refine lv_aload_n hx hb dX7_copyFrom_1 rfl (lv_at hl 1 rfl) ?_
  refine va_get (D := (dC, dI)) (ci := 8) (v := .int (st (20 + 4 * 0) 3)) (C := RX7) (T := TX7) (N := 5) hx hb hts ii_X7_copyFrom_X7 hown hK hP (20 + 4 * 0) (xw_is (r := (20 + 4 * 0)) (by omega) (xc_sn (q := 0) (o := 0) (by omega) (by omega))) rfl 3 (by decide) (hts _ mm_X7_copyFrom_1) (fun _ hh => hh) rfl dX7_copyFrom_2 ?_
  obtain ⟨n1, hn1, en1⟩ := hG.1.at (r := (20 + 4 * 0)) (k := 3) (b := 41) ((xrg_sn (q := 0) (o := 0) (by omega) (by omega)).trans (by first | rfl | decide)) (by decide)
  refine zz_top (v := nI n1) (by exact en1) ?_
  refine va_put (D := (dC, dI)) (ci := 8) (v := .int (nI n1)) (ty := .int) (C := RX7) (T := TX7) (N := 5) hx hb hts ii_X7_copyFrom_X7 tyX7 tyX7_ok nmX7 hown hK hP (xD hN _ _ _ _ _ _) hS (20 + 4 * 3) (xw_is (r := (20 + 4 * 3)) (by omega) (xc_sn (q := 3) (o := 0) (by omega) (by omega))) rfl 3 (by decide) (hts _ mm_X7_copyFrom_1) (fun _ hh => hh) rfl (by decide +kernel) rfl rfl (Nat.le_of_ble_eq_true rfl) dX7_copyFrom_5 (fun H locs hP _ hS => ?_)
  have hP : va_P (dC, dI) vwCl (xw A C nb (up2 st (20 + 4 * 3) 3 (nI n1)) sl so) H := by rw [← xset (r := (20 + 4 * 3)) (k := 3) (v := (nI n1)) (xc_sn (q := 3) (o := 0) (by omega) (by omega))]; exact hP
  obtain ⟨st2, est2⟩ : ∃ y, y = up2 st (20 + 4 * 3) 3 (nI n1) := ⟨_, rfl⟩
  have hG : XG [1, 2, 3, 6, 7, 8, 9, 10, 11, 12, 13, 14, 15] st st2 := by rw [est2]; exact hG.up (xn (n := n1) (b := 41) ((xrg_sn (q := 3) (o := 0) (by omega) (by omega)).trans (by first | rfl | decide)) (by omega)) (xpn (c := 5) ((xcl_sn (q := 3) (o := 0) (k := 3) (by omega) (by omega)).trans (by first | rfl | decide)) (by decide))
  rw [← est2] at hP
  refine lv_aload_n hx hb dX7_copyFrom_8 rfl (lv_at hl 0 rfl) ?_
  refine lv_aload_n hx hb dX7_copyFrom_9 rfl (lv_at hl 1 rfl) ?_
  refine va_get (D := (dC, dI)) (ci := 8) (v := .int (st2 (20 + 4 * 0) 4)) (C := RX7) (T := TX7) (N := 5) hx hb hts ii_X7_copyFrom_X7 hown hK hP (20 + 4 * 0) (xw_is (r := (20 + 4 * 0)) (by omega) (xc_sn (q := 0) (o := 0) (by omega) (by omega))) rfl 4 (by decide) (hts _ mm_X7_copyFrom_2) (fun _ hh => hh) rfl dX7_copyFrom_10 ?_
  obtain ⟨z3, ez3⟩ : ∃ y : Int32, st2 (20 + 4 * 0) 4 = y := ⟨_, rfl⟩
  refine zz_top (v := z3) (by exact ez3) ?_
  refine va_put (D := (dC, dI)) (ci := 8) (v := .int z3) (ty := .int) (C := RX7) (T := TX7) (N := 5) hx hb hts ii_X7_copyFrom_X7 tyX7 tyX7_ok nmX7 hown hK hP (xD hN _ _ _ _ _ _) hS (20 + 4 * 3) (xw_is (r := (20 + 4 * 3)) (by omega) (xc_sn (q := 3) (o := 0) (by omega) (by omega))) rfl 4 (by decide) (hts _ mm_X7_copyFrom_2) (fun _ hh => hh) rfl (by decide +kernel) rfl rfl (Nat.le_of_ble_eq_true rfl) dX7_copyFrom_13 (fun H locs hP _ hS => ?_)
  have hP : va_P (dC, dI) vwCl (xw A C nb (up2 st2 (20 + 4 * 3) 4 z3) sl so) H := by rw [← xset (r := (20 + 4 * 3)) (k := 4) (v := z3) (xc_sn (q := 3) (o := 0) (by omega) (by omega))]; exact hP
  obtain ⟨st4, est4⟩ : ∃ y, y = up2 st2 (20 + 4 * 3) 4 z3 := ⟨_, rfl⟩
  have hG : XG [1, 2, 3, 6, 7, 8, 9, 10, 11, 12, 13, 14, 15] st st4 := by rw [est4]; exact hG.up (xz (r := (20 + 4 * 3)) (k := 4) ((xrg_sn (q := 3) (o := 0) (by omega) (by omega)).trans (by first | rfl | decide))) (xpn (c := 0) ((xcl_sn (q := 3) (o := 0) (k := 4) (by omega) (by omega)).trans (by first | rfl | decide)) (by decide))
  rw [← est4] at hP
  refine lv_iconst (v := 0) hx hb dX7_copyFrom_16 (by decide) ?_
  refine lv_istore_n (lv' := [(2, .int 0), (0, .ref (A (20 + 4 * 3))), (1, .ref (A (20 + 4 * 0)))]) hx hb dX7_copyFrom_17 rfl hl (by decide) rfl (fun ls hl => ?_)
  refine zz_wf (fun n stk H locs ls => ∃ k5 : Nat, ∃ st6 : Nat → Nat → Int32, ∃ sl7 : Nat → Nat → Int64, ∃ so8 : Nat → XR, n = 41 - k5 ∧ 0 ≤ k5 ∧ k5 < 41 ∧ st6 (20 + 4 * 3) 3 = nI n1 ∧ (∀ jj, jj < k5 → st6 (20 + 4 * 3 + 3) jj = st (20 + 4 * 0 + 3) jj) ∧ (∀ jj, jj < k5 → so8 (20 + 4 * 3 + 1) jj = so (20 + 4 * 0 + 1) jj) ∧ (∀ r, ¬ (20 + 4 * 3 ≤ r ∧ r < 20 + 4 * 3 + 4) → st6 r = st r) ∧ (∀ r, ¬ (20 + 4 * 3 ≤ r ∧ r < 20 + 4 * 3 + 4) → so8 r = so r) ∧ va_P (dC, dI) vwCl (xw A C nb st6 sl7 so8) H ∧ XG [1, 2, 3, 6, 7, 8, 9, 10, 11, 12, 13, 14, 15] st st6 ∧ OG ad [1, 2, 3] so so8 ∧ LGq sl sl7 ∧ va_S (XA A s.heap.size) s.heap H locs ∧ lv_has ls 3 [(2, .int (nI k5)), (0, .ref (A (20 + 4 * 3))), (1, .ref (A (20 + 4 * 0)))] ∧ stk = []) ?_ (41 - 0) _ _ _ _ ⟨0, st4, sl, so, rfl, by omega, by omega, by show st4 (20 + 4 * 3) 3 = _; rw [est4, up2_ne (r := (20 + 4 * 3)) (k := 4) (a := (20 + 4 * 3)) (j := 3) _ _ (by omega), est2, up2_same], fun jj hk => absurd hk (by omega), fun jj hk => absurd hk (by omega), fun r9 h9 => by rw [est4, up2_o r9 (by omega), est2, up2_o r9 (by omega)], fun r9 h9 => rfl, hP, hG, hO, hL, hS, lv_sub hl [0, 1, 2] rfl, rfl⟩
  rintro nn stk H locs ls ⟨k5, st6, sl7, so8, hm15, hv9_0, hv10_1, hv11_0, hv12_1, hv13_2, hv14_3, hv15_4, hP, hG, hO, hL, hS, hl, rfl⟩ ih16
  refine lv_iload_n hx hb dX7_copyFrom_18 rfl (lv_at hl 0 rfl) ?_
  refine lv_aload_n hx hb dX7_copyFrom_19 rfl (lv_at hl 1 rfl) ?_
  refine va_get (D := (dC, dI)) (ci := 8) (v := .int (st6 (20 + 4 * 3) 3)) (C := RX7) (T := TX7) (N := 5) hx hb hts ii_X7_copyFrom_X7 hown hK hP (20 + 4 * 3) (xw_is (r := (20 + 4 * 3)) (by omega) (xc_sn (q := 3) (o := 0) (by omega) (by omega))) rfl 3 (by decide) (hts _ mm_X7_copyFrom_1) (fun _ hh => hh) rfl dX7_copyFrom_20 ?_
  refine zz_top (v := (nI n1)) (by show st6 (20 + 4 * 3) 3 = _; rw [hv11_0]) ?_
  refine lv_icmp_ge (tgt := 68) hx hb dX7_copyFrom_23 (by decide) (fun c1 => ?_) (fun c1 => ?_)
  · have c1 : n1 ≤ k5 := (nI_leI (a := n1) (b := k5) (by omega) (by omega)).mp c1
    exact W.vret hx hb hr (fun t ht hW => ⟨⟨(st6, sl7, so8), rfl, ⟨hG, hL, hO, ⟨fun hh => SKs.copy (q := 0) (p := 3) (n := n1) hv11_0 en1 (fun jj hk => hv12_1 jj (by omega)) (fun jj hk => hv13_2 jj (by omega)) (by omega) hh, fun q9 h8 h9 hh => SKs.rows (p := 3) hv14_3 hv15_4 h9 hh⟩⟩, xB.of ht hP⟩, hS.F ht⟩) hS.2.2 dX7_copyFrom_68
  · have c1 : ¬ n1 ≤ k5 := fun hh => c1 ((nI_leI (a := n1) (b := k5) (by omega) (by omega)).mpr hh)
    refine lv_aload_n hx hb dX7_copyFrom_26 rfl (lv_at hl 1 rfl) ?_
    refine va_get (D := (dC, dI)) (ci := 8) (v := .ref (A (20 + 4 * 3 + 1))) (C := RX7) (T := TX7) (N := 5) hx hb hts ii_X7_copyFrom_X7 hown hK hP (20 + 4 * 3) (xw_is (r := (20 + 4 * 3)) (by omega) (xc_sn (q := 3) (o := 0) (by omega) (by omega))) rfl 0 (by decide) (hts _ mm_X7_copyFrom_3) (fun _ hh => hh) rfl dX7_copyFrom_27 ?_
    refine lv_iload_n hx hb dX7_copyFrom_30 rfl (lv_at hl 0 rfl) ?_
    refine lv_aload_n hx hb dX7_copyFrom_31 rfl (lv_at hl 2 rfl) ?_
    refine va_get (D := (dC, dI)) (ci := 8) (v := .ref (A (20 + 4 * 0 + 1))) (C := RX7) (T := TX7) (N := 5) hx hb hts ii_X7_copyFrom_X7 hown hK hP (20 + 4 * 0) (xw_is (r := (20 + 4 * 0)) (by omega) (xc_sn (q := 0) (o := 0) (by omega) (by omega))) rfl 0 (by decide) (hts _ mm_X7_copyFrom_3) (fun _ hh => hh) rfl dX7_copyFrom_32 ?_
    refine lv_iload_n hx hb dX7_copyFrom_35 rfl (lv_at hl 0 rfl) ?_
    refine va_aldq hx hb hK hP (20 + 4 * 0 + 1) (20 + 4 * 0 + 1) (xw_is (r := (20 + 4 * 0 + 1)) (by omega) (xc_sn (q := 0) (o := 1) (by omega) (by omega))) (xt_is (r := (20 + 4 * 0 + 1)) (by omega) ((xty_sn (q := 0) (o := 1) (by omega) (by omega)).trans rfl)) (i := (nI k5)) (vp_in_nI (by omega) (by decide)) dX7_copyFrom_36 ?_
    refine zz_topq (r := so8 (20 + 4 * 0 + 1) k5) (by rw [nI_clamp (by omega)]) ?_
    rcases hO.1.1 (20 + 4 * 0 + 1) k5 with ej17 | ⟨j17, hj17, ej17⟩
    · refine zz_topq (r := none) (by exact ej17) ?_
      refine zz_astw (x := none) hx hb hEv hK hP (xD hN _ _ _ _ _ _) hS (20 + 4 * 3 + 1) (20 + 4 * 3 + 1) (xw_is (r := (20 + 4 * 3 + 1)) (by omega) (xc_sn (q := 3) (o := 1) (by omega) (by omega))) (xt_is (r := (20 + 4 * 3 + 1)) (by omega) ((xty_sn (q := 3) (o := 1) (by omega) (by omega)).trans rfl)) (Or.inl rfl) (i := (nI k5)) (vp_in_nI (by omega) (by decide)) dX7_copyFrom_37 (fun H locs hP _ hS => ?_)
      rw [nI_clamp (by omega)] at hP
      have hP : va_P (dC, dI) vwCl (xw A C nb st6 sl7 (upO so8 (20 + 4 * 3 + 1) k5 none)) H := by rw [← xsetO (r := (20 + 4 * 3 + 1)) (k := k5) (v := none) (xc_sn (q := 3) (o := 1) (by omega) (by omega))]; exact hP
      obtain ⟨so18, eso18⟩ : ∃ y, y = upO so8 (20 + 4 * 3 + 1) k5 none := ⟨_, rfl⟩
      have hO : OG ad [1, 2, 3] so so18 := by rw [eso18]; exact hO.up (Or.inl rfl) (fun hh => absurd hh (by omega)) (by decide)
      rw [← eso18] at hP
      refine lv_aload_n hx hb dX7_copyFrom_38 rfl (lv_at hl 1 rfl) ?_
      refine va_get (D := (dC, dI)) (ci := 8) (v := .ref (A (20 + 4 * 3 + 2))) (C := RX7) (T := TX7) (N := 5) hx hb hts ii_X7_copyFrom_X7 hown hK hP (20 + 4 * 3) (xw_is (r := (20 + 4 * 3)) (by omega) (xc_sn (q := 3) (o := 0) (by omega) (by omega))) rfl 1 (by decide) (hts _ mm_X7_copyFrom_4) (fun _ hh => hh) rfl dX7_copyFrom_39 ?_
      refine lv_iload_n hx hb dX7_copyFrom_42 rfl (lv_at hl 0 rfl) ?_
      refine lv_aload_n hx hb dX7_copyFrom_43 rfl (lv_at hl 2 rfl) ?_
      refine va_get (D := (dC, dI)) (ci := 8) (v := .ref (A (20 + 4 * 0 + 2))) (C := RX7) (T := TX7) (N := 5) hx hb hts ii_X7_copyFrom_X7 hown hK hP (20 + 4 * 0) (xw_is (r := (20 + 4 * 0)) (by omega) (xc_sn (q := 0) (o := 0) (by omega) (by omega))) rfl 1 (by decide) (hts _ mm_X7_copyFrom_4) (fun _ hh => hh) rfl dX7_copyFrom_44 ?_
      refine lv_iload_n hx hb dX7_copyFrom_47 rfl (lv_at hl 0 rfl) ?_
      refine va_iald hx hb hK hP (20 + 4 * 0 + 2) (20 + 4 * 0 + 2) (xw_is (r := (20 + 4 * 0 + 2)) (by omega) (xc_sn (q := 0) (o := 2) (by omega) (by omega))) (xt_is (r := (20 + 4 * 0 + 2)) (by omega) ((xty_sn (q := 0) (o := 2) (by omega) (by omega)).trans rfl)) (i := (nI k5)) (vp_in_nI (by omega) (by decide)) dX7_copyFrom_48 ?_
      obtain ⟨z19, ez19⟩ : ∃ y : Int32, st6 (20 + 4 * 0 + 2) k5 = y := ⟨_, rfl⟩
      refine zz_top (v := z19) (by rw [nI_clamp (by omega)]; exact ez19) ?_
      refine va_iast hx hb hK hP (xD hN _ _ _ _ _ _) hS (20 + 4 * 3 + 2) (20 + 4 * 3 + 2) (xw_is (r := (20 + 4 * 3 + 2)) (by omega) (xc_sn (q := 3) (o := 2) (by omega) (by omega))) (xt_is (r := (20 + 4 * 3 + 2)) (by omega) ((xty_sn (q := 3) (o := 2) (by omega) (by omega)).trans rfl)) (i := (nI k5)) (vp_in_nI (by omega) (by decide)) dX7_copyFrom_49 (fun H locs hP _ hS => ?_)
      rw [nI_clamp (by omega)] at hP
      have hP : va_P (dC, dI) vwCl (xw A C nb (up2 st6 (20 + 4 * 3 + 2) k5 z19) sl7 so18) H := by rw [← xset (r := (20 + 4 * 3 + 2)) (k := k5) (v := z19) (xc_sn (q := 3) (o := 2) (by omega) (by omega))]; exact hP
      obtain ⟨st20, est20⟩ : ∃ y, y = up2 st6 (20 + 4 * 3 + 2) k5 z19 := ⟨_, rfl⟩
      have hG : XG [1, 2, 3, 6, 7, 8, 9, 10, 11, 12, 13, 14, 15] st st20 := by rw [est20]; exact hG.up (xz (r := (20 + 4 * 3 + 2)) (k := k5) ((xrg_sn (q := 3) (o := 2) (by omega) (by omega)).trans (by first | rfl | decide))) (xpn (c := 0) ((xcl_sn (q := 3) (o := 2) (k := k5) (by omega) (by omega)).trans (by first | rfl | decide)) (by decide))
      rw [← est20] at hP
      refine lv_aload_n hx hb dX7_copyFrom_50 rfl (lv_at hl 1 rfl) ?_
      refine va_get (D := (dC, dI)) (ci := 8) (v := .ref (A (20 + 4 * 3 + 3))) (C := RX7) (T := TX7) (N := 5) hx hb hts ii_X7_copyFrom_X7 hown hK hP (20 + 4 * 3) (xw_is (r := (20 + 4 * 3)) (by omega) (xc_sn (q := 3) (o := 0) (by omega) (by omega))) rfl 2 (by decide) (hts _ mm_X7_copyFrom_5) (fun _ hh => hh) rfl dX7_copyFrom_51 ?_
      refine lv_iload_n hx hb dX7_copyFrom_54 rfl (lv_at hl 0 rfl) ?_
      refine lv_aload_n hx hb dX7_copyFrom_55 rfl (lv_at hl 2 rfl) ?_
      refine va_get (D := (dC, dI)) (ci := 8) (v := .ref (A (20 + 4 * 0 + 3))) (C := RX7) (T := TX7) (N := 5) hx hb hts ii_X7_copyFrom_X7 hown hK hP (20 + 4 * 0) (xw_is (r := (20 + 4 * 0)) (by omega) (xc_sn (q := 0) (o := 0) (by omega) (by omega))) rfl 2 (by decide) (hts _ mm_X7_copyFrom_5) (fun _ hh => hh) rfl dX7_copyFrom_56 ?_
      refine lv_iload_n hx hb dX7_copyFrom_59 rfl (lv_at hl 0 rfl) ?_
      refine va_iald hx hb hK hP (20 + 4 * 0 + 3) (20 + 4 * 0 + 3) (xw_is (r := (20 + 4 * 0 + 3)) (by omega) (xc_sn (q := 0) (o := 3) (by omega) (by omega))) (xt_is (r := (20 + 4 * 0 + 3)) (by omega) ((xty_sn (q := 0) (o := 3) (by omega) (by omega)).trans rfl)) (i := (nI k5)) (vp_in_nI (by omega) (by decide)) dX7_copyFrom_60 ?_
      obtain ⟨z21, ez21⟩ : ∃ y : Int32, st20 (20 + 4 * 0 + 3) k5 = y := ⟨_, rfl⟩
      refine zz_top (v := z21) (by rw [nI_clamp (by omega)]; exact ez21) ?_
      refine va_iast hx hb hK hP (xD hN _ _ _ _ _ _) hS (20 + 4 * 3 + 3) (20 + 4 * 3 + 3) (xw_is (r := (20 + 4 * 3 + 3)) (by omega) (xc_sn (q := 3) (o := 3) (by omega) (by omega))) (xt_is (r := (20 + 4 * 3 + 3)) (by omega) ((xty_sn (q := 3) (o := 3) (by omega) (by omega)).trans rfl)) (i := (nI k5)) (vp_in_nI (by omega) (by decide)) dX7_copyFrom_61 (fun H locs hP _ hS => ?_)
      rw [nI_clamp (by omega)] at hP
      have hP : va_P (dC, dI) vwCl (xw A C nb (up2 st20 (20 + 4 * 3 + 3) k5 z21) sl7 so18) H := by rw [← xset (r := (20 + 4 * 3 + 3)) (k := k5) (v := z21) (xc_sn (q := 3) (o := 3) (by omega) (by omega))]; exact hP
      obtain ⟨st22, est22⟩ : ∃ y, y = up2 st20 (20 + 4 * 3 + 3) k5 z21 := ⟨_, rfl⟩
      have hG : XG [1, 2, 3, 6, 7, 8, 9, 10, 11, 12, 13, 14, 15] st st22 := by rw [est22]; exact hG.up (xz (r := (20 + 4 * 3 + 3)) (k := k5) ((xrg_sn (q := 3) (o := 3) (by omega) (by omega)).trans (by first | rfl | decide))) (xpn (c := 4) ((xcl_sn (q := 3) (o := 3) (k := k5) (by omega) (by omega)).trans (by first | rfl | decide)) (by decide))
      rw [← est22] at hP
      refine lv_iinc (v := (nI (k5 + 1))) (lv' := [(2, .int (nI (k5 + 1))), (0, .ref (A (20 + 4 * 3))), (1, .ref (A (20 + 4 * 0)))]) hx hb dX7_copyFrom_62 hl (k := 0) rfl (nI_add k5 1) (by decide) rfl (fun ls hl => ?_)
      refine lv_goto (tgt := 18) hx hb dX7_copyFrom_65 (by decide) ?_
      exact ih16 (41 - (k5 + 1)) _ _ _ _ (by omega) ⟨(k5 + 1), st22, sl7, so18, rfl, by omega, by omega, by show st22 (20 + 4 * 3) 3 = _; rw [est22, up2_ne (r := (20 + 4 * 3 + 3)) (k := k5) (a := (20 + 4 * 3)) (j := 3) _ _ (by omega), est20, up2_ne (r := (20 + 4 * 3 + 2)) (k := k5) (a := (20 + 4 * 3)) (j := 3) _ _ (by omega), hv11_0], fun jj hk => by show st22 (20 + 4 * 3 + 3) jj = st (20 + 4 * 0 + 3) jj; by_cases ee : jj = k5; (rw [ee, est22, up2_same]; exact (show z21 = st (20 + 4 * 0 + 3) k5 by rw [← ez21, est20, up2_o _ (by omega), hv14_3 _ (by omega)])); (rw [est22, up2_ne (r := (20 + 4 * 3 + 3)) (k := k5) (a := (20 + 4 * 3 + 3)) (j := jj) _ _ (by omega), est20, up2_ne (r := (20 + 4 * 3 + 2)) (k := k5) (a := (20 + 4 * 3 + 3)) (j := jj) _ _ (by omega)]; exact hv12_1 jj (by omega)), fun jj hk => by show so18 (20 + 4 * 3 + 1) jj = so (20 + 4 * 0 + 1) jj; by_cases ee : jj = k5; (rw [ee, eso18, upO_same]; exact (show none = so (20 + 4 * 0 + 1) k5 by rw [← ej17, hv15_4 _ (by omega)])); (rw [eso18, upO_ne (r := (20 + 4 * 3 + 1)) (k := k5) (a := (20 + 4 * 3 + 1)) (j := jj) _ _ (by omega)]; exact hv13_2 jj (by omega)), fun r9 h9 => by rw [est22, up2_o r9 (by omega), est20, up2_o r9 (by omega)]; exact hv14_3 r9 h9, fun r9 h9 => by rw [eso18, upO_o r9 (by omega)]; exact hv15_4 r9 h9, hP, hG, hO, hL, hS, lv_sub hl [0, 1, 2] rfl, rfl⟩
    · refine zz_topq (r := (some (ad j17))) (by exact ej17) ?_
      refine zz_astw (x := (some (ad j17))) hx hb hEv hK hP (xD hN _ _ _ _ _ _) hS (20 + 4 * 3 + 1) (20 + 4 * 3 + 1) (xw_is (r := (20 + 4 * 3 + 1)) (by omega) (xc_sn (q := 3) (o := 1) (by omega) (by omega))) (xt_is (r := (20 + 4 * 3 + 1)) (by omega) ((xty_sn (q := 3) (o := 1) (by omega) (by omega)).trans rfl)) (isW.of (by omega)) (i := (nI k5)) (vp_in_nI (by omega) (by decide)) dX7_copyFrom_37 (fun H locs hP _ hS => ?_)
      rw [nI_clamp (by omega)] at hP
      have hP : va_P (dC, dI) vwCl (xw A C nb st6 sl7 (upO so8 (20 + 4 * 3 + 1) k5 (some (ad j17)))) H := by rw [← xsetO (r := (20 + 4 * 3 + 1)) (k := k5) (v := (some (ad j17))) (xc_sn (q := 3) (o := 1) (by omega) (by omega))]; exact hP
      obtain ⟨so23, eso23⟩ : ∃ y, y = upO so8 (20 + 4 * 3 + 1) k5 (some (ad j17)) := ⟨_, rfl⟩
      have hO : OG ad [1, 2, 3] so so23 := by rw [eso23]; exact hO.up (isW.of (by omega)) (fun hh => absurd hh (by omega)) (by decide)
      rw [← eso23] at hP
      refine lv_aload_n hx hb dX7_copyFrom_38 rfl (lv_at hl 1 rfl) ?_
      refine va_get (D := (dC, dI)) (ci := 8) (v := .ref (A (20 + 4 * 3 + 2))) (C := RX7) (T := TX7) (N := 5) hx hb hts ii_X7_copyFrom_X7 hown hK hP (20 + 4 * 3) (xw_is (r := (20 + 4 * 3)) (by omega) (xc_sn (q := 3) (o := 0) (by omega) (by omega))) rfl 1 (by decide) (hts _ mm_X7_copyFrom_4) (fun _ hh => hh) rfl dX7_copyFrom_39 ?_
      refine lv_iload_n hx hb dX7_copyFrom_42 rfl (lv_at hl 0 rfl) ?_
      refine lv_aload_n hx hb dX7_copyFrom_43 rfl (lv_at hl 2 rfl) ?_
      refine va_get (D := (dC, dI)) (ci := 8) (v := .ref (A (20 + 4 * 0 + 2))) (C := RX7) (T := TX7) (N := 5) hx hb hts ii_X7_copyFrom_X7 hown hK hP (20 + 4 * 0) (xw_is (r := (20 + 4 * 0)) (by omega) (xc_sn (q := 0) (o := 0) (by omega) (by omega))) rfl 1 (by decide) (hts _ mm_X7_copyFrom_4) (fun _ hh => hh) rfl dX7_copyFrom_44 ?_
      refine lv_iload_n hx hb dX7_copyFrom_47 rfl (lv_at hl 0 rfl) ?_
      refine va_iald hx hb hK hP (20 + 4 * 0 + 2) (20 + 4 * 0 + 2) (xw_is (r := (20 + 4 * 0 + 2)) (by omega) (xc_sn (q := 0) (o := 2) (by omega) (by omega))) (xt_is (r := (20 + 4 * 0 + 2)) (by omega) ((xty_sn (q := 0) (o := 2) (by omega) (by omega)).trans rfl)) (i := (nI k5)) (vp_in_nI (by omega) (by decide)) dX7_copyFrom_48 ?_
      obtain ⟨z24, ez24⟩ : ∃ y : Int32, st6 (20 + 4 * 0 + 2) k5 = y := ⟨_, rfl⟩
      refine zz_top (v := z24) (by rw [nI_clamp (by omega)]; exact ez24) ?_
      refine va_iast hx hb hK hP (xD hN _ _ _ _ _ _) hS (20 + 4 * 3 + 2) (20 + 4 * 3 + 2) (xw_is (r := (20 + 4 * 3 + 2)) (by omega) (xc_sn (q := 3) (o := 2) (by omega) (by omega))) (xt_is (r := (20 + 4 * 3 + 2)) (by omega) ((xty_sn (q := 3) (o := 2) (by omega) (by omega)).trans rfl)) (i := (nI k5)) (vp_in_nI (by omega) (by decide)) dX7_copyFrom_49 (fun H locs hP _ hS => ?_)
      rw [nI_clamp (by omega)] at hP
      have hP : va_P (dC, dI) vwCl (xw A C nb (up2 st6 (20 + 4 * 3 + 2) k5 z24) sl7 so23) H := by rw [← xset (r := (20 + 4 * 3 + 2)) (k := k5) (v := z24) (xc_sn (q := 3) (o := 2) (by omega) (by omega))]; exact hP
      obtain ⟨st25, est25⟩ : ∃ y, y = up2 st6 (20 + 4 * 3 + 2) k5 z24 := ⟨_, rfl⟩
      have hG : XG [1, 2, 3, 6, 7, 8, 9, 10, 11, 12, 13, 14, 15] st st25 := by rw [est25]; exact hG.up (xz (r := (20 + 4 * 3 + 2)) (k := k5) ((xrg_sn (q := 3) (o := 2) (by omega) (by omega)).trans (by first | rfl | decide))) (xpn (c := 0) ((xcl_sn (q := 3) (o := 2) (k := k5) (by omega) (by omega)).trans (by first | rfl | decide)) (by decide))
      rw [← est25] at hP
      refine lv_aload_n hx hb dX7_copyFrom_50 rfl (lv_at hl 1 rfl) ?_
      refine va_get (D := (dC, dI)) (ci := 8) (v := .ref (A (20 + 4 * 3 + 3))) (C := RX7) (T := TX7) (N := 5) hx hb hts ii_X7_copyFrom_X7 hown hK hP (20 + 4 * 3) (xw_is (r := (20 + 4 * 3)) (by omega) (xc_sn (q := 3) (o := 0) (by omega) (by omega))) rfl 2 (by decide) (hts _ mm_X7_copyFrom_5) (fun _ hh => hh) rfl dX7_copyFrom_51 ?_
      refine lv_iload_n hx hb dX7_copyFrom_54 rfl (lv_at hl 0 rfl) ?_
      refine lv_aload_n hx hb dX7_copyFrom_55 rfl (lv_at hl 2 rfl) ?_
      refine va_get (D := (dC, dI)) (ci := 8) (v := .ref (A (20 + 4 * 0 + 3))) (C := RX7) (T := TX7) (N := 5) hx hb hts ii_X7_copyFrom_X7 hown hK hP (20 + 4 * 0) (xw_is (r := (20 + 4 * 0)) (by omega) (xc_sn (q := 0) (o := 0) (by omega) (by omega))) rfl 2 (by decide) (hts _ mm_X7_copyFrom_5) (fun _ hh => hh) rfl dX7_copyFrom_56 ?_
      refine lv_iload_n hx hb dX7_copyFrom_59 rfl (lv_at hl 0 rfl) ?_
      refine va_iald hx hb hK hP (20 + 4 * 0 + 3) (20 + 4 * 0 + 3) (xw_is (r := (20 + 4 * 0 + 3)) (by omega) (xc_sn (q := 0) (o := 3) (by omega) (by omega))) (xt_is (r := (20 + 4 * 0 + 3)) (by omega) ((xty_sn (q := 0) (o := 3) (by omega) (by omega)).trans rfl)) (i := (nI k5)) (vp_in_nI (by omega) (by decide)) dX7_copyFrom_60 ?_
      obtain ⟨z26, ez26⟩ : ∃ y : Int32, st25 (20 + 4 * 0 + 3) k5 = y := ⟨_, rfl⟩
      refine zz_top (v := z26) (by rw [nI_clamp (by omega)]; exact ez26) ?_
      refine va_iast hx hb hK hP (xD hN _ _ _ _ _ _) hS (20 + 4 * 3 + 3) (20 + 4 * 3 + 3) (xw_is (r := (20 + 4 * 3 + 3)) (by omega) (xc_sn (q := 3) (o := 3) (by omega) (by omega))) (xt_is (r := (20 + 4 * 3 + 3)) (by omega) ((xty_sn (q := 3) (o := 3) (by omega) (by omega)).trans rfl)) (i := (nI k5)) (vp_in_nI (by omega) (by decide)) dX7_copyFrom_61 (fun H locs hP _ hS => ?_)
      rw [nI_clamp (by omega)] at hP
      have hP : va_P (dC, dI) vwCl (xw A C nb (up2 st25 (20 + 4 * 3 + 3) k5 z26) sl7 so23) H := by rw [← xset (r := (20 + 4 * 3 + 3)) (k := k5) (v := z26) (xc_sn (q := 3) (o := 3) (by omega) (by omega))]; exact hP
      obtain ⟨st27, est27⟩ : ∃ y, y = up2 st25 (20 + 4 * 3 + 3) k5 z26 := ⟨_, rfl⟩
      have hG : XG [1, 2, 3, 6, 7, 8, 9, 10, 11, 12, 13, 14, 15] st st27 := by rw [est27]; exact hG.up (xz (r := (20 + 4 * 3 + 3)) (k := k5) ((xrg_sn (q := 3) (o := 3) (by omega) (by omega)).trans (by first | rfl | decide))) (xpn (c := 4) ((xcl_sn (q := 3) (o := 3) (k := k5) (by omega) (by omega)).trans (by first | rfl | decide)) (by decide))
      rw [← est27] at hP
      refine lv_iinc (v := (nI (k5 + 1))) (lv' := [(2, .int (nI (k5 + 1))), (0, .ref (A (20 + 4 * 3))), (1, .ref (A (20 + 4 * 0)))]) hx hb dX7_copyFrom_62 hl (k := 0) rfl (nI_add k5 1) (by decide) rfl (fun ls hl => ?_)
      refine lv_goto (tgt := 18) hx hb dX7_copyFrom_65 (by decide) ?_
      exact ih16 (41 - (k5 + 1)) _ _ _ _ (by omega) ⟨(k5 + 1), st27, sl7, so23, rfl, by omega, by omega, by show st27 (20 + 4 * 3) 3 = _; rw [est27, up2_ne (r := (20 + 4 * 3 + 3)) (k := k5) (a := (20 + 4 * 3)) (j := 3) _ _ (by omega), est25, up2_ne (r := (20 + 4 * 3 + 2)) (k := k5) (a := (20 + 4 * 3)) (j := 3) _ _ (by omega), hv11_0], fun jj hk => by show st27 (20 + 4 * 3 + 3) jj = st (20 + 4 * 0 + 3) jj; by_cases ee : jj = k5; (rw [ee, est27, up2_same]; exact (show z26 = st (20 + 4 * 0 + 3) k5 by rw [← ez26, est25, up2_o _ (by omega), hv14_3 _ (by omega)])); (rw [est27, up2_ne (r := (20 + 4 * 3 + 3)) (k := k5) (a := (20 + 4 * 3 + 3)) (j := jj) _ _ (by omega), est25, up2_ne (r := (20 + 4 * 3 + 2)) (k := k5) (a := (20 + 4 * 3 + 3)) (j := jj) _ _ (by omega)]; exact hv12_1 jj (by omega)), fun jj hk => by show so23 (20 + 4 * 3 + 1) jj = so (20 + 4 * 0 + 1) jj; by_cases ee : jj = k5; (rw [ee, eso23, upO_same]; exact (show (some (ad j17)) = so (20 + 4 * 0 + 1) k5 by rw [← ej17, hv15_4 _ (by omega)])); (rw [eso23, upO_ne (r := (20 + 4 * 3 + 1)) (k := k5) (a := (20 + 4 * 3 + 1)) (j := jj) _ _ (by omega)]; exact hv13_2 jj (by omega)), fun r9 h9 => by rw [est27, up2_o r9 (by omega), est25, up2_o r9 (by omega)]; exact hv14_3 r9 h9, fun r9 h9 => by rw [eso23, upO_o r9 (by omega)]; exact hv15_4 r9 h9, hP, hG, hO, hL, hS, lv_sub hl [0, 1, 2] rfl, rfl⟩
set_option maxHeartbeats 4000000 in
set_option maxRecDepth 100000 in
theorem x_copyS02 (l : Launch) (dC : Nat → ClassId) (dI : Nat → Nat → Nat) (ad : Nat → Nat) (E : EP) (hEE : EC ad E) (A : Nat → Nat) (C : Nat → ClassId) (nb sz : Nat) (hN : XN A) (st : Nat → Nat → Int32) (sl : Nat → Nat → Int64) (so : Nat → XR) (hI : XI st) (hOI : OI ad so) : Met l yX7_copyFrom wsX7_copyFrom ({ frames := 0, cells := 0, slots := 0, locals := 0 }) (va_Pc [.ref (A (20 + 4 * 0)), .ref (A (20 + 4 * 2))] (xPre E dC dI A C nb sz st sl so)) (va_Qv (fun (x : XT) => XG [1, 2, 3, 6, 7, 8, 9, 10, 11, 12, 13, 14, 15] st x.1 ∧ LGq sl x.2.1 ∧ OG ad [1, 2, 3] so x.2.2 ∧ ((SKs ad st so 2 → SKs ad x.1 x.2.2 0) ∧ (∀ q, q < 4 → ¬ q = 0 → SKs ad st so q → SKs ad x.1 x.2.2 q))) (xB dC dI A C nb) (XA A sz)) 0 0 (XA A sz) := by
  refine Met.ofW (cc := cX7_copyFrom) (maxL := 3) (ret := none) (by decide) rfl ?_
  intro p e s m args below meth c s₁ B hml hv
  obtain ⟨rfl, hsz, hP, hK, hE⟩ := hv
  have hx := B.exec
  have hb := B.bytes
  have hr := B.returns
  have hts := atoms_spec (ws := wsX7_copyFrom) B.pre
  have hown : s.vm.findClass RX7 = some m.cls := findClass_of_methodNamed B.named
  subst hsz
  have hEv := hEE.1 _ _ _ hE
  have hS : va_S (XA A s.heap.size) s.heap s.heap [] := va_S.rf
  have hG : XG [1, 2, 3, 6, 7, 8, 9, 10, 11, 12, 13, 14, 15] st st := XG.rf hI
  have hO : OG ad [1, 2, 3] so so := OG.rf hOI
  have hl := lv_entry ([.ref (A (20 + 4 * 0)), .ref (A (20 + 4 * 2))]) (n := 3) (Nat.le_of_ble_eq_true rfl)
  rw [lg_entry_eq]
  generalize (lg_sl ([.ref (A (20 + 4 * 0)), .ref (A (20 + 4 * 2))]) ++ List.replicate (3 - (lg_sl ([.ref (A (20 + 4 * 0)), .ref (A (20 + 4 * 2))])).length) Slot.unset).toArray = ls at hl ⊢
  have hl : lv_has ls 3 [(0, .ref (A (20 + 4 * 0))), (1, .ref (A (20 + 4 * 2)))] := hl
  have hL : LGq sl sl := LGq.rf
  refine lv_aload_n hx hb dX7_copyFrom_0 rfl (lv_at hl 0 rfl) ?_
  refine lv_aload_n hx hb dX7_copyFrom_1 rfl (lv_at hl 1 rfl) ?_
  refine va_get (D := (dC, dI)) (ci := 8) (v := .int (st (20 + 4 * 2) 3)) (C := RX7) (T := TX7) (N := 5) hx hb hts ii_X7_copyFrom_X7 hown hK hP (20 + 4 * 2) (xw_is (r := (20 + 4 * 2)) (by omega) (xc_sn (q := 2) (o := 0) (by omega) (by omega))) rfl 3 (by decide) (hts _ mm_X7_copyFrom_1) (fun _ hh => hh) rfl dX7_copyFrom_2 ?_
  obtain ⟨n1, hn1, en1⟩ := hG.1.at (r := (20 + 4 * 2)) (k := 3) (b := 41) ((xrg_sn (q := 2) (o := 0) (by omega) (by omega)).trans (by first | rfl | decide)) (by decide)
  refine zz_top (v := nI n1) (by exact en1) ?_
  refine va_put (D := (dC, dI)) (ci := 8) (v := .int (nI n1)) (ty := .int) (C := RX7) (T := TX7) (N := 5) hx hb hts ii_X7_copyFrom_X7 tyX7 tyX7_ok nmX7 hown hK hP (xD hN _ _ _ _ _ _) hS (20 + 4 * 0) (xw_is (r := (20 + 4 * 0)) (by omega) (xc_sn (q := 0) (o := 0) (by omega) (by omega))) rfl 3 (by decide) (hts _ mm_X7_copyFrom_1) (fun _ hh => hh) rfl (by decide +kernel) rfl rfl (Nat.le_of_ble_eq_true rfl) dX7_copyFrom_5 (fun H locs hP _ hS => ?_)
  have hP : va_P (dC, dI) vwCl (xw A C nb (up2 st (20 + 4 * 0) 3 (nI n1)) sl so) H := by rw [← xset (r := (20 + 4 * 0)) (k := 3) (v := (nI n1)) (xc_sn (q := 0) (o := 0) (by omega) (by omega))]; exact hP
  obtain ⟨st2, est2⟩ : ∃ y, y = up2 st (20 + 4 * 0) 3 (nI n1) := ⟨_, rfl⟩
  have hG : XG [1, 2, 3, 6, 7, 8, 9, 10, 11, 12, 13, 14, 15] st st2 := by rw [est2]; exact hG.up (xn (n := n1) (b := 41) ((xrg_sn (q := 0) (o := 0) (by omega) (by omega)).trans (by first | rfl | decide)) (by omega)) (xpn (c := 5) ((xcl_sn (q := 0) (o := 0) (k := 3) (by omega) (by omega)).trans (by first | rfl | decide)) (by decide))
  rw [← est2] at hP
  refine lv_aload_n hx hb dX7_copyFrom_8 rfl (lv_at hl 0 rfl) ?_
  refine lv_aload_n hx hb dX7_copyFrom_9 rfl (lv_at hl 1 rfl) ?_
  refine va_get (D := (dC, dI)) (ci := 8) (v := .int (st2 (20 + 4 * 2) 4)) (C := RX7) (T := TX7) (N := 5) hx hb hts ii_X7_copyFrom_X7 hown hK hP (20 + 4 * 2) (xw_is (r := (20 + 4 * 2)) (by omega) (xc_sn (q := 2) (o := 0) (by omega) (by omega))) rfl 4 (by decide) (hts _ mm_X7_copyFrom_2) (fun _ hh => hh) rfl dX7_copyFrom_10 ?_
  obtain ⟨z3, ez3⟩ : ∃ y : Int32, st2 (20 + 4 * 2) 4 = y := ⟨_, rfl⟩
  refine zz_top (v := z3) (by exact ez3) ?_
  refine va_put (D := (dC, dI)) (ci := 8) (v := .int z3) (ty := .int) (C := RX7) (T := TX7) (N := 5) hx hb hts ii_X7_copyFrom_X7 tyX7 tyX7_ok nmX7 hown hK hP (xD hN _ _ _ _ _ _) hS (20 + 4 * 0) (xw_is (r := (20 + 4 * 0)) (by omega) (xc_sn (q := 0) (o := 0) (by omega) (by omega))) rfl 4 (by decide) (hts _ mm_X7_copyFrom_2) (fun _ hh => hh) rfl (by decide +kernel) rfl rfl (Nat.le_of_ble_eq_true rfl) dX7_copyFrom_13 (fun H locs hP _ hS => ?_)
  have hP : va_P (dC, dI) vwCl (xw A C nb (up2 st2 (20 + 4 * 0) 4 z3) sl so) H := by rw [← xset (r := (20 + 4 * 0)) (k := 4) (v := z3) (xc_sn (q := 0) (o := 0) (by omega) (by omega))]; exact hP
  obtain ⟨st4, est4⟩ : ∃ y, y = up2 st2 (20 + 4 * 0) 4 z3 := ⟨_, rfl⟩
  have hG : XG [1, 2, 3, 6, 7, 8, 9, 10, 11, 12, 13, 14, 15] st st4 := by rw [est4]; exact hG.up (xz (r := (20 + 4 * 0)) (k := 4) ((xrg_sn (q := 0) (o := 0) (by omega) (by omega)).trans (by first | rfl | decide))) (xpn (c := 0) ((xcl_sn (q := 0) (o := 0) (k := 4) (by omega) (by omega)).trans (by first | rfl | decide)) (by decide))
  rw [← est4] at hP
  refine lv_iconst (v := 0) hx hb dX7_copyFrom_16 (by decide) ?_
  refine lv_istore_n (lv' := [(2, .int 0), (0, .ref (A (20 + 4 * 0))), (1, .ref (A (20 + 4 * 2)))]) hx hb dX7_copyFrom_17 rfl hl (by decide) rfl (fun ls hl => ?_)
  refine zz_wf (fun n stk H locs ls => ∃ k5 : Nat, ∃ st6 : Nat → Nat → Int32, ∃ sl7 : Nat → Nat → Int64, ∃ so8 : Nat → XR, n = 41 - k5 ∧ 0 ≤ k5 ∧ k5 < 41 ∧ st6 (20 + 4 * 0) 3 = nI n1 ∧ (∀ jj, jj < k5 → st6 (20 + 4 * 0 + 3) jj = st (20 + 4 * 2 + 3) jj) ∧ (∀ jj, jj < k5 → so8 (20 + 4 * 0 + 1) jj = so (20 + 4 * 2 + 1) jj) ∧ (∀ r, ¬ (20 + 4 * 0 ≤ r ∧ r < 20 + 4 * 0 + 4) → st6 r = st r) ∧ (∀ r, ¬ (20 + 4 * 0 ≤ r ∧ r < 20 + 4 * 0 + 4) → so8 r = so r) ∧ va_P (dC, dI) vwCl (xw A C nb st6 sl7 so8) H ∧ XG [1, 2, 3, 6, 7, 8, 9, 10, 11, 12, 13, 14, 15] st st6 ∧ OG ad [1, 2, 3] so so8 ∧ LGq sl sl7 ∧ va_S (XA A s.heap.size) s.heap H locs ∧ lv_has ls 3 [(2, .int (nI k5)), (0, .ref (A (20 + 4 * 0))), (1, .ref (A (20 + 4 * 2)))] ∧ stk = []) ?_ (41 - 0) _ _ _ _ ⟨0, st4, sl, so, rfl, by omega, by omega, by show st4 (20 + 4 * 0) 3 = _; rw [est4, up2_ne (r := (20 + 4 * 0)) (k := 4) (a := (20 + 4 * 0)) (j := 3) _ _ (by omega), est2, up2_same], fun jj hk => absurd hk (by omega), fun jj hk => absurd hk (by omega), fun r9 h9 => by rw [est4, up2_o r9 (by omega), est2, up2_o r9 (by omega)], fun r9 h9 => rfl, hP, hG, hO, hL, hS, lv_sub hl [0, 1, 2] rfl, rfl⟩
  rintro nn stk H locs ls ⟨k5, st6, sl7, so8, hm15, hv9_0, hv10_1, hv11_0, hv12_1, hv13_2, hv14_3, hv15_4, hP, hG, hO, hL, hS, hl, rfl⟩ ih16
  refine lv_iload_n hx hb dX7_copyFrom_18 rfl (lv_at hl 0 rfl) ?_
  refine lv_aload_n hx hb dX7_copyFrom_19 rfl (lv_at hl 1 rfl) ?_
  refine va_get (D := (dC, dI)) (ci := 8) (v := .int (st6 (20 + 4 * 0) 3)) (C := RX7) (T := TX7) (N := 5) hx hb hts ii_X7_copyFrom_X7 hown hK hP (20 + 4 * 0) (xw_is (r := (20 + 4 * 0)) (by omega) (xc_sn (q := 0) (o := 0) (by omega) (by omega))) rfl 3 (by decide) (hts _ mm_X7_copyFrom_1) (fun _ hh => hh) rfl dX7_copyFrom_20 ?_
  refine zz_top (v := (nI n1)) (by show st6 (20 + 4 * 0) 3 = _; rw [hv11_0]) ?_
  refine lv_icmp_ge (tgt := 68) hx hb dX7_copyFrom_23 (by decide) (fun c1 => ?_) (fun c1 => ?_)
  · have c1 : n1 ≤ k5 := (nI_leI (a := n1) (b := k5) (by omega) (by omega)).mp c1
    exact W.vret hx hb hr (fun t ht hW => ⟨⟨(st6, sl7, so8), rfl, ⟨hG, hL, hO, ⟨fun hh => SKs.copy (q := 2) (p := 0) (n := n1) hv11_0 en1 (fun jj hk => hv12_1 jj (by omega)) (fun jj hk => hv13_2 jj (by omega)) (by omega) hh, fun q9 h8 h9 hh => SKs.rows (p := 0) hv14_3 hv15_4 h9 hh⟩⟩, xB.of ht hP⟩, hS.F ht⟩) hS.2.2 dX7_copyFrom_68
  · have c1 : ¬ n1 ≤ k5 := fun hh => c1 ((nI_leI (a := n1) (b := k5) (by omega) (by omega)).mpr hh)
    refine lv_aload_n hx hb dX7_copyFrom_26 rfl (lv_at hl 1 rfl) ?_
    refine va_get (D := (dC, dI)) (ci := 8) (v := .ref (A (20 + 4 * 0 + 1))) (C := RX7) (T := TX7) (N := 5) hx hb hts ii_X7_copyFrom_X7 hown hK hP (20 + 4 * 0) (xw_is (r := (20 + 4 * 0)) (by omega) (xc_sn (q := 0) (o := 0) (by omega) (by omega))) rfl 0 (by decide) (hts _ mm_X7_copyFrom_3) (fun _ hh => hh) rfl dX7_copyFrom_27 ?_
    refine lv_iload_n hx hb dX7_copyFrom_30 rfl (lv_at hl 0 rfl) ?_
    refine lv_aload_n hx hb dX7_copyFrom_31 rfl (lv_at hl 2 rfl) ?_
    refine va_get (D := (dC, dI)) (ci := 8) (v := .ref (A (20 + 4 * 2 + 1))) (C := RX7) (T := TX7) (N := 5) hx hb hts ii_X7_copyFrom_X7 hown hK hP (20 + 4 * 2) (xw_is (r := (20 + 4 * 2)) (by omega) (xc_sn (q := 2) (o := 0) (by omega) (by omega))) rfl 0 (by decide) (hts _ mm_X7_copyFrom_3) (fun _ hh => hh) rfl dX7_copyFrom_32 ?_
    refine lv_iload_n hx hb dX7_copyFrom_35 rfl (lv_at hl 0 rfl) ?_
    refine va_aldq hx hb hK hP (20 + 4 * 2 + 1) (20 + 4 * 2 + 1) (xw_is (r := (20 + 4 * 2 + 1)) (by omega) (xc_sn (q := 2) (o := 1) (by omega) (by omega))) (xt_is (r := (20 + 4 * 2 + 1)) (by omega) ((xty_sn (q := 2) (o := 1) (by omega) (by omega)).trans rfl)) (i := (nI k5)) (vp_in_nI (by omega) (by decide)) dX7_copyFrom_36 ?_
    refine zz_topq (r := so8 (20 + 4 * 2 + 1) k5) (by rw [nI_clamp (by omega)]) ?_
    rcases hO.1.1 (20 + 4 * 2 + 1) k5 with ej17 | ⟨j17, hj17, ej17⟩
    · refine zz_topq (r := none) (by exact ej17) ?_
      refine zz_astw (x := none) hx hb hEv hK hP (xD hN _ _ _ _ _ _) hS (20 + 4 * 0 + 1) (20 + 4 * 0 + 1) (xw_is (r := (20 + 4 * 0 + 1)) (by omega) (xc_sn (q := 0) (o := 1) (by omega) (by omega))) (xt_is (r := (20 + 4 * 0 + 1)) (by omega) ((xty_sn (q := 0) (o := 1) (by omega) (by omega)).trans rfl)) (Or.inl rfl) (i := (nI k5)) (vp_in_nI (by omega) (by decide)) dX7_copyFrom_37 (fun H locs hP _ hS => ?_)
      rw [nI_clamp (by omega)] at hP
      have hP : va_P (dC, dI) vwCl (xw A C nb st6 sl7 (upO so8 (20 + 4 * 0 + 1) k5 none)) H := by rw [← xsetO (r := (20 + 4 * 0 + 1)) (k := k5) (v := none) (xc_sn (q := 0) (o := 1) (by omega) (by omega))]; exact hP
      obtain ⟨so18, eso18⟩ : ∃ y, y = upO so8 (20 + 4 * 0 + 1) k5 none := ⟨_, rfl⟩
      have hO : OG ad [1, 2, 3] so so18 := by rw [eso18]; exact hO.up (Or.inl rfl) (fun hh => absurd hh (by omega)) (by decide)
      rw [← eso18] at hP
      refine lv_aload_n hx hb dX7_copyFrom_38 rfl (lv_at hl 1 rfl) ?_
      refine va_get (D := (dC, dI)) (ci := 8) (v := .ref (A (20 + 4 * 0 + 2))) (C := RX7) (T := TX7) (N := 5) hx hb hts ii_X7_copyFrom_X7 hown hK hP (20 + 4 * 0) (xw_is (r := (20 + 4 * 0)) (by omega) (xc_sn (q := 0) (o := 0) (by omega) (by omega))) rfl 1 (by decide) (hts _ mm_X7_copyFrom_4) (fun _ hh => hh) rfl dX7_copyFrom_39 ?_
      refine lv_iload_n hx hb dX7_copyFrom_42 rfl (lv_at hl 0 rfl) ?_
      refine lv_aload_n hx hb dX7_copyFrom_43 rfl (lv_at hl 2 rfl) ?_
      refine va_get (D := (dC, dI)) (ci := 8) (v := .ref (A (20 + 4 * 2 + 2))) (C := RX7) (T := TX7) (N := 5) hx hb hts ii_X7_copyFrom_X7 hown hK hP (20 + 4 * 2) (xw_is (r := (20 + 4 * 2)) (by omega) (xc_sn (q := 2) (o := 0) (by omega) (by omega))) rfl 1 (by decide) (hts _ mm_X7_copyFrom_4) (fun _ hh => hh) rfl dX7_copyFrom_44 ?_
      refine lv_iload_n hx hb dX7_copyFrom_47 rfl (lv_at hl 0 rfl) ?_
      refine va_iald hx hb hK hP (20 + 4 * 2 + 2) (20 + 4 * 2 + 2) (xw_is (r := (20 + 4 * 2 + 2)) (by omega) (xc_sn (q := 2) (o := 2) (by omega) (by omega))) (xt_is (r := (20 + 4 * 2 + 2)) (by omega) ((xty_sn (q := 2) (o := 2) (by omega) (by omega)).trans rfl)) (i := (nI k5)) (vp_in_nI (by omega) (by decide)) dX7_copyFrom_48 ?_
      obtain ⟨z19, ez19⟩ : ∃ y : Int32, st6 (20 + 4 * 2 + 2) k5 = y := ⟨_, rfl⟩
      refine zz_top (v := z19) (by rw [nI_clamp (by omega)]; exact ez19) ?_
      refine va_iast hx hb hK hP (xD hN _ _ _ _ _ _) hS (20 + 4 * 0 + 2) (20 + 4 * 0 + 2) (xw_is (r := (20 + 4 * 0 + 2)) (by omega) (xc_sn (q := 0) (o := 2) (by omega) (by omega))) (xt_is (r := (20 + 4 * 0 + 2)) (by omega) ((xty_sn (q := 0) (o := 2) (by omega) (by omega)).trans rfl)) (i := (nI k5)) (vp_in_nI (by omega) (by decide)) dX7_copyFrom_49 (fun H locs hP _ hS => ?_)
      rw [nI_clamp (by omega)] at hP
      have hP : va_P (dC, dI) vwCl (xw A C nb (up2 st6 (20 + 4 * 0 + 2) k5 z19) sl7 so18) H := by rw [← xset (r := (20 + 4 * 0 + 2)) (k := k5) (v := z19) (xc_sn (q := 0) (o := 2) (by omega) (by omega))]; exact hP
      obtain ⟨st20, est20⟩ : ∃ y, y = up2 st6 (20 + 4 * 0 + 2) k5 z19 := ⟨_, rfl⟩
      have hG : XG [1, 2, 3, 6, 7, 8, 9, 10, 11, 12, 13, 14, 15] st st20 := by rw [est20]; exact hG.up (xz (r := (20 + 4 * 0 + 2)) (k := k5) ((xrg_sn (q := 0) (o := 2) (by omega) (by omega)).trans (by first | rfl | decide))) (xpn (c := 0) ((xcl_sn (q := 0) (o := 2) (k := k5) (by omega) (by omega)).trans (by first | rfl | decide)) (by decide))
      rw [← est20] at hP
      refine lv_aload_n hx hb dX7_copyFrom_50 rfl (lv_at hl 1 rfl) ?_
      refine va_get (D := (dC, dI)) (ci := 8) (v := .ref (A (20 + 4 * 0 + 3))) (C := RX7) (T := TX7) (N := 5) hx hb hts ii_X7_copyFrom_X7 hown hK hP (20 + 4 * 0) (xw_is (r := (20 + 4 * 0)) (by omega) (xc_sn (q := 0) (o := 0) (by omega) (by omega))) rfl 2 (by decide) (hts _ mm_X7_copyFrom_5) (fun _ hh => hh) rfl dX7_copyFrom_51 ?_
      refine lv_iload_n hx hb dX7_copyFrom_54 rfl (lv_at hl 0 rfl) ?_
      refine lv_aload_n hx hb dX7_copyFrom_55 rfl (lv_at hl 2 rfl) ?_
      refine va_get (D := (dC, dI)) (ci := 8) (v := .ref (A (20 + 4 * 2 + 3))) (C := RX7) (T := TX7) (N := 5) hx hb hts ii_X7_copyFrom_X7 hown hK hP (20 + 4 * 2) (xw_is (r := (20 + 4 * 2)) (by omega) (xc_sn (q := 2) (o := 0) (by omega) (by omega))) rfl 2 (by decide) (hts _ mm_X7_copyFrom_5) (fun _ hh => hh) rfl dX7_copyFrom_56 ?_
      refine lv_iload_n hx hb dX7_copyFrom_59 rfl (lv_at hl 0 rfl) ?_
      refine va_iald hx hb hK hP (20 + 4 * 2 + 3) (20 + 4 * 2 + 3) (xw_is (r := (20 + 4 * 2 + 3)) (by omega) (xc_sn (q := 2) (o := 3) (by omega) (by omega))) (xt_is (r := (20 + 4 * 2 + 3)) (by omega) ((xty_sn (q := 2) (o := 3) (by omega) (by omega)).trans rfl)) (i := (nI k5)) (vp_in_nI (by omega) (by decide)) dX7_copyFrom_60 ?_
      obtain ⟨z21, ez21⟩ : ∃ y : Int32, st20 (20 + 4 * 2 + 3) k5 = y := ⟨_, rfl⟩
      refine zz_top (v := z21) (by rw [nI_clamp (by omega)]; exact ez21) ?_
      refine va_iast hx hb hK hP (xD hN _ _ _ _ _ _) hS (20 + 4 * 0 + 3) (20 + 4 * 0 + 3) (xw_is (r := (20 + 4 * 0 + 3)) (by omega) (xc_sn (q := 0) (o := 3) (by omega) (by omega))) (xt_is (r := (20 + 4 * 0 + 3)) (by omega) ((xty_sn (q := 0) (o := 3) (by omega) (by omega)).trans rfl)) (i := (nI k5)) (vp_in_nI (by omega) (by decide)) dX7_copyFrom_61 (fun H locs hP _ hS => ?_)
      rw [nI_clamp (by omega)] at hP
      have hP : va_P (dC, dI) vwCl (xw A C nb (up2 st20 (20 + 4 * 0 + 3) k5 z21) sl7 so18) H := by rw [← xset (r := (20 + 4 * 0 + 3)) (k := k5) (v := z21) (xc_sn (q := 0) (o := 3) (by omega) (by omega))]; exact hP
      obtain ⟨st22, est22⟩ : ∃ y, y = up2 st20 (20 + 4 * 0 + 3) k5 z21 := ⟨_, rfl⟩
      have hG : XG [1, 2, 3, 6, 7, 8, 9, 10, 11, 12, 13, 14, 15] st st22 := by rw [est22]; exact hG.up (xz (r := (20 + 4 * 0 + 3)) (k := k5) ((xrg_sn (q := 0) (o := 3) (by omega) (by omega)).trans (by first | rfl | decide))) (xpn (c := 4) ((xcl_sn (q := 0) (o := 3) (k := k5) (by omega) (by omega)).trans (by first | rfl | decide)) (by decide))
      rw [← est22] at hP
      refine lv_iinc (v := (nI (k5 + 1))) (lv' := [(2, .int (nI (k5 + 1))), (0, .ref (A (20 + 4 * 0))), (1, .ref (A (20 + 4 * 2)))]) hx hb dX7_copyFrom_62 hl (k := 0) rfl (nI_add k5 1) (by decide) rfl (fun ls hl => ?_)
      refine lv_goto (tgt := 18) hx hb dX7_copyFrom_65 (by decide) ?_
      exact ih16 (41 - (k5 + 1)) _ _ _ _ (by omega) ⟨(k5 + 1), st22, sl7, so18, rfl, by omega, by omega, by show st22 (20 + 4 * 0) 3 = _; rw [est22, up2_ne (r := (20 + 4 * 0 + 3)) (k := k5) (a := (20 + 4 * 0)) (j := 3) _ _ (by omega), est20, up2_ne (r := (20 + 4 * 0 + 2)) (k := k5) (a := (20 + 4 * 0)) (j := 3) _ _ (by omega), hv11_0], fun jj hk => by show st22 (20 + 4 * 0 + 3) jj = st (20 + 4 * 2 + 3) jj; by_cases ee : jj = k5; (rw [ee, est22, up2_same]; exact (show z21 = st (20 + 4 * 2 + 3) k5 by rw [← ez21, est20, up2_o _ (by omega), hv14_3 _ (by omega)])); (rw [est22, up2_ne (r := (20 + 4 * 0 + 3)) (k := k5) (a := (20 + 4 * 0 + 3)) (j := jj) _ _ (by omega), est20, up2_ne (r := (20 + 4 * 0 + 2)) (k := k5) (a := (20 + 4 * 0 + 3)) (j := jj) _ _ (by omega)]; exact hv12_1 jj (by omega)), fun jj hk => by show so18 (20 + 4 * 0 + 1) jj = so (20 + 4 * 2 + 1) jj; by_cases ee : jj = k5; (rw [ee, eso18, upO_same]; exact (show none = so (20 + 4 * 2 + 1) k5 by rw [← ej17, hv15_4 _ (by omega)])); (rw [eso18, upO_ne (r := (20 + 4 * 0 + 1)) (k := k5) (a := (20 + 4 * 0 + 1)) (j := jj) _ _ (by omega)]; exact hv13_2 jj (by omega)), fun r9 h9 => by rw [est22, up2_o r9 (by omega), est20, up2_o r9 (by omega)]; exact hv14_3 r9 h9, fun r9 h9 => by rw [eso18, upO_o r9 (by omega)]; exact hv15_4 r9 h9, hP, hG, hO, hL, hS, lv_sub hl [0, 1, 2] rfl, rfl⟩
    · refine zz_topq (r := (some (ad j17))) (by exact ej17) ?_
      refine zz_astw (x := (some (ad j17))) hx hb hEv hK hP (xD hN _ _ _ _ _ _) hS (20 + 4 * 0 + 1) (20 + 4 * 0 + 1) (xw_is (r := (20 + 4 * 0 + 1)) (by omega) (xc_sn (q := 0) (o := 1) (by omega) (by omega))) (xt_is (r := (20 + 4 * 0 + 1)) (by omega) ((xty_sn (q := 0) (o := 1) (by omega) (by omega)).trans rfl)) (isW.of (by omega)) (i := (nI k5)) (vp_in_nI (by omega) (by decide)) dX7_copyFrom_37 (fun H locs hP _ hS => ?_)
      rw [nI_clamp (by omega)] at hP
      have hP : va_P (dC, dI) vwCl (xw A C nb st6 sl7 (upO so8 (20 + 4 * 0 + 1) k5 (some (ad j17)))) H := by rw [← xsetO (r := (20 + 4 * 0 + 1)) (k := k5) (v := (some (ad j17))) (xc_sn (q := 0) (o := 1) (by omega) (by omega))]; exact hP
      obtain ⟨so23, eso23⟩ : ∃ y, y = upO so8 (20 + 4 * 0 + 1) k5 (some (ad j17)) := ⟨_, rfl⟩
      have hO : OG ad [1, 2, 3] so so23 := by rw [eso23]; exact hO.up (isW.of (by omega)) (fun hh => absurd hh (by omega)) (by decide)
      rw [← eso23] at hP
      refine lv_aload_n hx hb dX7_copyFrom_38 rfl (lv_at hl 1 rfl) ?_
      refine va_get (D := (dC, dI)) (ci := 8) (v := .ref (A (20 + 4 * 0 + 2))) (C := RX7) (T := TX7) (N := 5) hx hb hts ii_X7_copyFrom_X7 hown hK hP (20 + 4 * 0) (xw_is (r := (20 + 4 * 0)) (by omega) (xc_sn (q := 0) (o := 0) (by omega) (by omega))) rfl 1 (by decide) (hts _ mm_X7_copyFrom_4) (fun _ hh => hh) rfl dX7_copyFrom_39 ?_
      refine lv_iload_n hx hb dX7_copyFrom_42 rfl (lv_at hl 0 rfl) ?_
      refine lv_aload_n hx hb dX7_copyFrom_43 rfl (lv_at hl 2 rfl) ?_
      refine va_get (D := (dC, dI)) (ci := 8) (v := .ref (A (20 + 4 * 2 + 2))) (C := RX7) (T := TX7) (N := 5) hx hb hts ii_X7_copyFrom_X7 hown hK hP (20 + 4 * 2) (xw_is (r := (20 + 4 * 2)) (by omega) (xc_sn (q := 2) (o := 0) (by omega) (by omega))) rfl 1 (by decide) (hts _ mm_X7_copyFrom_4) (fun _ hh => hh) rfl dX7_copyFrom_44 ?_
      refine lv_iload_n hx hb dX7_copyFrom_47 rfl (lv_at hl 0 rfl) ?_
      refine va_iald hx hb hK hP (20 + 4 * 2 + 2) (20 + 4 * 2 + 2) (xw_is (r := (20 + 4 * 2 + 2)) (by omega) (xc_sn (q := 2) (o := 2) (by omega) (by omega))) (xt_is (r := (20 + 4 * 2 + 2)) (by omega) ((xty_sn (q := 2) (o := 2) (by omega) (by omega)).trans rfl)) (i := (nI k5)) (vp_in_nI (by omega) (by decide)) dX7_copyFrom_48 ?_
      obtain ⟨z24, ez24⟩ : ∃ y : Int32, st6 (20 + 4 * 2 + 2) k5 = y := ⟨_, rfl⟩
      refine zz_top (v := z24) (by rw [nI_clamp (by omega)]; exact ez24) ?_
      refine va_iast hx hb hK hP (xD hN _ _ _ _ _ _) hS (20 + 4 * 0 + 2) (20 + 4 * 0 + 2) (xw_is (r := (20 + 4 * 0 + 2)) (by omega) (xc_sn (q := 0) (o := 2) (by omega) (by omega))) (xt_is (r := (20 + 4 * 0 + 2)) (by omega) ((xty_sn (q := 0) (o := 2) (by omega) (by omega)).trans rfl)) (i := (nI k5)) (vp_in_nI (by omega) (by decide)) dX7_copyFrom_49 (fun H locs hP _ hS => ?_)
      rw [nI_clamp (by omega)] at hP
      have hP : va_P (dC, dI) vwCl (xw A C nb (up2 st6 (20 + 4 * 0 + 2) k5 z24) sl7 so23) H := by rw [← xset (r := (20 + 4 * 0 + 2)) (k := k5) (v := z24) (xc_sn (q := 0) (o := 2) (by omega) (by omega))]; exact hP
      obtain ⟨st25, est25⟩ : ∃ y, y = up2 st6 (20 + 4 * 0 + 2) k5 z24 := ⟨_, rfl⟩
      have hG : XG [1, 2, 3, 6, 7, 8, 9, 10, 11, 12, 13, 14, 15] st st25 := by rw [est25]; exact hG.up (xz (r := (20 + 4 * 0 + 2)) (k := k5) ((xrg_sn (q := 0) (o := 2) (by omega) (by omega)).trans (by first | rfl | decide))) (xpn (c := 0) ((xcl_sn (q := 0) (o := 2) (k := k5) (by omega) (by omega)).trans (by first | rfl | decide)) (by decide))
      rw [← est25] at hP
      refine lv_aload_n hx hb dX7_copyFrom_50 rfl (lv_at hl 1 rfl) ?_
      refine va_get (D := (dC, dI)) (ci := 8) (v := .ref (A (20 + 4 * 0 + 3))) (C := RX7) (T := TX7) (N := 5) hx hb hts ii_X7_copyFrom_X7 hown hK hP (20 + 4 * 0) (xw_is (r := (20 + 4 * 0)) (by omega) (xc_sn (q := 0) (o := 0) (by omega) (by omega))) rfl 2 (by decide) (hts _ mm_X7_copyFrom_5) (fun _ hh => hh) rfl dX7_copyFrom_51 ?_
      refine lv_iload_n hx hb dX7_copyFrom_54 rfl (lv_at hl 0 rfl) ?_
      refine lv_aload_n hx hb dX7_copyFrom_55 rfl (lv_at hl 2 rfl) ?_
      refine va_get (D := (dC, dI)) (ci := 8) (v := .ref (A (20 + 4 * 2 + 3))) (C := RX7) (T := TX7) (N := 5) hx hb hts ii_X7_copyFrom_X7 hown hK hP (20 + 4 * 2) (xw_is (r := (20 + 4 * 2)) (by omega) (xc_sn (q := 2) (o := 0) (by omega) (by omega))) rfl 2 (by decide) (hts _ mm_X7_copyFrom_5) (fun _ hh => hh) rfl dX7_copyFrom_56 ?_
      refine lv_iload_n hx hb dX7_copyFrom_59 rfl (lv_at hl 0 rfl) ?_
      refine va_iald hx hb hK hP (20 + 4 * 2 + 3) (20 + 4 * 2 + 3) (xw_is (r := (20 + 4 * 2 + 3)) (by omega) (xc_sn (q := 2) (o := 3) (by omega) (by omega))) (xt_is (r := (20 + 4 * 2 + 3)) (by omega) ((xty_sn (q := 2) (o := 3) (by omega) (by omega)).trans rfl)) (i := (nI k5)) (vp_in_nI (by omega) (by decide)) dX7_copyFrom_60 ?_
      obtain ⟨z26, ez26⟩ : ∃ y : Int32, st25 (20 + 4 * 2 + 3) k5 = y := ⟨_, rfl⟩
      refine zz_top (v := z26) (by rw [nI_clamp (by omega)]; exact ez26) ?_
      refine va_iast hx hb hK hP (xD hN _ _ _ _ _ _) hS (20 + 4 * 0 + 3) (20 + 4 * 0 + 3) (xw_is (r := (20 + 4 * 0 + 3)) (by omega) (xc_sn (q := 0) (o := 3) (by omega) (by omega))) (xt_is (r := (20 + 4 * 0 + 3)) (by omega) ((xty_sn (q := 0) (o := 3) (by omega) (by omega)).trans rfl)) (i := (nI k5)) (vp_in_nI (by omega) (by decide)) dX7_copyFrom_61 (fun H locs hP _ hS => ?_)
      rw [nI_clamp (by omega)] at hP
      have hP : va_P (dC, dI) vwCl (xw A C nb (up2 st25 (20 + 4 * 0 + 3) k5 z26) sl7 so23) H := by rw [← xset (r := (20 + 4 * 0 + 3)) (k := k5) (v := z26) (xc_sn (q := 0) (o := 3) (by omega) (by omega))]; exact hP
      obtain ⟨st27, est27⟩ : ∃ y, y = up2 st25 (20 + 4 * 0 + 3) k5 z26 := ⟨_, rfl⟩
      have hG : XG [1, 2, 3, 6, 7, 8, 9, 10, 11, 12, 13, 14, 15] st st27 := by rw [est27]; exact hG.up (xz (r := (20 + 4 * 0 + 3)) (k := k5) ((xrg_sn (q := 0) (o := 3) (by omega) (by omega)).trans (by first | rfl | decide))) (xpn (c := 4) ((xcl_sn (q := 0) (o := 3) (k := k5) (by omega) (by omega)).trans (by first | rfl | decide)) (by decide))
      rw [← est27] at hP
      refine lv_iinc (v := (nI (k5 + 1))) (lv' := [(2, .int (nI (k5 + 1))), (0, .ref (A (20 + 4 * 0))), (1, .ref (A (20 + 4 * 2)))]) hx hb dX7_copyFrom_62 hl (k := 0) rfl (nI_add k5 1) (by decide) rfl (fun ls hl => ?_)
      refine lv_goto (tgt := 18) hx hb dX7_copyFrom_65 (by decide) ?_
      exact ih16 (41 - (k5 + 1)) _ _ _ _ (by omega) ⟨(k5 + 1), st27, sl7, so23, rfl, by omega, by omega, by show st27 (20 + 4 * 0) 3 = _; rw [est27, up2_ne (r := (20 + 4 * 0 + 3)) (k := k5) (a := (20 + 4 * 0)) (j := 3) _ _ (by omega), est25, up2_ne (r := (20 + 4 * 0 + 2)) (k := k5) (a := (20 + 4 * 0)) (j := 3) _ _ (by omega), hv11_0], fun jj hk => by show st27 (20 + 4 * 0 + 3) jj = st (20 + 4 * 2 + 3) jj; by_cases ee : jj = k5; (rw [ee, est27, up2_same]; exact (show z26 = st (20 + 4 * 2 + 3) k5 by rw [← ez26, est25, up2_o _ (by omega), hv14_3 _ (by omega)])); (rw [est27, up2_ne (r := (20 + 4 * 0 + 3)) (k := k5) (a := (20 + 4 * 0 + 3)) (j := jj) _ _ (by omega), est25, up2_ne (r := (20 + 4 * 0 + 2)) (k := k5) (a := (20 + 4 * 0 + 3)) (j := jj) _ _ (by omega)]; exact hv12_1 jj (by omega)), fun jj hk => by show so23 (20 + 4 * 0 + 1) jj = so (20 + 4 * 2 + 1) jj; by_cases ee : jj = k5; (rw [ee, eso23, upO_same]; exact (show (some (ad j17)) = so (20 + 4 * 2 + 1) k5 by rw [← ej17, hv15_4 _ (by omega)])); (rw [eso23, upO_ne (r := (20 + 4 * 0 + 1)) (k := k5) (a := (20 + 4 * 0 + 1)) (j := jj) _ _ (by omega)]; exact hv13_2 jj (by omega)), fun r9 h9 => by rw [est27, up2_o r9 (by omega), est25, up2_o r9 (by omega)]; exact hv14_3 r9 h9, fun r9 h9 => by rw [eso23, upO_o r9 (by omega)]; exact hv15_4 r9 h9, hP, hG, hO, hL, hS, lv_sub hl [0, 1, 2] rfl, rfl⟩
set_option maxHeartbeats 4000000 in
set_option maxRecDepth 100000 in
theorem x_copyS03 (l : Launch) (dC : Nat → ClassId) (dI : Nat → Nat → Nat) (ad : Nat → Nat) (E : EP) (hEE : EC ad E) (A : Nat → Nat) (C : Nat → ClassId) (nb sz : Nat) (hN : XN A) (st : Nat → Nat → Int32) (sl : Nat → Nat → Int64) (so : Nat → XR) (hI : XI st) (hOI : OI ad so) : Met l yX7_copyFrom wsX7_copyFrom ({ frames := 0, cells := 0, slots := 0, locals := 0 }) (va_Pc [.ref (A (20 + 4 * 0)), .ref (A (20 + 4 * 3))] (xPre E dC dI A C nb sz st sl so)) (va_Qv (fun (x : XT) => XG [1, 2, 3, 6, 7, 8, 9, 10, 11, 12, 13, 14, 15] st x.1 ∧ LGq sl x.2.1 ∧ OG ad [1, 2, 3] so x.2.2 ∧ ((SKs ad st so 3 → SKs ad x.1 x.2.2 0) ∧ (∀ q, q < 4 → ¬ q = 0 → SKs ad st so q → SKs ad x.1 x.2.2 q))) (xB dC dI A C nb) (XA A sz)) 0 0 (XA A sz) := by
  refine Met.ofW (cc := cX7_copyFrom) (maxL := 3) (ret := none) (by decide) rfl ?_
  intro p e s m args below meth c s₁ B hml hv
  obtain ⟨rfl, hsz, hP, hK, hE⟩ := hv
  have hx := B.exec
  have hb := B.bytes
  have hr := B.returns
  have hts := atoms_spec (ws := wsX7_copyFrom) B.pre
  have hown : s.vm.findClass RX7 = some m.cls := findClass_of_methodNamed B.named
  subst hsz
  have hEv := hEE.1 _ _ _ hE
  have hS : va_S (XA A s.heap.size) s.heap s.heap [] := va_S.rf
  have hG : XG [1, 2, 3, 6, 7, 8, 9, 10, 11, 12, 13, 14, 15] st st := XG.rf hI
  have hO : OG ad [1, 2, 3] so so := OG.rf hOI
  have hl := lv_entry ([.ref (A (20 + 4 * 0)), .ref (A (20 + 4 * 3))]) (n := 3) (Nat.le_of_ble_eq_true rfl)
  rw [lg_entry_eq]
  generalize (lg_sl ([.ref (A (20 + 4 * 0)), .ref (A (20 + 4 * 3))]) ++ List.replicate (3 - (lg_sl ([.ref (A (20 + 4 * 0)), .ref (A (20 + 4 * 3))])).length) Slot.unset).toArray = ls at hl ⊢
  have hl : lv_has ls 3 [(0, .ref (A (20 + 4 * 0))), (1, .ref (A (20 + 4 * 3)))] := hl
  have hL : LGq sl sl := LGq.rf
  refine lv_aload_n hx hb dX7_copyFrom_0 rfl (lv_at hl 0 rfl) ?_
  refine lv_aload_n hx hb dX7_copyFrom_1 rfl (lv_at hl 1 rfl) ?_
  refine va_get (D := (dC, dI)) (ci := 8) (v := .int (st (20 + 4 * 3) 3)) (C := RX7) (T := TX7) (N := 5) hx hb hts ii_X7_copyFrom_X7 hown hK hP (20 + 4 * 3) (xw_is (r := (20 + 4 * 3)) (by omega) (xc_sn (q := 3) (o := 0) (by omega) (by omega))) rfl 3 (by decide) (hts _ mm_X7_copyFrom_1) (fun _ hh => hh) rfl dX7_copyFrom_2 ?_
  obtain ⟨n1, hn1, en1⟩ := hG.1.at (r := (20 + 4 * 3)) (k := 3) (b := 41) ((xrg_sn (q := 3) (o := 0) (by omega) (by omega)).trans (by first | rfl | decide)) (by decide)
  refine zz_top (v := nI n1) (by exact en1) ?_
  refine va_put (D := (dC, dI)) (ci := 8) (v := .int (nI n1)) (ty := .int) (C := RX7) (T := TX7) (N := 5) hx hb hts ii_X7_copyFrom_X7 tyX7 tyX7_ok nmX7 hown hK hP (xD hN _ _ _ _ _ _) hS (20 + 4 * 0) (xw_is (r := (20 + 4 * 0)) (by omega) (xc_sn (q := 0) (o := 0) (by omega) (by omega))) rfl 3 (by decide) (hts _ mm_X7_copyFrom_1) (fun _ hh => hh) rfl (by decide +kernel) rfl rfl (Nat.le_of_ble_eq_true rfl) dX7_copyFrom_5 (fun H locs hP _ hS => ?_)
  have hP : va_P (dC, dI) vwCl (xw A C nb (up2 st (20 + 4 * 0) 3 (nI n1)) sl so) H := by rw [← xset (r := (20 + 4 * 0)) (k := 3) (v := (nI n1)) (xc_sn (q := 0) (o := 0) (by omega) (by omega))]; exact hP
  obtain ⟨st2, est2⟩ : ∃ y, y = up2 st (20 + 4 * 0) 3 (nI n1) := ⟨_, rfl⟩
  have hG : XG [1, 2, 3, 6, 7, 8, 9, 10, 11, 12, 13, 14, 15] st st2 := by rw [est2]; exact hG.up (xn (n := n1) (b := 41) ((xrg_sn (q := 0) (o := 0) (by omega) (by omega)).trans (by first | rfl | decide)) (by omega)) (xpn (c := 5) ((xcl_sn (q := 0) (o := 0) (k := 3) (by omega) (by omega)).trans (by first | rfl | decide)) (by decide))
  rw [← est2] at hP
  refine lv_aload_n hx hb dX7_copyFrom_8 rfl (lv_at hl 0 rfl) ?_
  refine lv_aload_n hx hb dX7_copyFrom_9 rfl (lv_at hl 1 rfl) ?_
  refine va_get (D := (dC, dI)) (ci := 8) (v := .int (st2 (20 + 4 * 3) 4)) (C := RX7) (T := TX7) (N := 5) hx hb hts ii_X7_copyFrom_X7 hown hK hP (20 + 4 * 3) (xw_is (r := (20 + 4 * 3)) (by omega) (xc_sn (q := 3) (o := 0) (by omega) (by omega))) rfl 4 (by decide) (hts _ mm_X7_copyFrom_2) (fun _ hh => hh) rfl dX7_copyFrom_10 ?_
  obtain ⟨z3, ez3⟩ : ∃ y : Int32, st2 (20 + 4 * 3) 4 = y := ⟨_, rfl⟩
  refine zz_top (v := z3) (by exact ez3) ?_
  refine va_put (D := (dC, dI)) (ci := 8) (v := .int z3) (ty := .int) (C := RX7) (T := TX7) (N := 5) hx hb hts ii_X7_copyFrom_X7 tyX7 tyX7_ok nmX7 hown hK hP (xD hN _ _ _ _ _ _) hS (20 + 4 * 0) (xw_is (r := (20 + 4 * 0)) (by omega) (xc_sn (q := 0) (o := 0) (by omega) (by omega))) rfl 4 (by decide) (hts _ mm_X7_copyFrom_2) (fun _ hh => hh) rfl (by decide +kernel) rfl rfl (Nat.le_of_ble_eq_true rfl) dX7_copyFrom_13 (fun H locs hP _ hS => ?_)
  have hP : va_P (dC, dI) vwCl (xw A C nb (up2 st2 (20 + 4 * 0) 4 z3) sl so) H := by rw [← xset (r := (20 + 4 * 0)) (k := 4) (v := z3) (xc_sn (q := 0) (o := 0) (by omega) (by omega))]; exact hP
  obtain ⟨st4, est4⟩ : ∃ y, y = up2 st2 (20 + 4 * 0) 4 z3 := ⟨_, rfl⟩
  have hG : XG [1, 2, 3, 6, 7, 8, 9, 10, 11, 12, 13, 14, 15] st st4 := by rw [est4]; exact hG.up (xz (r := (20 + 4 * 0)) (k := 4) ((xrg_sn (q := 0) (o := 0) (by omega) (by omega)).trans (by first | rfl | decide))) (xpn (c := 0) ((xcl_sn (q := 0) (o := 0) (k := 4) (by omega) (by omega)).trans (by first | rfl | decide)) (by decide))
  rw [← est4] at hP
  refine lv_iconst (v := 0) hx hb dX7_copyFrom_16 (by decide) ?_
  refine lv_istore_n (lv' := [(2, .int 0), (0, .ref (A (20 + 4 * 0))), (1, .ref (A (20 + 4 * 3)))]) hx hb dX7_copyFrom_17 rfl hl (by decide) rfl (fun ls hl => ?_)
  refine zz_wf (fun n stk H locs ls => ∃ k5 : Nat, ∃ st6 : Nat → Nat → Int32, ∃ sl7 : Nat → Nat → Int64, ∃ so8 : Nat → XR, n = 41 - k5 ∧ 0 ≤ k5 ∧ k5 < 41 ∧ st6 (20 + 4 * 0) 3 = nI n1 ∧ (∀ jj, jj < k5 → st6 (20 + 4 * 0 + 3) jj = st (20 + 4 * 3 + 3) jj) ∧ (∀ jj, jj < k5 → so8 (20 + 4 * 0 + 1) jj = so (20 + 4 * 3 + 1) jj) ∧ (∀ r, ¬ (20 + 4 * 0 ≤ r ∧ r < 20 + 4 * 0 + 4) → st6 r = st r) ∧ (∀ r, ¬ (20 + 4 * 0 ≤ r ∧ r < 20 + 4 * 0 + 4) → so8 r = so r) ∧ va_P (dC, dI) vwCl (xw A C nb st6 sl7 so8) H ∧ XG [1, 2, 3, 6, 7, 8, 9, 10, 11, 12, 13, 14, 15] st st6 ∧ OG ad [1, 2, 3] so so8 ∧ LGq sl sl7 ∧ va_S (XA A s.heap.size) s.heap H locs ∧ lv_has ls 3 [(2, .int (nI k5)), (0, .ref (A (20 + 4 * 0))), (1, .ref (A (20 + 4 * 3)))] ∧ stk = []) ?_ (41 - 0) _ _ _ _ ⟨0, st4, sl, so, rfl, by omega, by omega, by show st4 (20 + 4 * 0) 3 = _; rw [est4, up2_ne (r := (20 + 4 * 0)) (k := 4) (a := (20 + 4 * 0)) (j := 3) _ _ (by omega), est2, up2_same], fun jj hk => absurd hk (by omega), fun jj hk => absurd hk (by omega), fun r9 h9 => by rw [est4, up2_o r9 (by omega), est2, up2_o r9 (by omega)], fun r9 h9 => rfl, hP, hG, hO, hL, hS, lv_sub hl [0, 1, 2] rfl, rfl⟩
  rintro nn stk H locs ls ⟨k5, st6, sl7, so8, hm15, hv9_0, hv10_1, hv11_0, hv12_1, hv13_2, hv14_3, hv15_4, hP, hG, hO, hL, hS, hl, rfl⟩ ih16
  refine lv_iload_n hx hb dX7_copyFrom_18 rfl (lv_at hl 0 rfl) ?_
  refine lv_aload_n hx hb dX7_copyFrom_19 rfl (lv_at hl 1 rfl) ?_
  refine va_get (D := (dC, dI)) (ci := 8) (v := .int (st6 (20 + 4 * 0) 3)) (C := RX7) (T := TX7) (N := 5) hx hb hts ii_X7_copyFrom_X7 hown hK hP (20 + 4 * 0) (xw_is (r := (20 + 4 * 0)) (by omega) (xc_sn (q := 0) (o := 0) (by omega) (by omega))) rfl 3 (by decide) (hts _ mm_X7_copyFrom_1) (fun _ hh => hh) rfl dX7_copyFrom_20 ?_
  refine zz_top (v := (nI n1)) (by show st6 (20 + 4 * 0) 3 = _; rw [hv11_0]) ?_
  refine lv_icmp_ge (tgt := 68) hx hb dX7_copyFrom_23 (by decide) (fun c1 => ?_) (fun c1 => ?_)
  · have c1 : n1 ≤ k5 := (nI_leI (a := n1) (b := k5) (by omega) (by omega)).mp c1
    exact W.vret hx hb hr (fun t ht hW => ⟨⟨(st6, sl7, so8), rfl, ⟨hG, hL, hO, ⟨fun hh => SKs.copy (q := 3) (p := 0) (n := n1) hv11_0 en1 (fun jj hk => hv12_1 jj (by omega)) (fun jj hk => hv13_2 jj (by omega)) (by omega) hh, fun q9 h8 h9 hh => SKs.rows (p := 0) hv14_3 hv15_4 h9 hh⟩⟩, xB.of ht hP⟩, hS.F ht⟩) hS.2.2 dX7_copyFrom_68
  · have c1 : ¬ n1 ≤ k5 := fun hh => c1 ((nI_leI (a := n1) (b := k5) (by omega) (by omega)).mpr hh)
    refine lv_aload_n hx hb dX7_copyFrom_26 rfl (lv_at hl 1 rfl) ?_
    refine va_get (D := (dC, dI)) (ci := 8) (v := .ref (A (20 + 4 * 0 + 1))) (C := RX7) (T := TX7) (N := 5) hx hb hts ii_X7_copyFrom_X7 hown hK hP (20 + 4 * 0) (xw_is (r := (20 + 4 * 0)) (by omega) (xc_sn (q := 0) (o := 0) (by omega) (by omega))) rfl 0 (by decide) (hts _ mm_X7_copyFrom_3) (fun _ hh => hh) rfl dX7_copyFrom_27 ?_
    refine lv_iload_n hx hb dX7_copyFrom_30 rfl (lv_at hl 0 rfl) ?_
    refine lv_aload_n hx hb dX7_copyFrom_31 rfl (lv_at hl 2 rfl) ?_
    refine va_get (D := (dC, dI)) (ci := 8) (v := .ref (A (20 + 4 * 3 + 1))) (C := RX7) (T := TX7) (N := 5) hx hb hts ii_X7_copyFrom_X7 hown hK hP (20 + 4 * 3) (xw_is (r := (20 + 4 * 3)) (by omega) (xc_sn (q := 3) (o := 0) (by omega) (by omega))) rfl 0 (by decide) (hts _ mm_X7_copyFrom_3) (fun _ hh => hh) rfl dX7_copyFrom_32 ?_
    refine lv_iload_n hx hb dX7_copyFrom_35 rfl (lv_at hl 0 rfl) ?_
    refine va_aldq hx hb hK hP (20 + 4 * 3 + 1) (20 + 4 * 3 + 1) (xw_is (r := (20 + 4 * 3 + 1)) (by omega) (xc_sn (q := 3) (o := 1) (by omega) (by omega))) (xt_is (r := (20 + 4 * 3 + 1)) (by omega) ((xty_sn (q := 3) (o := 1) (by omega) (by omega)).trans rfl)) (i := (nI k5)) (vp_in_nI (by omega) (by decide)) dX7_copyFrom_36 ?_
    refine zz_topq (r := so8 (20 + 4 * 3 + 1) k5) (by rw [nI_clamp (by omega)]) ?_
    rcases hO.1.1 (20 + 4 * 3 + 1) k5 with ej17 | ⟨j17, hj17, ej17⟩
    · refine zz_topq (r := none) (by exact ej17) ?_
      refine zz_astw (x := none) hx hb hEv hK hP (xD hN _ _ _ _ _ _) hS (20 + 4 * 0 + 1) (20 + 4 * 0 + 1) (xw_is (r := (20 + 4 * 0 + 1)) (by omega) (xc_sn (q := 0) (o := 1) (by omega) (by omega))) (xt_is (r := (20 + 4 * 0 + 1)) (by omega) ((xty_sn (q := 0) (o := 1) (by omega) (by omega)).trans rfl)) (Or.inl rfl) (i := (nI k5)) (vp_in_nI (by omega) (by decide)) dX7_copyFrom_37 (fun H locs hP _ hS => ?_)
      rw [nI_clamp (by omega)] at hP
      have hP : va_P (dC, dI) vwCl (xw A C nb st6 sl7 (upO so8 (20 + 4 * 0 + 1) k5 none)) H := by rw [← xsetO (r := (20 + 4 * 0 + 1)) (k := k5) (v := none) (xc_sn (q := 0) (o := 1) (by omega) (by omega))]; exact hP
      obtain ⟨so18, eso18⟩ : ∃ y, y = upO so8 (20 + 4 * 0 + 1) k5 none := ⟨_, rfl⟩
      have hO : OG ad [1, 2, 3] so so18 := by rw [eso18]; exact hO.up (Or.inl rfl) (fun hh => absurd hh (by omega)) (by decide)
      rw [← eso18] at hP
      refine lv_aload_n hx hb dX7_copyFrom_38 rfl (lv_at hl 1 rfl) ?_
      refine va_get (D := (dC, dI)) (ci := 8) (v := .ref (A (20 + 4 * 0 + 2))) (C := RX7) (T := TX7) (N := 5) hx hb hts ii_X7_copyFrom_X7 hown hK hP (20 + 4 * 0) (xw_is (r := (20 + 4 * 0)) (by omega) (xc_sn (q := 0) (o := 0) (by omega) (by omega))) rfl 1 (by decide) (hts _ mm_X7_copyFrom_4) (fun _ hh => hh) rfl dX7_copyFrom_39 ?_
      refine lv_iload_n hx hb dX7_copyFrom_42 rfl (lv_at hl 0 rfl) ?_
      refine lv_aload_n hx hb dX7_copyFrom_43 rfl (lv_at hl 2 rfl) ?_
      refine va_get (D := (dC, dI)) (ci := 8) (v := .ref (A (20 + 4 * 3 + 2))) (C := RX7) (T := TX7) (N := 5) hx hb hts ii_X7_copyFrom_X7 hown hK hP (20 + 4 * 3) (xw_is (r := (20 + 4 * 3)) (by omega) (xc_sn (q := 3) (o := 0) (by omega) (by omega))) rfl 1 (by decide) (hts _ mm_X7_copyFrom_4) (fun _ hh => hh) rfl dX7_copyFrom_44 ?_
      refine lv_iload_n hx hb dX7_copyFrom_47 rfl (lv_at hl 0 rfl) ?_
      refine va_iald hx hb hK hP (20 + 4 * 3 + 2) (20 + 4 * 3 + 2) (xw_is (r := (20 + 4 * 3 + 2)) (by omega) (xc_sn (q := 3) (o := 2) (by omega) (by omega))) (xt_is (r := (20 + 4 * 3 + 2)) (by omega) ((xty_sn (q := 3) (o := 2) (by omega) (by omega)).trans rfl)) (i := (nI k5)) (vp_in_nI (by omega) (by decide)) dX7_copyFrom_48 ?_
      obtain ⟨z19, ez19⟩ : ∃ y : Int32, st6 (20 + 4 * 3 + 2) k5 = y := ⟨_, rfl⟩
      refine zz_top (v := z19) (by rw [nI_clamp (by omega)]; exact ez19) ?_
      refine va_iast hx hb hK hP (xD hN _ _ _ _ _ _) hS (20 + 4 * 0 + 2) (20 + 4 * 0 + 2) (xw_is (r := (20 + 4 * 0 + 2)) (by omega) (xc_sn (q := 0) (o := 2) (by omega) (by omega))) (xt_is (r := (20 + 4 * 0 + 2)) (by omega) ((xty_sn (q := 0) (o := 2) (by omega) (by omega)).trans rfl)) (i := (nI k5)) (vp_in_nI (by omega) (by decide)) dX7_copyFrom_49 (fun H locs hP _ hS => ?_)
      rw [nI_clamp (by omega)] at hP
      have hP : va_P (dC, dI) vwCl (xw A C nb (up2 st6 (20 + 4 * 0 + 2) k5 z19) sl7 so18) H := by rw [← xset (r := (20 + 4 * 0 + 2)) (k := k5) (v := z19) (xc_sn (q := 0) (o := 2) (by omega) (by omega))]; exact hP
      obtain ⟨st20, est20⟩ : ∃ y, y = up2 st6 (20 + 4 * 0 + 2) k5 z19 := ⟨_, rfl⟩
      have hG : XG [1, 2, 3, 6, 7, 8, 9, 10, 11, 12, 13, 14, 15] st st20 := by rw [est20]; exact hG.up (xz (r := (20 + 4 * 0 + 2)) (k := k5) ((xrg_sn (q := 0) (o := 2) (by omega) (by omega)).trans (by first | rfl | decide))) (xpn (c := 0) ((xcl_sn (q := 0) (o := 2) (k := k5) (by omega) (by omega)).trans (by first | rfl | decide)) (by decide))
      rw [← est20] at hP
      refine lv_aload_n hx hb dX7_copyFrom_50 rfl (lv_at hl 1 rfl) ?_
      refine va_get (D := (dC, dI)) (ci := 8) (v := .ref (A (20 + 4 * 0 + 3))) (C := RX7) (T := TX7) (N := 5) hx hb hts ii_X7_copyFrom_X7 hown hK hP (20 + 4 * 0) (xw_is (r := (20 + 4 * 0)) (by omega) (xc_sn (q := 0) (o := 0) (by omega) (by omega))) rfl 2 (by decide) (hts _ mm_X7_copyFrom_5) (fun _ hh => hh) rfl dX7_copyFrom_51 ?_
      refine lv_iload_n hx hb dX7_copyFrom_54 rfl (lv_at hl 0 rfl) ?_
      refine lv_aload_n hx hb dX7_copyFrom_55 rfl (lv_at hl 2 rfl) ?_
      refine va_get (D := (dC, dI)) (ci := 8) (v := .ref (A (20 + 4 * 3 + 3))) (C := RX7) (T := TX7) (N := 5) hx hb hts ii_X7_copyFrom_X7 hown hK hP (20 + 4 * 3) (xw_is (r := (20 + 4 * 3)) (by omega) (xc_sn (q := 3) (o := 0) (by omega) (by omega))) rfl 2 (by decide) (hts _ mm_X7_copyFrom_5) (fun _ hh => hh) rfl dX7_copyFrom_56 ?_
      refine lv_iload_n hx hb dX7_copyFrom_59 rfl (lv_at hl 0 rfl) ?_
      refine va_iald hx hb hK hP (20 + 4 * 3 + 3) (20 + 4 * 3 + 3) (xw_is (r := (20 + 4 * 3 + 3)) (by omega) (xc_sn (q := 3) (o := 3) (by omega) (by omega))) (xt_is (r := (20 + 4 * 3 + 3)) (by omega) ((xty_sn (q := 3) (o := 3) (by omega) (by omega)).trans rfl)) (i := (nI k5)) (vp_in_nI (by omega) (by decide)) dX7_copyFrom_60 ?_
      obtain ⟨z21, ez21⟩ : ∃ y : Int32, st20 (20 + 4 * 3 + 3) k5 = y := ⟨_, rfl⟩
      refine zz_top (v := z21) (by rw [nI_clamp (by omega)]; exact ez21) ?_
      refine va_iast hx hb hK hP (xD hN _ _ _ _ _ _) hS (20 + 4 * 0 + 3) (20 + 4 * 0 + 3) (xw_is (r := (20 + 4 * 0 + 3)) (by omega) (xc_sn (q := 0) (o := 3) (by omega) (by omega))) (xt_is (r := (20 + 4 * 0 + 3)) (by omega) ((xty_sn (q := 0) (o := 3) (by omega) (by omega)).trans rfl)) (i := (nI k5)) (vp_in_nI (by omega) (by decide)) dX7_copyFrom_61 (fun H locs hP _ hS => ?_)
      rw [nI_clamp (by omega)] at hP
      have hP : va_P (dC, dI) vwCl (xw A C nb (up2 st20 (20 + 4 * 0 + 3) k5 z21) sl7 so18) H := by rw [← xset (r := (20 + 4 * 0 + 3)) (k := k5) (v := z21) (xc_sn (q := 0) (o := 3) (by omega) (by omega))]; exact hP
      obtain ⟨st22, est22⟩ : ∃ y, y = up2 st20 (20 + 4 * 0 + 3) k5 z21 := ⟨_, rfl⟩
      have hG : XG [1, 2, 3, 6, 7, 8, 9, 10, 11, 12, 13, 14, 15] st st22 := by rw [est22]; exact hG.up (xz (r := (20 + 4 * 0 + 3)) (k := k5) ((xrg_sn (q := 0) (o := 3) (by omega) (by omega)).trans (by first | rfl | decide))) (xpn (c := 4) ((xcl_sn (q := 0) (o := 3) (k := k5) (by omega) (by omega)).trans (by first | rfl | decide)) (by decide))
      rw [← est22] at hP
      refine lv_iinc (v := (nI (k5 + 1))) (lv' := [(2, .int (nI (k5 + 1))), (0, .ref (A (20 + 4 * 0))), (1, .ref (A (20 + 4 * 3)))]) hx hb dX7_copyFrom_62 hl (k := 0) rfl (nI_add k5 1) (by decide) rfl (fun ls hl => ?_)
      refine lv_goto (tgt := 18) hx hb dX7_copyFrom_65 (by decide) ?_
      exact ih16 (41 - (k5 + 1)) _ _ _ _ (by omega) ⟨(k5 + 1), st22, sl7, so18, rfl, by omega, by omega, by show st22 (20 + 4 * 0) 3 = _; rw [est22, up2_ne (r := (20 + 4 * 0 + 3)) (k := k5) (a := (20 + 4 * 0)) (j := 3) _ _ (by omega), est20, up2_ne (r := (20 + 4 * 0 + 2)) (k := k5) (a := (20 + 4 * 0)) (j := 3) _ _ (by omega), hv11_0], fun jj hk => by show st22 (20 + 4 * 0 + 3) jj = st (20 + 4 * 3 + 3) jj; by_cases ee : jj = k5; (rw [ee, est22, up2_same]; exact (show z21 = st (20 + 4 * 3 + 3) k5 by rw [← ez21, est20, up2_o _ (by omega), hv14_3 _ (by omega)])); (rw [est22, up2_ne (r := (20 + 4 * 0 + 3)) (k := k5) (a := (20 + 4 * 0 + 3)) (j := jj) _ _ (by omega), est20, up2_ne (r := (20 + 4 * 0 + 2)) (k := k5) (a := (20 + 4 * 0 + 3)) (j := jj) _ _ (by omega)]; exact hv12_1 jj (by omega)), fun jj hk => by show so18 (20 + 4 * 0 + 1) jj = so (20 + 4 * 3 + 1) jj; by_cases ee : jj = k5; (rw [ee, eso18, upO_same]; exact (show none = so (20 + 4 * 3 + 1) k5 by rw [← ej17, hv15_4 _ (by omega)])); (rw [eso18, upO_ne (r := (20 + 4 * 0 + 1)) (k := k5) (a := (20 + 4 * 0 + 1)) (j := jj) _ _ (by omega)]; exact hv13_2 jj (by omega)), fun r9 h9 => by rw [est22, up2_o r9 (by omega), est20, up2_o r9 (by omega)]; exact hv14_3 r9 h9, fun r9 h9 => by rw [eso18, upO_o r9 (by omega)]; exact hv15_4 r9 h9, hP, hG, hO, hL, hS, lv_sub hl [0, 1, 2] rfl, rfl⟩
    · refine zz_topq (r := (some (ad j17))) (by exact ej17) ?_
      refine zz_astw (x := (some (ad j17))) hx hb hEv hK hP (xD hN _ _ _ _ _ _) hS (20 + 4 * 0 + 1) (20 + 4 * 0 + 1) (xw_is (r := (20 + 4 * 0 + 1)) (by omega) (xc_sn (q := 0) (o := 1) (by omega) (by omega))) (xt_is (r := (20 + 4 * 0 + 1)) (by omega) ((xty_sn (q := 0) (o := 1) (by omega) (by omega)).trans rfl)) (isW.of (by omega)) (i := (nI k5)) (vp_in_nI (by omega) (by decide)) dX7_copyFrom_37 (fun H locs hP _ hS => ?_)
      rw [nI_clamp (by omega)] at hP
      have hP : va_P (dC, dI) vwCl (xw A C nb st6 sl7 (upO so8 (20 + 4 * 0 + 1) k5 (some (ad j17)))) H := by rw [← xsetO (r := (20 + 4 * 0 + 1)) (k := k5) (v := (some (ad j17))) (xc_sn (q := 0) (o := 1) (by omega) (by omega))]; exact hP
      obtain ⟨so23, eso23⟩ : ∃ y, y = upO so8 (20 + 4 * 0 + 1) k5 (some (ad j17)) := ⟨_, rfl⟩
      have hO : OG ad [1, 2, 3] so so23 := by rw [eso23]; exact hO.up (isW.of (by omega)) (fun hh => absurd hh (by omega)) (by decide)
      rw [← eso23] at hP
      refine lv_aload_n hx hb dX7_copyFrom_38 rfl (lv_at hl 1 rfl) ?_
      refine va_get (D := (dC, dI)) (ci := 8) (v := .ref (A (20 + 4 * 0 + 2))) (C := RX7) (T := TX7) (N := 5) hx hb hts ii_X7_copyFrom_X7 hown hK hP (20 + 4 * 0) (xw_is (r := (20 + 4 * 0)) (by omega) (xc_sn (q := 0) (o := 0) (by omega) (by omega))) rfl 1 (by decide) (hts _ mm_X7_copyFrom_4) (fun _ hh => hh) rfl dX7_copyFrom_39 ?_
      refine lv_iload_n hx hb dX7_copyFrom_42 rfl (lv_at hl 0 rfl) ?_
      refine lv_aload_n hx hb dX7_copyFrom_43 rfl (lv_at hl 2 rfl) ?_
      refine va_get (D := (dC, dI)) (ci := 8) (v := .ref (A (20 + 4 * 3 + 2))) (C := RX7) (T := TX7) (N := 5) hx hb hts ii_X7_copyFrom_X7 hown hK hP (20 + 4 * 3) (xw_is (r := (20 + 4 * 3)) (by omega) (xc_sn (q := 3) (o := 0) (by omega) (by omega))) rfl 1 (by decide) (hts _ mm_X7_copyFrom_4) (fun _ hh => hh) rfl dX7_copyFrom_44 ?_
      refine lv_iload_n hx hb dX7_copyFrom_47 rfl (lv_at hl 0 rfl) ?_
      refine va_iald hx hb hK hP (20 + 4 * 3 + 2) (20 + 4 * 3 + 2) (xw_is (r := (20 + 4 * 3 + 2)) (by omega) (xc_sn (q := 3) (o := 2) (by omega) (by omega))) (xt_is (r := (20 + 4 * 3 + 2)) (by omega) ((xty_sn (q := 3) (o := 2) (by omega) (by omega)).trans rfl)) (i := (nI k5)) (vp_in_nI (by omega) (by decide)) dX7_copyFrom_48 ?_
      obtain ⟨z24, ez24⟩ : ∃ y : Int32, st6 (20 + 4 * 3 + 2) k5 = y := ⟨_, rfl⟩
      refine zz_top (v := z24) (by rw [nI_clamp (by omega)]; exact ez24) ?_
      refine va_iast hx hb hK hP (xD hN _ _ _ _ _ _) hS (20 + 4 * 0 + 2) (20 + 4 * 0 + 2) (xw_is (r := (20 + 4 * 0 + 2)) (by omega) (xc_sn (q := 0) (o := 2) (by omega) (by omega))) (xt_is (r := (20 + 4 * 0 + 2)) (by omega) ((xty_sn (q := 0) (o := 2) (by omega) (by omega)).trans rfl)) (i := (nI k5)) (vp_in_nI (by omega) (by decide)) dX7_copyFrom_49 (fun H locs hP _ hS => ?_)
      rw [nI_clamp (by omega)] at hP
      have hP : va_P (dC, dI) vwCl (xw A C nb (up2 st6 (20 + 4 * 0 + 2) k5 z24) sl7 so23) H := by rw [← xset (r := (20 + 4 * 0 + 2)) (k := k5) (v := z24) (xc_sn (q := 0) (o := 2) (by omega) (by omega))]; exact hP
      obtain ⟨st25, est25⟩ : ∃ y, y = up2 st6 (20 + 4 * 0 + 2) k5 z24 := ⟨_, rfl⟩
      have hG : XG [1, 2, 3, 6, 7, 8, 9, 10, 11, 12, 13, 14, 15] st st25 := by rw [est25]; exact hG.up (xz (r := (20 + 4 * 0 + 2)) (k := k5) ((xrg_sn (q := 0) (o := 2) (by omega) (by omega)).trans (by first | rfl | decide))) (xpn (c := 0) ((xcl_sn (q := 0) (o := 2) (k := k5) (by omega) (by omega)).trans (by first | rfl | decide)) (by decide))
      rw [← est25] at hP
      refine lv_aload_n hx hb dX7_copyFrom_50 rfl (lv_at hl 1 rfl) ?_
      refine va_get (D := (dC, dI)) (ci := 8) (v := .ref (A (20 + 4 * 0 + 3))) (C := RX7) (T := TX7) (N := 5) hx hb hts ii_X7_copyFrom_X7 hown hK hP (20 + 4 * 0) (xw_is (r := (20 + 4 * 0)) (by omega) (xc_sn (q := 0) (o := 0) (by omega) (by omega))) rfl 2 (by decide) (hts _ mm_X7_copyFrom_5) (fun _ hh => hh) rfl dX7_copyFrom_51 ?_
      refine lv_iload_n hx hb dX7_copyFrom_54 rfl (lv_at hl 0 rfl) ?_
      refine lv_aload_n hx hb dX7_copyFrom_55 rfl (lv_at hl 2 rfl) ?_
      refine va_get (D := (dC, dI)) (ci := 8) (v := .ref (A (20 + 4 * 3 + 3))) (C := RX7) (T := TX7) (N := 5) hx hb hts ii_X7_copyFrom_X7 hown hK hP (20 + 4 * 3) (xw_is (r := (20 + 4 * 3)) (by omega) (xc_sn (q := 3) (o := 0) (by omega) (by omega))) rfl 2 (by decide) (hts _ mm_X7_copyFrom_5) (fun _ hh => hh) rfl dX7_copyFrom_56 ?_
      refine lv_iload_n hx hb dX7_copyFrom_59 rfl (lv_at hl 0 rfl) ?_
      refine va_iald hx hb hK hP (20 + 4 * 3 + 3) (20 + 4 * 3 + 3) (xw_is (r := (20 + 4 * 3 + 3)) (by omega) (xc_sn (q := 3) (o := 3) (by omega) (by omega))) (xt_is (r := (20 + 4 * 3 + 3)) (by omega) ((xty_sn (q := 3) (o := 3) (by omega) (by omega)).trans rfl)) (i := (nI k5)) (vp_in_nI (by omega) (by decide)) dX7_copyFrom_60 ?_
      obtain ⟨z26, ez26⟩ : ∃ y : Int32, st25 (20 + 4 * 3 + 3) k5 = y := ⟨_, rfl⟩
      refine zz_top (v := z26) (by rw [nI_clamp (by omega)]; exact ez26) ?_
      refine va_iast hx hb hK hP (xD hN _ _ _ _ _ _) hS (20 + 4 * 0 + 3) (20 + 4 * 0 + 3) (xw_is (r := (20 + 4 * 0 + 3)) (by omega) (xc_sn (q := 0) (o := 3) (by omega) (by omega))) (xt_is (r := (20 + 4 * 0 + 3)) (by omega) ((xty_sn (q := 0) (o := 3) (by omega) (by omega)).trans rfl)) (i := (nI k5)) (vp_in_nI (by omega) (by decide)) dX7_copyFrom_61 (fun H locs hP _ hS => ?_)
      rw [nI_clamp (by omega)] at hP
      have hP : va_P (dC, dI) vwCl (xw A C nb (up2 st25 (20 + 4 * 0 + 3) k5 z26) sl7 so23) H := by rw [← xset (r := (20 + 4 * 0 + 3)) (k := k5) (v := z26) (xc_sn (q := 0) (o := 3) (by omega) (by omega))]; exact hP
      obtain ⟨st27, est27⟩ : ∃ y, y = up2 st25 (20 + 4 * 0 + 3) k5 z26 := ⟨_, rfl⟩
      have hG : XG [1, 2, 3, 6, 7, 8, 9, 10, 11, 12, 13, 14, 15] st st27 := by rw [est27]; exact hG.up (xz (r := (20 + 4 * 0 + 3)) (k := k5) ((xrg_sn (q := 0) (o := 3) (by omega) (by omega)).trans (by first | rfl | decide))) (xpn (c := 4) ((xcl_sn (q := 0) (o := 3) (k := k5) (by omega) (by omega)).trans (by first | rfl | decide)) (by decide))
      rw [← est27] at hP
      refine lv_iinc (v := (nI (k5 + 1))) (lv' := [(2, .int (nI (k5 + 1))), (0, .ref (A (20 + 4 * 0))), (1, .ref (A (20 + 4 * 3)))]) hx hb dX7_copyFrom_62 hl (k := 0) rfl (nI_add k5 1) (by decide) rfl (fun ls hl => ?_)
      refine lv_goto (tgt := 18) hx hb dX7_copyFrom_65 (by decide) ?_
      exact ih16 (41 - (k5 + 1)) _ _ _ _ (by omega) ⟨(k5 + 1), st27, sl7, so23, rfl, by omega, by omega, by show st27 (20 + 4 * 0) 3 = _; rw [est27, up2_ne (r := (20 + 4 * 0 + 3)) (k := k5) (a := (20 + 4 * 0)) (j := 3) _ _ (by omega), est25, up2_ne (r := (20 + 4 * 0 + 2)) (k := k5) (a := (20 + 4 * 0)) (j := 3) _ _ (by omega), hv11_0], fun jj hk => by show st27 (20 + 4 * 0 + 3) jj = st (20 + 4 * 3 + 3) jj; by_cases ee : jj = k5; (rw [ee, est27, up2_same]; exact (show z26 = st (20 + 4 * 3 + 3) k5 by rw [← ez26, est25, up2_o _ (by omega), hv14_3 _ (by omega)])); (rw [est27, up2_ne (r := (20 + 4 * 0 + 3)) (k := k5) (a := (20 + 4 * 0 + 3)) (j := jj) _ _ (by omega), est25, up2_ne (r := (20 + 4 * 0 + 2)) (k := k5) (a := (20 + 4 * 0 + 3)) (j := jj) _ _ (by omega)]; exact hv12_1 jj (by omega)), fun jj hk => by show so23 (20 + 4 * 0 + 1) jj = so (20 + 4 * 3 + 1) jj; by_cases ee : jj = k5; (rw [ee, eso23, upO_same]; exact (show (some (ad j17)) = so (20 + 4 * 3 + 1) k5 by rw [← ej17, hv15_4 _ (by omega)])); (rw [eso23, upO_ne (r := (20 + 4 * 0 + 1)) (k := k5) (a := (20 + 4 * 0 + 1)) (j := jj) _ _ (by omega)]; exact hv13_2 jj (by omega)), fun r9 h9 => by rw [est27, up2_o r9 (by omega), est25, up2_o r9 (by omega)]; exact hv14_3 r9 h9, fun r9 h9 => by rw [eso23, upO_o r9 (by omega)]; exact hv15_4 r9 h9, hP, hG, hO, hL, hS, lv_sub hl [0, 1, 2] rfl, rfl⟩
set_option maxHeartbeats 4000000 in
set_option maxRecDepth 100000 in
theorem x_X7_compares (l : Launch) (dC : Nat → ClassId) (dI : Nat → Nat → Nat) (ad : Nat → Nat) (E : EP) (hEE : EC ad E) (A : Nat → Nat) (C : Nat → ClassId) (nb sz : Nat) (hN : XN A) (st : Nat → Nat → Int32) (sl : Nat → Nat → Int64) (so : Nat → XR) (va : Int32) (vb : Int32) (vc : Int32) (hI : XI st) : Met l yX7_compares wsX7_compares ({ frames := 0, cells := 0, slots := 0, locals := 0 }) (va_Pc [.int va, .int vb, .int vc] (xPre E dC dI A C nb sz st sl so)) (va_Qi (fun (r : Int32) (x : XT) => x = (st, sl, so) ∧ ((r = 1) ∨ (r = 0))) (xB dC dI A C nb) (XA A sz)) 0 0 (XA A sz) := by
  refine Met.ofW (cc := cX7_compares) (maxL := 3) (ret := (some .boolean)) (by decide) rfl ?_
  intro p e s m args below meth c s₁ B hml hv
  obtain ⟨rfl, hsz, hP, hK, hE⟩ := hv
  have hx := B.exec
  have hb := B.bytes
  have hr := B.returns
  have hts := atoms_spec (ws := wsX7_compares) B.pre
  have hown : s.vm.findClass RX7 = some m.cls := findClass_of_methodNamed B.named
  subst hsz
  have hEv := hEE.1 _ _ _ hE
  have hS : va_S (XA A s.heap.size) s.heap s.heap [] := va_S.rf
  have hG : XG [1, 2, 3, 4, 5, 6, 7, 8, 9, 10, 11, 12, 13, 14, 15] st st := XG.rf hI
  have hl := lv_entry ([.int va, .int vb, .int vc]) (n := 3) (Nat.le_of_ble_eq_true rfl)
  rw [lg_entry_eq]
  generalize (lg_sl ([.int va, .int vb, .int vc]) ++ List.replicate (3 - (lg_sl ([.int va, .int vb, .int vc])).length) Slot.unset).toArray = ls at hl ⊢
  have hl : lv_has ls 3 [(0, .int va), (1, .int vb), (2, .int vc)] := hl
  refine lv_iload_n hx hb dX7_compares_0 rfl (lv_at hl 1 rfl) ?_
  refine lv_bipush (v := 60) hx hb dX7_compares_1 (by decide) ?_
  refine lv_icmp_ne (tgt := 19) hx hb dX7_compares_3 (by decide) (fun c1 => ?_) (fun c1 => ?_)
  · refine lv_iload_n hx hb dX7_compares_19 rfl (lv_at hl 1 rfl) ?_
    refine lv_bipush (v := 62) hx hb dX7_compares_20 (by decide) ?_
    refine lv_icmp_ne (tgt := 38) hx hb dX7_compares_22 (by decide) (fun c2 => ?_) (fun c2 => ?_)
    · refine lv_iload_n hx hb dX7_compares_38 rfl (lv_at hl 0 rfl) ?_
      refine lv_iload_n hx hb dX7_compares_39 rfl (lv_at hl 2 rfl) ?_
      refine lv_icmp_ne (tgt := 47) hx hb dX7_compares_40 (by decide) (fun c3 => ?_) (fun c3 => ?_)
      · refine lv_iconst (v := 0) hx hb dX7_compares_47 (by decide) ?_
        exact W.zret (v := 0) hx hb hr rfl (fun t ht hW => ⟨⟨0, (st, sl, so), rfl, ⟨rfl, Or.inr (rfl)⟩, xB.of ht hP⟩, hS.F ht⟩) hS.2.2 dX7_compares_48
      · refine lv_iconst (v := 1) hx hb dX7_compares_43 (by decide) ?_
        refine lv_goto (tgt := 48) hx hb dX7_compares_44 (by decide) ?_
        exact W.zret (v := 1) hx hb hr rfl (fun t ht hW => ⟨⟨1, (st, sl, so), rfl, ⟨rfl, Or.inl (rfl)⟩, xB.of ht hP⟩, hS.F ht⟩) hS.2.2 dX7_compares_48
    · refine lv_iload_n hx hb dX7_compares_25 rfl (lv_at hl 0 rfl) ?_
      refine lv_iload_n hx hb dX7_compares_26 rfl (lv_at hl 2 rfl) ?_
      refine lv_icmp_le (tgt := 34) hx hb dX7_compares_27 (by decide) (fun c4 => ?_) (fun c4 => ?_)
      · refine lv_iconst (v := 0) hx hb dX7_compares_34 (by decide) ?_
        refine lv_goto (tgt := 48) hx hb dX7_compares_35 (by decide) ?_
        exact W.zret (v := 0) hx hb hr rfl (fun t ht hW => ⟨⟨0, (st, sl, so), rfl, ⟨rfl, Or.inr (rfl)⟩, xB.of ht hP⟩, hS.F ht⟩) hS.2.2 dX7_compares_48
      · refine lv_iconst (v := 1) hx hb dX7_compares_30 (by decide) ?_
        refine lv_goto (tgt := 48) hx hb dX7_compares_31 (by decide) ?_
        exact W.zret (v := 1) hx hb hr rfl (fun t ht hW => ⟨⟨1, (st, sl, so), rfl, ⟨rfl, Or.inl (rfl)⟩, xB.of ht hP⟩, hS.F ht⟩) hS.2.2 dX7_compares_48
  · refine lv_iload_n hx hb dX7_compares_6 rfl (lv_at hl 0 rfl) ?_
    refine lv_iload_n hx hb dX7_compares_7 rfl (lv_at hl 2 rfl) ?_
    refine lv_icmp_ge (tgt := 15) hx hb dX7_compares_8 (by decide) (fun c5 => ?_) (fun c5 => ?_)
    · refine lv_iconst (v := 0) hx hb dX7_compares_15 (by decide) ?_
      refine lv_goto (tgt := 48) hx hb dX7_compares_16 (by decide) ?_
      exact W.zret (v := 0) hx hb hr rfl (fun t ht hW => ⟨⟨0, (st, sl, so), rfl, ⟨rfl, Or.inr (rfl)⟩, xB.of ht hP⟩, hS.F ht⟩) hS.2.2 dX7_compares_48
    · refine lv_iconst (v := 1) hx hb dX7_compares_11 (by decide) ?_
      refine lv_goto (tgt := 48) hx hb dX7_compares_12 (by decide) ?_
      exact W.zret (v := 1) hx hb hr rfl (fun t ht hW => ⟨⟨1, (st, sl, so), rfl, ⟨rfl, Or.inl (rfl)⟩, xB.of ht hP⟩, hS.F ht⟩) hS.2.2 dX7_compares_48
