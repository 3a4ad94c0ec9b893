set_option maxHeartbeats 4000000 in
set_option maxRecDepth 100000 in
theorem x_clear0 (l : Launch) (dC : Nat → ClassId) (dI : Nat → Nat → Nat) (ad : Nat → Nat) (E : EP) (hEE : EC ad E) (A : Nat → Nat) (C : Nat → ClassId) (nb sz : Nat) (hN : XN A) (st : Nat → Nat → Int32) (sl : Nat → Nat → Int64) (so : Nat → XR) (hI : XI st) : Met l yX7_clear wsX7_clear ({ frames := 0, cells := 0, slots := 0, locals := 0 }) (va_Pc [.ref (A (20 + 4 * 0))] (xPre E dC dI A C nb sz st sl so)) (va_Qv (fun (x : XT) => XG [1, 2, 3, 4, 6, 7, 8, 9, 10, 11, 12, 13, 14, 15] st x.1 ∧ LGq sl x.2.1 ∧ x.2.2 = so ∧ (x.1 (20 + 4 * 0) 3 = 0)) (xB dC dI A C nb) (XA A sz)) 0 0 (XA A sz) := by
  refine Met.ofW (cc := cX7_clear) (maxL := 1) (ret := none) (by decide) rfl ?_
  intro p e s m args below meth c s₁ B hml hv
  obtain ⟨rfl, hsz, hP, hK, hE⟩ := hv
  have hx := B.exec
  have hb := B.bytes
  have hr := B.returns
  have hts := atoms_spec (ws := wsX7_clear) B.pre
  have hown : s.vm.findClass RX7 = some m.cls := findClass_of_methodNamed B.named
  subst hsz
  have hEv := hEE.1 _ _ _ hE
  have hS : va_S (XA A s.heap.size) s.heap s.heap [] := va_S.rf
  have hG : XG [1, 2, 3, 4, 6, 7, 8, 9, 10, 11, 12, 13, 14, 15] st st := XG.rf hI
  have hl := lv_entry ([.ref (A (20 + 4 * 0))]) (n := 1) (Nat.le_of_ble_eq_true rfl)
  rw [lg_entry_eq]
  generalize (lg_sl ([.ref (A (20 + 4 * 0))]) ++ List.replicate (1 - (lg_sl ([.ref (A (20 + 4 * 0))])).length) Slot.unset).toArray = ls at hl ⊢
  have hl : lv_has ls 1 [(0, .ref (A (20 + 4 * 0)))] := hl
  have hL : LGq sl sl := LGq.rf
  refine lv_aload_n hx hb dX7_clear_0 rfl (lv_at hl 0 rfl) ?_
  refine lv_iconst (v := 0) hx hb dX7_clear_1 (by decide) ?_
  refine va_put (D := (dC, dI)) (ci := 8) (v := .int 0) (ty := .int) (C := RX7) (T := TX7) (N := 5) hx hb hts ii_X7_clear_X7 tyX7 tyX7_ok nmX7 hown hK hP (xD hN _ _ _ _ _ _) hS (20 + 4 * 0) (xw_is (r := (20 + 4 * 0)) (by omega) (xc_sn (q := 0) (o := 0) (by omega) (by omega))) rfl 3 (by decide) (hts _ mm_X7_clear_1) (fun _ hh => hh) rfl (by decide +kernel) rfl rfl (Nat.le_of_ble_eq_true rfl) dX7_clear_2 (fun H locs hP _ hS => ?_)
  have hP : va_P (dC, dI) vwCl (xw A C nb (up2 st (20 + 4 * 0) 3 0) sl so) H := by rw [← xset (r := (20 + 4 * 0)) (k := 3) (v := 0) (xc_sn (q := 0) (o := 0) (by omega) (by omega))]; exact hP
  obtain ⟨st1, est1⟩ : ∃ y, y = up2 st (20 + 4 * 0) 3 0 := ⟨_, rfl⟩
  have hG : XG [1, 2, 3, 4, 6, 7, 8, 9, 10, 11, 12, 13, 14, 15] st st1 := by rw [est1]; exact hG.up (xn (n := 0) (b := 41) ((xrg_sn (q := 0) (o := 0) (by omega) (by omega)).trans (by first | rfl | decide)) (by omega)) (xpn (c := 5) ((xcl_sn (q := 0) (o := 0) (k := 3) (by omega) (by omega)).trans (by first | rfl | decide)) (by decide))
  rw [← est1] at hP
  refine lv_aload_n hx hb dX7_clear_5 rfl (lv_at hl 0 rfl) ?_
  refine lv_iconst (v := 0) hx hb dX7_clear_6 (by decide) ?_
  refine va_put (D := (dC, dI)) (ci := 8) (v := .int 0) (ty := .int) (C := RX7) (T := TX7) (N := 5) hx hb hts ii_X7_clear_X7 tyX7 tyX7_ok nmX7 hown hK hP (xD hN _ _ _ _ _ _) hS (20 + 4 * 0) (xw_is (r := (20 + 4 * 0)) (by omega) (xc_sn (q := 0) (o := 0) (by omega) (by omega))) rfl 4 (by decide) (hts _ mm_X7_clear_2) (fun _ hh => hh) rfl (by decide +kernel) rfl rfl (Nat.le_of_ble_eq_true rfl) dX7_clear_7 (fun H locs hP _ hS => ?_)
  have hP : va_P (dC, dI) vwCl (xw A C nb (up2 st1 (20 + 4 * 0) 4 0) sl so) H := by rw [← xset (r := (20 + 4 * 0)) (k := 4) (v := 0) (xc_sn (q := 0) (o := 0) (by omega) (by omega))]; exact hP
  obtain ⟨st2, est2⟩ : ∃ y, y = up2 st1 (20 + 4 * 0) 4 0 := ⟨_, rfl⟩
  have hG : XG [1, 2, 3, 4, 6, 7, 8, 9, 10, 11, 12, 13, 14, 15] st st2 := by rw [est2]; exact hG.up (xz (r := (20 + 4 * 0)) (k := 4) ((xrg_sn (q := 0) (o := 0) (by omega) (by omega)).trans (by first | rfl | decide))) (xpn (c := 0) ((xcl_sn (q := 0) (o := 0) (k := 4) (by omega) (by omega)).trans (by first | rfl | decide)) (by decide))
  rw [← est2] at hP
  exact W.vret hx hb hr (fun t ht hW => ⟨⟨(st2, sl, so), rfl, ⟨hG, hL, rfl, by show st2 (20 + 4 * 0) 3 = _; rw [est2, up2_ne (r := (20 + 4 * 0)) (k := 4) (a := (20 + 4 * 0)) (j := 3) _ _ (by omega), est1, up2_same]⟩, xB.of ht hP⟩, hS.F ht⟩) hS.2.2 dX7_clear_10
set_option maxHeartbeats 4000000 in
set_option maxRecDepth 100000 in
theorem x_clear1 (l : Launch) (dC : Nat → ClassId) (dI : Nat → Nat → Nat) (ad : Nat → Nat) (E : EP) (hEE : EC ad E) (A : Nat → Nat) (C : Nat → ClassId) (nb sz : Nat) (hN : XN A) (st : Nat → Nat → Int32) (sl : Nat → Nat → Int64) (so : Nat → XR) (hI : XI st) : Met l yX7_clear wsX7_clear ({ frames := 0, cells := 0, slots := 0, locals := 0 }) (va_Pc [.ref (A (20 + 4 * 1))] (xPre E dC dI A C nb sz st sl so)) (va_Qv (fun (x : XT) => XG [1, 2, 3, 4, 5, 6, 7, 8, 10, 11, 12, 13, 14, 15] st x.1 ∧ LGq sl x.2.1 ∧ x.2.2 = so ∧ (x.1 (20 + 4 * 1) 3 = 0)) (xB dC dI A C nb) (XA A sz)) 0 0 (XA A sz) := by
  refine Met.ofW (cc := cX7_clear) (maxL := 1) (ret := none) (by decide) rfl ?_
  intro p e s m args below meth c s₁ B hml hv
  obtain ⟨rfl, hsz, hP, hK, hE⟩ := hv
  have hx := B.exec
  have hb := B.bytes
  have hr := B.returns
  have hts := atoms_spec (ws := wsX7_clear) B.pre
  have hown : s.vm.findClass RX7 = some m.cls := findClass_of_methodNamed B.named
  subst hsz
  have hEv := hEE.1 _ _ _ hE
  have hS : va_S (XA A s.heap.size) s.heap s.heap [] := va_S.rf
  have hG : XG [1, 2, 3, 4, 5, 6, 7, 8, 10, 11, 12, 13, 14, 15] st st := XG.rf hI
  have hl := lv_entry ([.ref (A (20 + 4 * 1))]) (n := 1) (Nat.le_of_ble_eq_true rfl)
  rw [lg_entry_eq]
  generalize (lg_sl ([.ref (A (20 + 4 * 1))]) ++ List.replicate (1 - (lg_sl ([.ref (A (20 + 4 * 1))])).length) Slot.unset).toArray = ls at hl ⊢
  have hl : lv_has ls 1 [(0, .ref (A (20 + 4 * 1)))] := hl
  have hL : LGq sl sl := LGq.rf
  refine lv_aload_n hx hb dX7_clear_0 rfl (lv_at hl 0 rfl) ?_
  refine lv_iconst (v := 0) hx hb dX7_clear_1 (by decide) ?_
  refine va_put (D := (dC, dI)) (ci := 8) (v := .int 0) (ty := .int) (C := RX7) (T := TX7) (N := 5) hx hb hts ii_X7_clear_X7 tyX7 tyX7_ok nmX7 hown hK hP (xD hN _ _ _ _ _ _) hS (20 + 4 * 1) (xw_is (r := (20 + 4 * 1)) (by omega) (xc_sn (q := 1) (o := 0) (by omega) (by omega))) rfl 3 (by decide) (hts _ mm_X7_clear_1) (fun _ hh => hh) rfl (by decide +kernel) rfl rfl (Nat.le_of_ble_eq_true rfl) dX7_clear_2 (fun H locs hP _ hS => ?_)
  have hP : va_P (dC, dI) vwCl (xw A C nb (up2 st (20 + 4 * 1) 3 0) sl so) H := by rw [← xset (r := (20 + 4 * 1)) (k := 3) (v := 0) (xc_sn (q := 1) (o := 0) (by omega) (by omega))]; exact hP
  obtain ⟨st1, est1⟩ : ∃ y, y = up2 st (20 + 4 * 1) 3 0 := ⟨_, rfl⟩
  have hG : XG [1, 2, 3, 4, 5, 6, 7, 8, 10, 11, 12, 13, 14, 15] st st1 := by rw [est1]; exact hG.up (xn (n := 0) (b := 41) ((xrg_sn (q := 1) (o := 0) (by omega) (by omega)).trans (by first | rfl | decide)) (by omega)) (xpn (c := 9) ((xcl_sn (q := 1) (o := 0) (k := 3) (by omega) (by omega)).trans (by first | rfl | decide)) (by decide))
  rw [← est1] at hP
  refine lv_aload_n hx hb dX7_clear_5 rfl (lv_at hl 0 rfl) ?_
  refine lv_iconst (v := 0) hx hb dX7_clear_6 (by decide) ?_
  refine va_put (D := (dC, dI)) (ci := 8) (v := .int 0) (ty := .int) (C := RX7) (T := TX7) (N := 5) hx hb hts ii_X7_clear_X7 tyX7 tyX7_ok nmX7 hown hK hP (xD hN _ _ _ _ _ _) hS (20 + 4 * 1) (xw_is (r := (20 + 4 * 1)) (by omega) (xc_sn (q := 1) (o := 0) (by omega) (by omega))) rfl 4 (by decide) (hts _ mm_X7_clear_2) (fun _ hh => hh) rfl (by decide +kernel) rfl rfl (Nat.le_of_ble_eq_true rfl) dX7_clear_7 (fun H locs hP _ hS => ?_)
  have hP : va_P (dC, dI) vwCl (xw A C nb (up2 st1 (20 + 4 * 1) 4 0) sl so) H := by rw [← xset (r := (20 + 4 * 1)) (k := 4) (v := 0) (xc_sn (q := 1) (o := 0) (by omega) (by omega))]; exact hP
  obtain ⟨st2, est2⟩ : ∃ y, y = up2 st1 (20 + 4 * 1) 4 0 := ⟨_, rfl⟩
  have hG : XG [1, 2, 3, 4, 5, 6, 7, 8, 10, 11, 12, 13, 14, 15] st st2 := by rw [est2]; exact hG.up (xz (r := (20 + 4 * 1)) (k := 4) ((xrg_sn (q := 1) (o := 0) (by omega) (by omega)).trans (by first | rfl | decide))) (xpn (c := 0) ((xcl_sn (q := 1) (o := 0) (k := 4) (by omega) (by omega)).trans (by first | rfl | decide)) (by decide))
  rw [← est2] at hP
  exact W.vret hx hb hr (fun t ht hW => ⟨⟨(st2, sl, so), rfl, ⟨hG, hL, rfl, by show st2 (20 + 4 * 1) 3 = _; rw [est2, up2_ne (r := (20 + 4 * 1)) (k := 4) (a := (20 + 4 * 1)) (j := 3) _ _ (by omega), est1, up2_same]⟩, xB.of ht hP⟩, hS.F ht⟩) hS.2.2 dX7_clear_10
set_option maxHeartbeats 4000000 in
set_option maxRecDepth 100000 in
theorem x_X7_add (l : Launch) (dC : Nat → ClassId) (dI : Nat → Nat → Nat) (ad : Nat → Nat) (E : EP) (hEE : EC ad E) (A : Nat → Nat) (C : Nat → ClassId) (nb sz : Nat) (hN : XN A) (st : Nat → Nat → Int32) (sl : Nat → Nat → Int64) (so : Nat → XR) (vj : Nat) (va : Int32) (vb : Int32) (hvj : vj < 26) (hI : XI st) (hOI : OI ad so) : Met l yX7_add wsX7_add ({ frames := 0, cells := 0, slots := 0, locals := 0 }) (va_Pc [.ref (A (20 + 4 * 1)), .ref (ad vj), .int va, .int vb] (xPre E dC dI A C nb sz st sl so)) (va_Qv (fun (x : XT) => XG [1, 2, 3, 4, 5, 6, 7, 10, 11, 12, 13, 14, 15] st x.1 ∧ LGq sl x.2.1 ∧ OG ad [1, 2, 4] so x.2.2 ∧ ((SKs ad st so 1 → (vj = 18 → ∃ m, m < 8 ∧ vb = nI m) → SKs ad x.1 x.2.2 1))) (xB dC dI A C nb) (XA A sz)) 0 0 (XA A sz) := by
  refine Met.ofW (cc := cX7_add) (maxL := 4) (ret := none) (by decide) rfl ?_
  intro p e s m args below meth c s₁ B hml hv
  obtain ⟨rfl, hsz, hP, hK, hE⟩ := hv
  have hx := B.exec
  have hb := B.bytes
  have hr := B.returns
  have hts := atoms_spec (ws := wsX7_add) B.pre
  have hown : s.vm.findClass RX7 = some m.cls := findClass_of_methodNamed B.named
  subst hsz
  have hEv := hEE.1 _ _ _ hE
  have hS : va_S (XA A s.heap.size) s.heap s.heap [] := va_S.rf
  have hG : XG [1, 2, 3, 4, 5, 6, 7, 10, 11, 12, 13, 14, 15] st st := XG.rf hI
  have hO : OG ad [1, 2, 4] so so := OG.rf hOI
  have hl := lv_entry ([.ref (A (20 + 4 * 1)), .ref (ad vj), .int va, .int vb]) (n := 4) (Nat.le_of_ble_eq_true rfl)
  rw [lg_entry_eq]
  generalize (lg_sl ([.ref (A (20 + 4 * 1)), .ref (ad vj), .int va, .int vb]) ++ List.replicate (4 - (lg_sl ([.ref (A (20 + 4 * 1)), .ref (ad vj), .int va, .int vb])).length) Slot.unset).toArray = ls at hl ⊢
  have hl : lv_has ls 4 [(0, .ref (A (20 + 4 * 1))), (1, .ref (ad vj)), (2, .int va), (3, .int vb)] := hl
  have hL : LGq sl sl := LGq.rf
  refine lv_aload_n hx hb dX7_add_0 rfl (lv_at hl 0 rfl) ?_
  refine va_get (D := (dC, dI)) (ci := 8) (v := .int (st (20 + 4 * 1) 3)) (C := RX7) (T := TX7) (N := 5) hx hb hts ii_X7_add_X7 hown hK hP (20 + 4 * 1) (xw_is (r := (20 + 4 * 1)) (by omega) (xc_sn (q := 1) (o := 0) (by omega) (by omega))) rfl 3 (by decide) (hts _ mm_X7_add_1) (fun _ hh => hh) rfl dX7_add_1 ?_
  obtain ⟨n1, hn1, en1⟩ := hG.1.at (r := (20 + 4 * 1)) (k := 3) (b := 41) ((xrg_sn (q := 1) (o := 0) (by omega) (by omega)).trans (by first | rfl | decide)) (by decide)
  refine zz_top (v := nI n1) (by exact en1) ?_
  refine lv_bipush (v := 40) hx hb dX7_add_4 (by decide) ?_
  refine lv_icmp_ge (tgt := 49) hx hb dX7_add_6 (by decide) (fun c1 => ?_) (fun c1 => ?_)
  · have c1 : 40 ≤ n1 := (nI_leI (a := 40) (b := n1) (by omega) (by omega)).mp c1
    exact W.vret hx hb hr (fun t ht hW => ⟨⟨(st, sl, so), rfl, ⟨hG, hL, hO, fun h9 _ => h9⟩, xB.of ht hP⟩, hS.F ht⟩) hS.2.2 dX7_add_49
  · have c1 : ¬ 40 ≤ n1 := fun hh => c1 ((nI_leI (a := 40) (b := n1) (by omega) (by omega)).mpr hh)
    refine lv_aload_n hx hb dX7_add_9 rfl (lv_at hl 0 rfl) ?_
    refine va_get (D := (dC, dI)) (ci := 8) (v := .ref (A (20 + 4 * 1 + 1))) (C := RX7) (T := TX7) (N := 5) hx hb hts ii_X7_add_X7 hown hK hP (20 + 4 * 1) (xw_is (r := (20 + 4 * 1)) (by omega) (xc_sn (q := 1) (o := 0) (by omega) (by omega))) rfl 0 (by decide) (hts _ mm_X7_add_2) (fun _ hh => hh) rfl dX7_add_10 ?_
    refine lv_aload_n hx hb dX7_add_13 rfl (lv_at hl 0 rfl) ?_
    refine va_get (D := (dC, dI)) (ci := 8) (v := .int (st (20 + 4 * 1) 3)) (C := RX7) (T := TX7) (N := 5) hx hb hts ii_X7_add_X7 hown hK hP (20 + 4 * 1) (xw_is (r := (20 + 4 * 1)) (by omega) (xc_sn (q := 1) (o := 0) (by omega) (by omega))) rfl 3 (by decide) (hts _ mm_X7_add_1) (fun _ hh => hh) rfl dX7_add_14 ?_
    refine zz_top (v := (nI n1)) (by show st (20 + 4 * 1) 3 = _; rw [en1]) ?_
    refine lv_aload_n hx hb dX7_add_17 rfl (lv_at hl 1 rfl) ?_
    refine zz_astw (x := (some (ad vj))) hx hb hEv hK hP (xD hN _ _ _ _ _ _) hS (20 + 4 * 1 + 1) (20 + 4 * 1 + 1) (xw_is (r := (20 + 4 * 1 + 1)) (by omega) (xc_sn (q := 1) (o := 1) (by omega) (by omega))) (xt_is (r := (20 + 4 * 1 + 1)) (by omega) ((xty_sn (q := 1) (o := 1) (by omega) (by omega)).trans rfl)) (isW.of (by omega)) (i := (nI n1)) (vp_in_nI (by omega) (by decide)) dX7_add_18 (fun H locs hP _ hS => ?_)
    rw [nI_clamp (by omega)] at hP
    have hP : va_P (dC, dI) vwCl (xw A C nb st sl (upO so (20 + 4 * 1 + 1) n1 (some (ad vj)))) H := by rw [← xsetO (r := (20 + 4 * 1 + 1)) (k := n1) (v := (some (ad vj))) (xc_sn (q := 1) (o := 1) (by omega) (by omega))]; exact hP
    obtain ⟨so2, eso2⟩ : ∃ y, y = upO so (20 + 4 * 1 + 1) n1 (some (ad vj)) := ⟨_, rfl⟩
    have hO : OG ad [1, 2, 4] so so2 := by rw [eso2]; exact hO.up (isW.of (by omega)) (fun hh => absurd hh (by omega)) (by decide)
    rw [← eso2] at hP
    refine lv_aload_n hx hb dX7_add_19 rfl (lv_at hl 0 rfl) ?_
    refine va_get (D := (dC, dI)) (ci := 8) (v := .ref (A (20 + 4 * 1 + 2))) (C := RX7) (T := TX7) (N := 5) hx hb hts ii_X7_add_X7 hown hK hP (20 + 4 * 1) (xw_is (r := (20 + 4 * 1)) (by omega) (xc_sn (q := 1) (o := 0) (by omega) (by omega))) rfl 1 (by decide) (hts _ mm_X7_add_3) (fun _ hh => hh) rfl dX7_add_20 ?_
    refine lv_aload_n hx hb dX7_add_23 rfl (lv_at hl 0 rfl) ?_
    refine va_get (D := (dC, dI)) (ci := 8) (v := .int (st (20 + 4 * 1) 3)) (C := RX7) (T := TX7) (N := 5) hx hb hts ii_X7_add_X7 hown hK hP (20 + 4 * 1) (xw_is (r := (20 + 4 * 1)) (by omega) (xc_sn (q := 1) (o := 0) (by omega) (by omega))) rfl 3 (by decide) (hts _ mm_X7_add_1) (fun _ hh => hh) rfl dX7_add_24 ?_
    refine zz_top (v := (nI n1)) (by show st (20 + 4 * 1) 3 = _; rw [en1]) ?_
    refine lv_iload_n hx hb dX7_add_27 rfl (lv_at hl 2 rfl) ?_
    refine va_iast hx hb hK hP (xD hN _ _ _ _ _ _) hS (20 + 4 * 1 + 2) (20 + 4 * 1 + 2) (xw_is (r := (20 + 4 * 1 + 2)) (by omega) (xc_sn (q := 1) (o := 2) (by omega) (by omega))) (xt_is (r := (20 + 4 * 1 + 2)) (by omega) ((xty_sn (q := 1) (o := 2) (by omega) (by omega)).trans rfl)) (i := (nI n1)) (vp_in_nI (by omega) (by decide)) dX7_add_28 (fun H locs hP _ hS => ?_)
    rw [nI_clamp (by omega)] at hP
    have hP : va_P (dC, dI) vwCl (xw A C nb (up2 st (20 + 4 * 1 + 2) n1 va) sl so2) H := by rw [← xset (r := (20 + 4 * 1 + 2)) (k := n1) (v := va) (xc_sn (q := 1) (o := 2) (by omega) (by omega))]; exact hP
    obtain ⟨st3, est3⟩ : ∃ y, y = up2 st (20 + 4 * 1 + 2) n1 va := ⟨_, rfl⟩
    have hG : XG [1, 2, 3, 4, 5, 6, 7, 10, 11, 12, 13, 14, 15] st st3 := by rw [est3]; exact hG.up (xz (r := (20 + 4 * 1 + 2)) (k := n1) ((xrg_sn (q := 1) (o := 2) (by omega) (by omega)).trans (by first | rfl | decide))) (xpn (c := 0) ((xcl_sn (q := 1) (o := 2) (k := n1) (by omega) (by omega)).trans (by first | rfl | decide)) (by decide))
    rw [← est3] at hP
    refine lv_aload_n hx hb dX7_add_29 rfl (lv_at hl 0 rfl) ?_
    refine va_get (D := (dC, dI)) (ci := 8) (v := .ref (A (20 + 4 * 1 + 3))) (C := RX7) (T := TX7) (N := 5) hx hb hts ii_X7_add_X7 hown hK hP (20 + 4 * 1) (xw_is (r := (20 + 4 * 1)) (by omega) (xc_sn (q := 1) (o := 0) (by omega) (by omega))) rfl 2 (by decide) (hts _ mm_X7_add_4) (fun _ hh => hh) rfl dX7_add_30 ?_
    refine lv_aload_n hx hb dX7_add_33 rfl (lv_at hl 0 rfl) ?_
    refine va_get (D := (dC, dI)) (ci := 8) (v := .int (st3 (20 + 4 * 1) 3)) (C := RX7) (T := TX7) (N := 5) hx hb hts ii_X7_add_X7 hown hK hP (20 + 4 * 1) (xw_is (r := (20 + 4 * 1)) (by omega) (xc_sn (q := 1) (o := 0) (by omega) (by omega))) rfl 3 (by decide) (hts _ mm_X7_add_1) (fun _ hh => hh) rfl dX7_add_34 ?_
    refine zz_top (v := (nI n1)) (by show st3 (20 + 4 * 1) 3 = _; rw [est3, up2_ne (r := (20 + 4 * 1 + 2)) (k := n1) (a := (20 + 4 * 1)) (j := 3) _ _ (by omega), en1]) ?_
    refine lv_iload_n hx hb dX7_add_37 rfl (lv_at hl 3 rfl) ?_
    refine va_iast hx hb hK hP (xD hN _ _ _ _ _ _) hS (20 + 4 * 1 + 3) (20 + 4 * 1 + 3) (xw_is (r := (20 + 4 * 1 + 3)) (by omega) (xc_sn (q := 1) (o := 3) (by omega) (by omega))) (xt_is (r := (20 + 4 * 1 + 3)) (by omega) ((xty_sn (q := 1) (o := 3) (by omega) (by omega)).trans rfl)) (i := (nI n1)) (vp_in_nI (by omega) (by decide)) dX7_add_38 (fun H locs hP _ hS => ?_)
    rw [nI_clamp (by omega)] at hP
    have hP : va_P (dC, dI) vwCl (xw A C nb (up2 st3 (20 + 4 * 1 + 3) n1 vb) sl so2) H := by rw [← xset (r := (20 + 4 * 1 + 3)) (k := n1) (v := vb) (xc_sn (q := 1) (o := 3) (by omega) (by omega))]; exact hP
    obtain ⟨st4, est4⟩ : ∃ y, y = up2 st3 (20 + 4 * 1 + 3) n1 vb := ⟨_, rfl⟩
    have hG : XG [1, 2, 3, 4, 5, 6, 7, 10, 11, 12, 13, 14, 15] st st4 := by rw [est4]; exact hG.up (xz (r := (20 + 4 * 1 + 3)) (k := n1) ((xrg_sn (q := 1) (o := 3) (by omega) (by omega)).trans (by first | rfl | decide))) (xpn (c := 8) ((xcl_sn (q := 1) (o := 3) (k := n1) (by omega) (by omega)).trans (by first | rfl | decide)) (by decide))
    rw [← est4] at hP
    refine lv_aload_n hx hb dX7_add_39 rfl (lv_at hl 0 rfl) ?_
    refine lv_dup hx hb dX7_add_40 rfl ?_
    refine va_get (D := (dC, dI)) (ci := 8) (v := .int (st4 (20 + 4 * 1) 3)) (C := RX7) (T := TX7) (N := 5) hx hb hts ii_X7_add_X7 hown hK hP (20 + 4 * 1) (xw_is (r := (20 + 4 * 1)) (by omega) (xc_sn (q := 1) (o := 0) (by omega) (by omega))) rfl 3 (by decide) (hts _ mm_X7_add_1) (fun _ hh => hh) rfl dX7_add_41 ?_
    refine zz_top (v := (nI n1)) (by show st4 (20 + 4 * 1) 3 = _; rw [est4, up2_ne (r := (20 + 4 * 1 + 3)) (k := n1) (a := (20 + 4 * 1)) (j := 3) _ _ (by omega), est3, up2_ne (r := (20 + 4 * 1 + 2)) (k := n1) (a := (20 + 4 * 1)) (j := 3) _ _ (by omega), en1]) ?_
    refine lv_iconst (v := 1) hx hb dX7_add_44 (by decide) ?_
    refine lv_iadd hx hb dX7_add_45 ?_
    refine zz_top (v := nI (n1 + 1)) (nI_add n1 1) ?_
    refine va_put (D := (dC, dI)) (ci := 8) (v := .int (nI (n1 + 1))) (ty := .int) (C := RX7) (T := TX7) (N := 5) hx hb hts ii_X7_add_X7 tyX7 tyX7_ok nmX7 hown hK hP (xD hN _ _ _ _ _ _) hS (20 + 4 * 1) (xw_is (r := (20 + 4 * 1)) (by omega) (xc_sn (q := 1) (o := 0) (by omega) (by omega))) rfl 3 (by decide) (hts _ mm_X7_add_1) (fun _ hh => hh) rfl (by decide +kernel) rfl rfl (Nat.le_of_ble_eq_true rfl) dX7_add_46 (fun H locs hP _ hS => ?_)
    have hP : va_P (dC, dI) vwCl (xw A C nb (up2 st4 (20 + 4 * 1) 3 (nI (n1 + 1))) sl so2) H := by rw [← xset (r := (20 + 4 * 1)) (k := 3) (v := (nI (n1 + 1))) (xc_sn (q := 1) (o := 0) (by omega) (by omega))]; exact hP
    obtain ⟨st5, est5⟩ : ∃ y, y = up2 st4 (20 + 4 * 1) 3 (nI (n1 + 1)) := ⟨_, rfl⟩
    have hG : XG [1, 2, 3, 4, 5, 6, 7, 10, 11, 12, 13, 14, 15] st st5 := by rw [est5]; exact hG.up (xn (n := (n1 + 1)) (b := 41) ((xrg_sn (q := 1) (o := 0) (by omega) (by omega)).trans (by first | rfl | decide)) (by omega)) (xpn (c := 9) ((xcl_sn (q := 1) (o := 0) (k := 3) (by omega) (by omega)).trans (by first | rfl | decide)) (by decide))
    rw [← est5] at hP
    exact W.vret hx hb hr (fun t ht hW => ⟨⟨(st5, sl, so2), rfl, ⟨hG, hL, hO, fun h9 hv9 => SKs.add (n := n1) (w := some (ad vj)) (v := vb) h9 en1 (by omega) (by show st5 (20 + 4 * 1) 3 = _; rw [est5, up2_same]) (fun jj hk => by show st5 (20 + 4 * 1 + 3) jj = st (20 + 4 * 1 + 3) jj; rw [est5, up2_ne (r := (20 + 4 * 1)) (k := 3) (a := (20 + 4 * 1 + 3)) (j := jj) _ _ (by omega), est4, up2_ne (r := (20 + 4 * 1 + 3)) (k := n1) (a := (20 + 4 * 1 + 3)) (j := jj) _ _ (by omega), est3, up2_ne (r := (20 + 4 * 1 + 2)) (k := n1) (a := (20 + 4 * 1 + 3)) (j := jj) _ _ (by omega)]) (fun jj hk => by show so2 (20 + 4 * 1 + 1) jj = so (20 + 4 * 1 + 1) jj; rw [eso2, upO_ne (r := (20 + 4 * 1 + 1)) (k := n1) (a := (20 + 4 * 1 + 1)) (j := jj) _ _ (by omega)]) (by show st5 (20 + 4 * 1 + 3) n1 = _; rw [est5, up2_ne (r := (20 + 4 * 1)) (k := 3) (a := (20 + 4 * 1 + 3)) (j := n1) _ _ (by omega), est4, up2_same]) (by show so2 (20 + 4 * 1 + 1) n1 = _; rw [eso2, upO_same]) (fun q9 => hv9 (EV.inj hEv (by omega) (by decide) q9))⟩, xB.of ht hP⟩, hS.F ht⟩) hS.2.2 dX7_add_49
set_option maxHeartbeats 4000000 in
set_option maxRecDepth 100000 in
theorem x_X7_beginsOne (l : Launch) (dC : Nat → ClassId) (dI : Nat → Nat → Nat) (ad : Nat → Nat) (E : EP) (hEE : EC ad E) (A : Nat → Nat) (C : Nat → ClassId) (nb sz : Nat) (hN : XN A) (st : Nat → Nat → Int32) (sl : Nat → Nat → Int64) (so : Nat → XR) (vj : Nat) (hvj : vj < 26) (hI : XI st) : Met l yX7_beginsOne wsX7_beginsOne ({ frames := 0, cells := 0, slots := 0, locals := 0 }) (va_Pc [.ref (ad vj)] (xPre E dC dI A C nb sz st sl so)) (va_Qi (fun (r : Int32) (x : XT) => x = (st, sl, so) ∧ ((r = 1) ∨ (r = 0))) (xB dC dI A C nb) (XA A sz)) 0 0 (XA A sz) := by
  refine Met.ofW (cc := cX7_beginsOne) (maxL := 1) (ret := (some .boolean)) (by decide) rfl ?_
  intro p e s m args below meth c s₁ B hml hv
  obtain ⟨rfl, hsz, hP, hK, hE⟩ := hv
  have hx := B.exec
  have hb := B.bytes
  have hr := B.returns
  have hts := atoms_spec (ws := wsX7_beginsOne) B.pre
  have hown : s.vm.findClass RX7 = some m.cls := findClass_of_methodNamed B.named
  subst hsz
  have hEv := hEE.1 _ _ _ hE
  have hS : va_S (XA A s.heap.size) s.heap s.heap [] := va_S.rf
  have hG : XG [1, 2, 3, 4, 5, 6, 7, 8, 9, 10, 11, 12, 13, 14, 15] st st := XG.rf hI
  have hl := lv_entry ([.ref (ad vj)]) (n := 1) (Nat.le_of_ble_eq_true rfl)
  rw [lg_entry_eq]
  generalize (lg_sl ([.ref (ad vj)]) ++ List.replicate (1 - (lg_sl ([.ref (ad vj)])).length) Slot.unset).toArray = ls at hl ⊢
  have hl : lv_has ls 1 [(0, .ref (ad vj))] := hl
  refine lv_aload_n hx hb dX7_beginsOne_0 rfl (lv_at hl 0 rfl) ?_
  refine va_gets (v := .ref (ad 15)) hx hb (EV.word hEv (i := 15) (by decide)) hS hown (hts _ mm_X7_beginsOne_1) (fun _ hh => hh) dX7_beginsOne_1 ?_
  refine lv_acmp_eq (rx := (some (ad vj))) (ry := (some (ad 15))) (tgt := 63) hx hb dX7_beginsOne_4 (by decide) (fun c1 => ?_) (fun c1 => ?_)
  · have c1 : vj = 15 := (EV.eqw hEv (i := vj) (j := 15) (by omega) (by omega)).mp c1
    refine lv_iconst (v := 1) hx hb dX7_beginsOne_63 (by decide) ?_
    refine lv_goto (tgt := 68) hx hb dX7_beginsOne_64 (by decide) ?_
    exact W.zret (v := 1) hx hb hr rfl (fun t ht hW => ⟨⟨1, (st, sl, so), rfl, ⟨rfl, Or.inl (rfl)⟩, xB.of ht hP⟩, hS.F ht⟩) hS.2.2 dX7_beginsOne_68
  · have c1 : ¬ vj = 15 := fun hh => c1 ((EV.eqw hEv (i := vj) (j := 15) (by omega) (by omega)).mpr hh)
    refine lv_aload_n hx hb dX7_beginsOne_7 rfl (lv_at hl 0 rfl) ?_
    refine va_gets (v := .ref (ad 16)) hx hb (EV.word hEv (i := 16) (by decide)) hS hown (hts _ mm_X7_beginsOne_2) (fun _ hh => hh) dX7_beginsOne_8 ?_
    refine lv_acmp_eq (rx := (some (ad vj))) (ry := (some (ad 16))) (tgt := 63) hx hb dX7_beginsOne_11 (by decide) (fun c2 => ?_) (fun c2 => ?_)
    · have c2 : vj = 16 := (EV.eqw hEv (i := vj) (j := 16) (by omega) (by omega)).mp c2
      refine lv_iconst (v := 1) hx hb dX7_beginsOne_63 (by decide) ?_
      refine lv_goto (tgt := 68) hx hb dX7_beginsOne_64 (by decide) ?_
      exact W.zret (v := 1) hx hb hr rfl (fun t ht hW => ⟨⟨1, (st, sl, so), rfl, ⟨rfl, Or.inl (rfl)⟩, xB.of ht hP⟩, hS.F ht⟩) hS.2.2 dX7_beginsOne_68
    · have c2 : ¬ vj = 16 := fun hh => c2 ((EV.eqw hEv (i := vj) (j := 16) (by omega) (by omega)).mpr hh)
      refine lv_aload_n hx hb dX7_beginsOne_14 rfl (lv_at hl 0 rfl) ?_
      refine va_gets (v := .ref (ad 17)) hx hb (EV.word hEv (i := 17) (by decide)) hS hown (hts _ mm_X7_beginsOne_3) (fun _ hh => hh) dX7_beginsOne_15 ?_
      refine lv_acmp_eq (rx := (some (ad vj))) (ry := (some (ad 17))) (tgt := 63) hx hb dX7_beginsOne_18 (by decide) (fun c3 => ?_) (fun c3 => ?_)
      · have c3 : vj = 17 := (EV.eqw hEv (i := vj) (j := 17) (by omega) (by omega)).mp c3
        refine lv_iconst (v := 1) hx hb dX7_beginsOne_63 (by decide) ?_
        refine lv_goto (tgt := 68) hx hb dX7_beginsOne_64 (by decide) ?_
        exact W.zret (v := 1) hx hb hr rfl (fun t ht hW => ⟨⟨1, (st, sl, so), rfl, ⟨rfl, Or.inl (rfl)⟩, xB.of ht hP⟩, hS.F ht⟩) hS.2.2 dX7_beginsOne_68
      · have c3 : ¬ vj = 17 := fun hh => c3 ((EV.eqw hEv (i := vj) (j := 17) (by omega) (by omega)).mpr hh)
        refine lv_aload_n hx hb dX7_beginsOne_21 rfl (lv_at hl 0 rfl) ?_
        refine va_gets (v := .ref (ad 18)) hx hb (EV.word hEv (i := 18) (by decide)) hS hown (hts _ mm_X7_beginsOne_4) (fun _ hh => hh) dX7_beginsOne_22 ?_
        refine lv_acmp_eq (rx := (some (ad vj))) (ry := (some (ad 18))) (tgt := 63) hx hb dX7_beginsOne_25 (by decide) (fun c4 => ?_) (fun c4 => ?_)
        · have c4 : vj = 18 := (EV.eqw hEv (i := vj) (j := 18) (by omega) (by omega)).mp c4
          refine lv_iconst (v := 1) hx hb dX7_beginsOne_63 (by decide) ?_
          refine lv_goto (tgt := 68) hx hb dX7_beginsOne_64 (by decide) ?_
          exact W.zret (v := 1) hx hb hr rfl (fun t ht hW => ⟨⟨1, (st, sl, so), rfl, ⟨rfl, Or.inl (rfl)⟩, xB.of ht hP⟩, hS.F ht⟩) hS.2.2 dX7_beginsOne_68
        · have c4 : ¬ vj = 18 := fun hh => c4 ((EV.eqw hEv (i := vj) (j := 18) (by omega) (by omega)).mpr hh)
          refine lv_aload_n hx hb dX7_beginsOne_28 rfl (lv_at hl 0 rfl) ?_
          refine va_gets (v := .ref (ad 19)) hx hb (EV.word hEv (i := 19) (by decide)) hS hown (hts _ mm_X7_beginsOne_5) (fun _ hh => hh) dX7_beginsOne_29 ?_
          refine lv_acmp_eq (rx := (some (ad vj))) (ry := (some (ad 19))) (tgt := 63) hx hb dX7_beginsOne_32 (by decide) (fun c5 => ?_) (fun c5 => ?_)
          · have c5 : vj = 19 := (EV.eqw hEv (i := vj) (j := 19) (by omega) (by omega)).mp c5
            refine lv_iconst (v := 1) hx hb dX7_beginsOne_63 (by decide) ?_
            refine lv_goto (tgt := 68) hx hb dX7_beginsOne_64 (by decide) ?_
            exact W.zret (v := 1) hx hb hr rfl (fun t ht hW => ⟨⟨1, (st, sl, so), rfl, ⟨rfl, Or.inl (rfl)⟩, xB.of ht hP⟩, hS.F ht⟩) hS.2.2 dX7_beginsOne_68
          · have c5 : ¬ vj = 19 := fun hh => c5 ((EV.eqw hEv (i := vj) (j := 19) (by omega) (by omega)).mpr hh)
            refine lv_aload_n hx hb dX7_beginsOne_35 rfl (lv_at hl 0 rfl) ?_
            refine va_gets (v := .ref (ad 20)) hx hb (EV.word hEv (i := 20) (by decide)) hS hown (hts _ mm_X7_beginsOne_6) (fun _ hh => hh) dX7_beginsOne_36 ?_
            refine lv_acmp_eq (rx := (some (ad vj))) (ry := (some (ad 20))) (tgt := 63) hx hb dX7_beginsOne_39 (by decide) (fun c6 => ?_) (fun c6 => ?_)
            · have c6 : vj = 20 := (EV.eqw hEv (i := vj) (j := 20) (by omega) (by omega)).mp c6
              refine lv_iconst (v := 1) hx hb dX7_beginsOne_63 (by decide) ?_
              refine lv_goto (tgt := 68) hx hb dX7_beginsOne_64 (by decide) ?_
              exact W.zret (v := 1) hx hb hr rfl (fun t ht hW => ⟨⟨1, (st, sl, so), rfl, ⟨rfl, Or.inl (rfl)⟩, xB.of ht hP⟩, hS.F ht⟩) hS.2.2 dX7_beginsOne_68
            · have c6 : ¬ vj = 20 := fun hh => c6 ((EV.eqw hEv (i := vj) (j := 20) (by omega) (by omega)).mpr hh)
              refine lv_aload_n hx hb dX7_beginsOne_42 rfl (lv_at hl 0 rfl) ?_
              refine va_gets (v := .ref (ad 21)) hx hb (EV.word hEv (i := 21) (by decide)) hS hown (hts _ mm_X7_beginsOne_7) (fun _ hh => hh) dX7_beginsOne_43 ?_
              refine lv_acmp_eq (rx := (some (ad vj))) (ry := (some (ad 21))) (tgt := 63) hx hb dX7_beginsOne_46 (by decide) (fun c7 => ?_) (fun c7 => ?_)
              · have c7 : vj = 21 := (EV.eqw hEv (i := vj) (j := 21) (by omega) (by omega)).mp c7
                refine lv_iconst (v := 1) hx hb dX7_beginsOne_63 (by decide) ?_
                refine lv_goto (tgt := 68) hx hb dX7_beginsOne_64 (by decide) ?_
                exact W.zret (v := 1) hx hb hr rfl (fun t ht hW => ⟨⟨1, (st, sl, so), rfl, ⟨rfl, Or.inl (rfl)⟩, xB.of ht hP⟩, hS.F ht⟩) hS.2.2 dX7_beginsOne_68
              · have c7 : ¬ vj = 21 := fun hh => c7 ((EV.eqw hEv (i := vj) (j := 21) (by omega) (by omega)).mpr hh)
                refine lv_aload_n hx hb dX7_beginsOne_49 rfl (lv_at hl 0 rfl) ?_
                refine va_gets (v := .ref (ad 22)) hx hb (EV.word hEv (i := 22) (by decide)) hS hown (hts _ mm_X7_beginsOne_8) (fun _ hh => hh) dX7_beginsOne_50 ?_
                refine lv_acmp_eq (rx := (some (ad vj))) (ry := (some (ad 22))) (tgt := 63) hx hb dX7_beginsOne_53 (by decide) (fun c8 => ?_) (fun c8 => ?_)
                · have c8 : vj = 22 := (EV.eqw hEv (i := vj) (j := 22) (by omega) (by omega)).mp c8
                  refine lv_iconst (v := 1) hx hb dX7_beginsOne_63 (by decide) ?_
                  refine lv_goto (tgt := 68) hx hb dX7_beginsOne_64 (by decide) ?_
                  exact W.zret (v := 1) hx hb hr rfl (fun t ht hW => ⟨⟨1, (st, sl, so), rfl, ⟨rfl, Or.inl (rfl)⟩, xB.of ht hP⟩, hS.F ht⟩) hS.2.2 dX7_beginsOne_68
                · have c8 : ¬ vj = 22 := fun hh => c8 ((EV.eqw hEv (i := vj) (j := 22) (by omega) (by omega)).mpr hh)
                  refine lv_aload_n hx hb dX7_beginsOne_56 rfl (lv_at hl 0 rfl) ?_
                  refine va_gets (v := .ref (ad 23)) hx hb (EV.word hEv (i := 23) (by decide)) hS hown (hts _ mm_X7_beginsOne_9) (fun _ hh => hh) dX7_beginsOne_57 ?_
                  refine lv_acmp_ne (rx := (some (ad vj))) (ry := (some (ad 23))) (tgt := 67) hx hb dX7_beginsOne_60 (by decide) (fun c9 => ?_) (fun c9 => ?_)
                  · have c9 : ¬ vj = 23 := fun hh => c9 ((EV.eqw hEv (i := vj) (j := 23) (by omega) (by omega)).mpr hh)
                    refine lv_iconst (v := 0) hx hb dX7_beginsOne_67 (by decide) ?_
                    exact W.zret (v := 0) hx hb hr rfl (fun t ht hW => ⟨⟨0, (st, sl, so), rfl, ⟨rfl, Or.inr (rfl)⟩, xB.of ht hP⟩, hS.F ht⟩) hS.2.2 dX7_beginsOne_68
                  · have c9 : vj = 23 := (EV.eqw hEv (i := vj) (j := 23) (by omega) (by omega)).mp c9
                    refine lv_iconst (v := 1) hx hb dX7_beginsOne_63 (by decide) ?_
                    refine lv_goto (tgt := 68) hx hb dX7_beginsOne_64 (by decide) ?_
                    exact W.zret (v := 1) hx hb hr rfl (fun t ht hW => ⟨⟨1, (st, sl, so), rfl, ⟨rfl, Or.inl (rfl)⟩, xB.of ht hP⟩, hS.F ht⟩) hS.2.2 dX7_beginsOne_68
set_option maxHeartbeats 4000000 in
set_option maxRecDepth 100000 in
theorem x_X7_readPlain (l : Launch) (dC : Nat → ClassId) (dI : Nat → Nat → Nat) (ad : Nat → Nat) (E : EP) (hEE : EC ad E) (A : Nat → Nat) (C : Nat → ClassId) (nb sz : Nat) (hN : XN A) (st : Nat → Nat → Int32) (sl : Nat → Nat → Int64) (so : Nat → XR) (vj : Nat) (hvj : vj < 26) (hI : XI st) (hOI : OI ad so) : Met l yX7_readPlain wsX7_readPlain ({ frames := 7, cells := 0, slots := 0, locals := 152 }) (va_Pc [.ref (A (20 + 4 * 1)), .ref (A 1), .ref (A (36 + 20 * 0)), .ref (ad vj)] (xPre E dC dI A C nb sz st sl so)) (va_Qi (fun (r : Int32) (x : XT) => XG [1, 2, 3, 4, 5, 6, 7, 12, 13, 14, 15] st x.1 ∧ LGq sl x.2.1 ∧ OG ad [2, 4] so x.2.2 ∧ ((r = 1 ∧ (SKs ad st so 1 → SKs ad x.1 x.2.2 1)) ∨ (r = 0 ∧ ¬ x.1 1 13 = 0))) (xB dC dI A C nb) (XA A sz)) 0 0 (XA A sz) := by
  refine Met.ofW (cc := cX7_readPlain) (maxL := 6) (ret := (some .boolean)) (by decide) rfl ?_
  intro p e s m args below meth c s₁ B hml hv
  obtain ⟨rfl, hsz, hP, hK, hE⟩ := hv
  have hx := B.exec
  have hb := B.bytes
  have hr := B.returns
  have hts := atoms_spec (ws := wsX7_readPlain) B.pre
  have hown : s.vm.findClass RX7 = some m.cls := findClass_of_methodNamed B.named
  subst hsz
  have hEv := hEE.1 _ _ _ hE
  have hS : va_S (XA A s.heap.size) s.heap s.heap [] := va_S.rf
  have hG : XG [1, 2, 3, 4, 5, 6, 7, 12, 13, 14, 15] st st := XG.rf hI
  have hO : OG ad [2, 4] so so := OG.rf hOI
  have hl := lv_entry ([.ref (A (20 + 4 * 1)), .ref (A 1), .ref (A (36 + 20 * 0)), .ref (ad vj)]) (n := 6) (Nat.le_of_ble_eq_true rfl)
  rw [lg_entry_eq]
  generalize (lg_sl ([.ref (A (20 + 4 * 1)), .ref (A 1), .ref (A (36 + 20 * 0)), .ref (ad vj)]) ++ List.replicate (6 - (lg_sl ([.ref (A (20 + 4 * 1)), .ref (A 1), .ref (A (36 + 20 * 0)), .ref (ad vj)])).length) Slot.unset).toArray = ls at hl ⊢
  have hl : lv_has ls 6 [(0, .ref (A (20 + 4 * 1))), (1, .ref (A 1)), (2, .ref (A (36 + 20 * 0))), (3, .ref (ad vj))] := hl
  have hL : LGq sl sl := LGq.rf
  have hsk : SKs ad st so 1 → SKs ad st so 1 := fun hh => hh
  refine lv_aload_n hx hb dX7_readPlain_0 rfl (lv_at hl 3 rfl) ?_
  refine va_gets (v := .ref (ad 16)) hx hb (EV.word hEv (i := 16) (by decide)) hS hown (hts _ mm_X7_readPlain_1) (fun _ hh => hh) dX7_readPlain_1 ?_
  refine lv_acmp_eq (rx := (some (ad vj))) (ry := (some (ad 16))) (tgt := 14) hx hb dX7_readPlain_4 (by decide) (fun c1 => ?_) (fun c1 => ?_)
  · have c1 : vj = 16 := (EV.eqw hEv (i := vj) (j := 16) (by omega) (by omega)).mp c1
    refine lv_aload_n hx hb dX7_readPlain_14 rfl (lv_at hl 0 rfl) ?_
    refine lv_aload_n hx hb dX7_readPlain_15 rfl (lv_at hl 3 rfl) ?_
    refine lv_iconst (v := 0) hx hb dX7_readPlain_16 (by decide) ?_
    refine lv_iconst (v := 0) hx hb dX7_readPlain_17 (by decide) ?_
    refine va_callv (va_runV (As := [.ref (ad vj), .int 0, .int 0]) (rest := []) ⟨hx, hb, hml, hown, hts⟩ (x_X7_add l dC dI ad E hEE A C nb _ hN st sl so vj 0 0 (by omega) hG.1 hO.1) (cwV 3 hts gX7_readPlain_X7_add rfl rfl rfl (by decide +kernel) ⟨Nat.le_of_ble_eq_true rfl, Nat.le_of_ble_eq_true rfl⟩) ⟨fun a U g mk q => ⟨q.1, xPre.blind hEE q.2⟩, va_recv hK hP (ci := 8) (q0 := (20 + 4 * 1)) rfl (xw_is (r := (20 + 4 * 1)) (by omega) (xc_sn (q := 1) (o := 0) (by omega) (by omega))), fun U hU hW => ⟨rfl, xPre.of hEE hP hK hE hS hU hW⟩⟩ rfl rfl hl.1 rfl (lv_room (Nat.le_of_ble_eq_true rfl)) dX7_readPlain_18 ⟨Nat.le_of_ble_eq_true rfl, Nat.le_of_ble_eq_true rfl⟩) hS (fun q _ h => XA.le hS.1 q h) (XA.le hS.1) (fun x t H locs ht hvm hw hB _ _ hS => ?_)
    have hP := xB.at ht hB
    clear hB ht hvm
    obtain ⟨st2, sl3, so4⟩ := x
    obtain ⟨hGst2, hLGst2, hOst2, hw⟩ := hw
    dsimp only at hGst2 hLGst2 hOst2 hw
    have hL : LGq sl sl3 := hL.tr hLGst2
    have hO : OG ad [2, 4] so so4 := hO.tr hOst2 (by decide)
    have hP : va_P (dC, dI) vwCl (xw A C nb st2 sl3 so4) _ := hP
    have hG : XG [1, 2, 3, 4, 5, 6, 7, 12, 13, 14, 15] st st2 := hG.tr hGst2 (by decide)
    have hf5 := hw
    have hsk : SKs ad st so 1 → SKs ad st2 so4 1 := fun hh => hf5 (hsk hh) (fun h9 => absurd h9 (by omega))
    refine lv_iconst (v := 1) hx hb dX7_readPlain_21 (by decide) ?_
    exact W.zret (v := 1) hx hb hr rfl (fun t ht hW => ⟨⟨1, (st2, sl3, so4), rfl, ⟨hG, hL, hO, Or.inl ⟨rfl, hsk⟩⟩, xB.of ht hP⟩, hS.F ht⟩) hS.2.2 dX7_readPlain_22
  · have c1 : ¬ vj = 16 := fun hh => c1 ((EV.eqw hEv (i := vj) (j := 16) (by omega) (by omega)).mpr hh)
    refine lv_aload_n hx hb dX7_readPlain_7 rfl (lv_at hl 3 rfl) ?_
    refine va_gets (v := .ref (ad 17)) hx hb (EV.word hEv (i := 17) (by decide)) hS hown (hts _ mm_X7_readPlain_2) (fun _ hh => hh) dX7_readPlain_8 ?_
    refine lv_acmp_ne (rx := (some (ad vj))) (ry := (some (ad 17))) (tgt := 23) hx hb dX7_readPlain_11 (by decide) (fun c2 => ?_) (fun c2 => ?_)
    · have c2 : ¬ vj = 17 := fun hh => c2 ((EV.eqw hEv (i := vj) (j := 17) (by omega) (by omega)).mpr hh)
      refine lv_aload_n hx hb dX7_readPlain_23 rfl (lv_at hl 3 rfl) ?_
      refine va_gets (v := .ref (ad 18)) hx hb (EV.word hEv (i := 18) (by decide)) hS hown (hts _ mm_X7_readPlain_3) (fun _ hh => hh) dX7_readPlain_24 ?_
      refine lv_acmp_eq (rx := (some (ad vj))) (ry := (some (ad 18))) (tgt := 37) hx hb dX7_readPlain_27 (by decide) (fun c3 => ?_) (fun c3 => ?_)
      · have c3 : vj = 18 := (EV.eqw hEv (i := vj) (j := 18) (by omega) (by omega)).mp c3
        refine lv_aload_n hx hb dX7_readPlain_37 rfl (lv_at hl 1 rfl) ?_
        refine lv_aload_n hx hb dX7_readPlain_38 rfl (lv_at hl 2 rfl) ?_
        refine lv_aload_n hx hb dX7_readPlain_39 rfl (lv_at hl 3 rfl) ?_
        refine va_gets (v := .ref (ad 19)) hx hb (EV.word hEv (i := 19) (by decide)) hS hown (hts _ mm_X7_readPlain_4) (fun _ hh => hh) dX7_readPlain_40 ?_
        refine lv_acmp_ne (rx := (some (ad vj))) (ry := (some (ad 19))) (tgt := 50) hx hb dX7_readPlain_43 (by decide) (fun _ => ?_) (fun hh => absurd ((EV.eqw hEv (i := vj) (j := 19) (by omega) (by omega)).mp hh) (by omega))
        refine lv_iconst (v := 1) hx hb dX7_readPlain_50 (by decide) ?_
        refine va_calli (va_runV (As := [.ref (A (36 + 20 * 0)), .int 1]) (rest := []) ⟨hx, hb, hml, hown, hts⟩ (x_takeNamed1 l dC dI ad E hEE A C nb _ hN st sl so 0 (by omega) hG.1 hO.1) (cwV 2 hts gX7_readPlain_X8_takeNamed rfl rfl rfl (by decide +kernel) ⟨Nat.le_of_ble_eq_true rfl, Nat.le_of_ble_eq_true rfl⟩) ⟨fun a U g mk q => ⟨q.1, xPre.blind hEE q.2⟩, va_recv hK hP (ci := 9) (q0 := 1) rfl (xw_is (r := 1) (by omega) (xc_fix (r := 1) (by omega))), fun U hU hW => ⟨rfl, xPre.of hEE hP hK hE hS hU hW⟩⟩ rfl rfl hl.1 rfl (lv_room (Nat.le_of_ble_eq_true rfl)) dX7_readPlain_51 ⟨Nat.le_of_ble_eq_true rfl, Nat.le_of_ble_eq_true rfl⟩) hS (fun q _ h => XA.le hS.1 q h) (XA.le hS.1) (fun r6 x t H locs ht hvm hw hB _ _ hS => ?_)
        have hP := xB.at ht hB
        clear hB ht hvm
        obtain ⟨st7, sl8, so9⟩ := x
        obtain ⟨hGst7, hLGst7, hOst7, hw⟩ := hw
        dsimp only at hGst7 hLGst7 hOst7 hw
        have hL : LGq sl sl8 := hL.tr hLGst7
        have hO : OG ad [2, 4] so so9 := hO.tr hOst7 (by decide)
        have hP : va_P (dC, dI) vwCl (xw A C nb st7 sl8 so9) _ := hP
        have hG : XG [1, 2, 3, 4, 5, 6, 7, 12, 13, 14, 15] st st7 := hG.tr hGst7 (by decide)
        rcases hw with ⟨n10, rfl, hf11, hf12⟩ | ⟨rfl, hf13⟩
        · have hsk : SKs ad st so 1 → SKs ad st7 so9 1 := fun hh => SKs.mg (hsk hh) (by omega) hGst7 hOst7 (by decide) (by decide) (by decide)
          refine lv_istore (lv' := [(4, .int 1), (0, .ref (A (20 + 4 * 1))), (1, .ref (A 1)), (2, .ref (A (36 + 20 * 0))), (3, .ref (ad vj))]) hx hb dX7_readPlain_54 hl (by decide) rfl (fun ls hl => ?_)
          refine lv_aload_n hx hb dX7_readPlain_56 rfl (lv_at hl 1 rfl) ?_
          refine lv_aload_n hx hb dX7_readPlain_57 rfl (lv_at hl 4 rfl) ?_
          refine lv_iconst (v := 0) hx hb dX7_readPlain_58 (by decide) ?_
          refine lv_aload_n hx hb dX7_readPlain_59 rfl (lv_at hl 2 rfl) ?_
          refine va_getN (host := "OffTheLead") (D := (dC, dI)) (ci := 9) (v := .int (st7 1 9)) (C := RX8) (T := TX8) (N := 15) hx hb hts ii_X7_readPlain_X8 hown hK hP 1 (xw_is (r := 1) (by omega) (xc_fix (r := 1) (by omega))) rfl 9 (by decide) (va_Nw.use rfl (nf_X7_97 hEv)) (fun _ hh => hh) rfl dX7_readPlain_60 ?_
          refine zz_top (v := (nI n10)) (by show st7 1 9 = _; rw [hf11]) ?_
          refine va_callv (va_runV (As := [.ref (ad vj), .int 0, .int (nI n10)]) (rest := []) ⟨hx, hb, hml, hown, hts⟩ (x_X7_add l dC dI ad E hEE A C nb _ hN st7 sl8 so9 vj 0 (nI n10) (by omega) hG.1 hO.1) (cwV 3 hts gX7_readPlain_X7_add rfl rfl rfl (by decide +kernel) ⟨Nat.le_of_ble_eq_true rfl, Nat.le_of_ble_eq_true rfl⟩) ⟨fun a U g mk q => ⟨q.1, xPre.blind hEE q.2⟩, va_recv hK hP (ci := 8) (q0 := (20 + 4 * 1)) rfl (xw_is (r := (20 + 4 * 1)) (by omega) (xc_sn (q := 1) (o := 0) (by omega) (by omega))), fun U hU hW => ⟨rfl, xPre.of hEE hP hK hE hS hU hW⟩⟩ rfl rfl hl.1 rfl (lv_room (Nat.le_of_ble_eq_true rfl)) dX7_readPlain_63 ⟨Nat.le_of_ble_eq_true rfl, Nat.le_of_ble_eq_true rfl⟩) hS (fun q _ h => XA.le hS.1 q h) (XA.le hS.1) (fun x t H locs ht hvm hw hB _ _ hS => ?_)
          have hP := xB.at ht hB
          clear hB ht hvm
          obtain ⟨st15, sl16, so17⟩ := x
          obtain ⟨hGst15, hLGst15, hOst15, hw⟩ := hw
          dsimp only at hGst15 hLGst15 hOst15 hw
          have hL : LGq sl sl16 := hL.tr hLGst15
          have hO : OG ad [2, 4] so so17 := hO.tr hOst15 (by decide)
          have hP : va_P (dC, dI) vwCl (xw A C nb st15 sl16 so17) _ := hP
          have hG : XG [1, 2, 3, 4, 5, 6, 7, 12, 13, 14, 15] st st15 := hG.tr hGst15 (by decide)
          have hf18 := hw
          have hsk : SKs ad st so 1 → SKs ad st15 so17 1 := fun hh => hf18 (hsk hh) (fun _ => ⟨n10, by omega, rfl⟩)
          refine lv_iload hx hb dX7_readPlain_66 (lv_at hl 0 rfl) ?_
          exact W.zret (v := 1) hx hb hr rfl (fun t ht hW => ⟨⟨1, (st15, sl16, so17), rfl, ⟨hG, hL, hO, Or.inl ⟨rfl, hsk⟩⟩, xB.of ht hP⟩, hS.F ht⟩) hS.2.2 dX7_readPlain_68
        · have hsk : SKs ad st so 1 → SKs ad st7 so9 1 := fun hh => SKs.mg (hsk hh) (by omega) hGst7 hOst7 (by decide) (by decide) (by decide)
          refine lv_istore (lv' := [(4, .int 0), (0, .ref (A (20 + 4 * 1))), (1, .ref (A 1)), (2, .ref (A (36 + 20 * 0))), (3, .ref (ad vj))]) hx hb dX7_readPlain_54 hl (by decide) rfl (fun ls hl => ?_)
          refine lv_aload_n hx hb dX7_readPlain_56 rfl (lv_at hl 1 rfl) ?_
          refine lv_aload_n hx hb dX7_readPlain_57 rfl (lv_at hl 4 rfl) ?_
          refine lv_iconst (v := 0) hx hb dX7_readPlain_58 (by decide) ?_
          refine lv_aload_n hx hb dX7_readPlain_59 rfl (lv_at hl 2 rfl) ?_
          refine va_getN (host := "OffTheLead") (D := (dC, dI)) (ci := 9) (v := .int (st7 1 9)) (C := RX8) (T := TX8) (N := 15) hx hb hts ii_X7_readPlain_X8 hown hK hP 1 (xw_is (r := 1) (by omega) (xc_fix (r := 1) (by omega))) rfl 9 (by decide) (va_Nw.use rfl (nf_X7_97 hEv)) (fun _ hh => hh) rfl dX7_readPlain_60 ?_
          obtain ⟨z19, ez19⟩ : ∃ y : Int32, st7 1 9 = y := ⟨_, rfl⟩
          refine zz_top (v := z19) (by exact ez19) ?_
          refine va_callv (va_runV (As := [.ref (ad vj), .int 0, .int z19]) (rest := []) ⟨hx, hb, hml, hown, hts⟩ (x_X7_add l dC dI ad E hEE A C nb _ hN st7 sl8 so9 vj 0 z19 (by omega) hG.1 hO.1) (cwV 3 hts gX7_readPlain_X7_add rfl rfl rfl (by decide +kernel) ⟨Nat.le_of_ble_eq_true rfl, Nat.le_of_ble_eq_true rfl⟩) ⟨fun a U g mk q => ⟨q.1, xPre.blind hEE q.2⟩, va_recv hK hP (ci := 8) (q0 := (20 + 4 * 1)) rfl (xw_is (r := (20 + 4 * 1)) (by omega) (xc_sn (q := 1) (o := 0) (by omega) (by omega))), fun U hU hW => ⟨rfl, xPre.of hEE hP hK hE hS hU hW⟩⟩ rfl rfl hl.1 rfl (lv_room (Nat.le_of_ble_eq_true rfl)) dX7_readPlain_63 ⟨Nat.le_of_ble_eq_true rfl, Nat.le_of_ble_eq_true rfl⟩) hS (fun q _ h => XA.le hS.1 q h) (XA.le hS.1) (fun x t H locs ht hvm hw hB _ _ hS => ?_)
          have hP := xB.at ht hB
          clear hB ht hvm
          obtain ⟨st21, sl22, so23⟩ := x
          obtain ⟨hGst21, hLGst21, hOst21, hw⟩ := hw
          dsimp only at hGst21 hLGst21 hOst21 hw
          have hL : LGq sl sl22 := hL.tr hLGst21
          have hO : OG ad [2, 4] so so23 := hO.tr hOst21 (by decide)
          have hP : va_P (dC, dI) vwCl (xw A C nb st21 sl22 so23) _ := hP
          have hG : XG [1, 2, 3, 4, 5, 6, 7, 12, 13, 14, 15] st st21 := hG.tr hGst21 (by decide)
          have hf24 := hw
          refine lv_iload hx hb dX7_readPlain_66 (lv_at hl 0 rfl) ?_
          exact W.zret (v := 0) hx hb hr rfl (fun t ht hW => ⟨⟨0, (st21, sl22, so23), rfl, ⟨hG, hL, hO, Or.inr (⟨rfl, by show ¬ st21 1 13 = 0; rw [hGst21.2 1 13 (by rw [(by decide : xcl 1 13 = 10)]; decide)]; exact hf13⟩)⟩, xB.of ht hP⟩, hS.F ht⟩) hS.2.2 dX7_readPlain_68
      · have c3 : ¬ vj = 18 := fun hh => c3 ((EV.eqw hEv (i := vj) (j := 18) (by omega) (by omega)).mpr hh)
        refine lv_aload_n hx hb dX7_readPlain_30 rfl (lv_at hl 3 rfl) ?_
        refine va_gets (v := .ref (ad 19)) hx hb (EV.word hEv (i := 19) (by decide)) hS hown (hts _ mm_X7_readPlain_4) (fun _ hh => hh) dX7_readPlain_31 ?_
        refine lv_acmp_ne (rx := (some (ad vj))) (ry := (some (ad 19))) (tgt := 69) hx hb dX7_readPlain_34 (by decide) (fun c5 => ?_) (fun c5 => ?_)
        · have c5 : ¬ vj = 19 := fun hh => c5 ((EV.eqw hEv (i := vj) (j := 19) (by omega) (by omega)).mpr hh)
          refine lv_aload_n hx hb dX7_readPlain_69 rfl (lv_at hl 1 rfl) ?_
          refine va_getN (host := "OffTheLead") (D := (dC, dI)) (ci := 9) (v := .int (st 1 6)) (C := RX8) (T := TX8) (N := 15) hx hb hts ii_X7_readPlain_X8 hown hK hP 1 (xw_is (r := 1) (by omega) (xc_fix (r := 1) (by omega))) rfl 6 (by decide) (va_Nw.use rfl (nf_X7_100 hEv)) (fun _ hh => hh) rfl dX7_readPlain_70 ?_
          obtain ⟨z25, ez25⟩ : ∃ y : Int32, st 1 6 = y := ⟨_, rfl⟩
          refine zz_top (v := z25) (by exact ez25) ?_
          refine lv_istore (lv' := [(4, .int z25), (0, .ref (A (20 + 4 * 1))), (1, .ref (A 1)), (2, .ref (A (36 + 20 * 0))), (3, .ref (ad vj))]) hx hb dX7_readPlain_73 hl (by decide) rfl (fun ls hl => ?_)
          refine lv_aload_n hx hb dX7_readPlain_75 rfl (lv_at hl 2 rfl) ?_
          refine lv_bipush (v := 60) hx hb dX7_readPlain_76 (by decide) ?_
          refine va_calli (va_runV (As := [.int 60]) (rest := []) ⟨hx, hb, hml, hown, hts⟩ (x_X8_looksAtMark l dC dI ad E hEE A C nb _ hN st sl so 60  hG.1) (cwV 1 hts gX7_readPlain_X8_looksAtMark rfl rfl rfl (by decide +kernel) ⟨Nat.le_of_ble_eq_true rfl, Nat.le_of_ble_eq_true rfl⟩) ⟨fun a U g mk q => ⟨q.1, xPre.blind hEE q.2⟩, va_recv hK hP (ci := 9) (q0 := 1) rfl (xw_is (r := 1) (by omega) (xc_fix (r := 1) (by omega))), fun U hU hW => ⟨rfl, xPre.of hEE hP hK hE hS hU hW⟩⟩ rfl rfl hl.1 rfl (lv_room (Nat.le_of_ble_eq_true rfl)) dX7_readPlain_78 ⟨Nat.le_of_ble_eq_true rfl, Nat.le_of_ble_eq_true rfl⟩) hS (fun q _ h => XA.le hS.1 q h) (XA.le hS.1) (fun r26 x t H locs ht hvm hw hB _ _ hS => ?_)
          have hP := xB.at ht hB
          clear hB ht hvm
          obtain ⟨rfl, hw⟩ := hw
          have hP : va_P (dC, dI) vwCl (xw A C nb st sl so) _ := hP
          rcases hw with rfl | rfl
          · refine lv_if_ne (tgt := 108) hx hb dX7_readPlain_81 (by decide) (fun _ => ?_) (fun cc => absurd cc (by decide))
            refine lv_aload_n hx hb dX7_readPlain_108 rfl (lv_at hl 2 rfl) ?_
            refine va_callv (va_runV (As := []) (rest := []) ⟨hx, hb, hml, hown, hts⟩ (x_X8_step l dC dI ad E hEE A C nb _ hN st sl so  hG.1 hO.1) (cwV 0 hts gX7_readPlain_X8_step rfl rfl rfl (by decide +kernel) ⟨Nat.le_of_ble_eq_true rfl, Nat.le_of_ble_eq_true rfl⟩) ⟨fun a U g mk q => ⟨q.1, xPre.blind hEE q.2⟩, va_recv hK hP (ci := 9) (q0 := 1) rfl (xw_is (r := 1) (by omega) (xc_fix (r := 1) (by omega))), fun U hU hW => ⟨rfl, xPre.of hEE hP hK hE hS hU hW⟩⟩ rfl rfl hl.1 rfl (lv_room (Nat.le_of_ble_eq_true rfl)) dX7_readPlain_109 ⟨Nat.le_of_ble_eq_true rfl, Nat.le_of_ble_eq_true rfl⟩) hS (fun q _ h => XA.le hS.1 q h) (XA.le hS.1) (fun x t H locs ht hvm hw hB _ _ hS => ?_)
            have hP := xB.at ht hB
            clear hB ht hvm
            obtain ⟨st28, sl29, so30⟩ := x
            obtain ⟨hGst28, hLGst28, hOst28, hw⟩ := hw
            dsimp only at hGst28 hLGst28 hOst28 hw
            have hL : LGq sl sl29 := hL.tr hLGst28
            have hO : OG ad [2, 4] so so30 := hO.tr hOst28 (by decide)
            have hP : va_P (dC, dI) vwCl (xw A C nb st28 sl29 so30) _ := hP
            have hG : XG [1, 2, 3, 4, 5, 6, 7, 12, 13, 14, 15] st st28 := hG.tr hGst28 (by decide)
            clear hw
            have hsk : SKs ad st so 1 → SKs ad st28 so30 1 := fun hh => SKs.mg (hsk hh) (by omega) hGst28 hOst28 (by decide) (by decide) (by decide)
            refine lv_aload_n hx hb dX7_readPlain_112 rfl (lv_at hl 2 rfl) ?_
            refine lv_iconst (v := 0) hx hb dX7_readPlain_113 (by decide) ?_
            refine lv_sipush (v := 999) hx hb dX7_readPlain_114 (by decide) ?_
            refine va_calli (va_runV (As := [.int 0, .int 999]) (rest := []) ⟨hx, hb, hml, hown, hts⟩ (x_X8_takeNumber l dC dI ad E hEE A C nb _ hN st28 sl29 so30 0 999  hG.1 hO.1) (cwV 2 hts gX7_readPlain_X8_takeNumber rfl rfl rfl (by decide +kernel) ⟨Nat.le_of_ble_eq_true rfl, Nat.le_of_ble_eq_true rfl⟩) ⟨fun a U g mk q => ⟨q.1, xPre.blind hEE q.2⟩, va_recv hK hP (ci := 9) (q0 := 1) rfl (xw_is (r := 1) (by omega) (xc_fix (r := 1) (by omega))), fun U hU hW => ⟨rfl, xPre.of hEE hP hK hE hS hU hW⟩⟩ rfl rfl hl.1 rfl (lv_room (Nat.le_of_ble_eq_true rfl)) dX7_readPlain_117 ⟨Nat.le_of_ble_eq_true rfl, Nat.le_of_ble_eq_true rfl⟩) hS (fun q _ h => XA.le hS.1 q h) (XA.le hS.1) (fun r31 x t H locs ht hvm hw hB _ _ hS => ?_)
            have hP := xB.at ht hB
            clear hB ht hvm
            obtain ⟨st32, sl33, so34⟩ := x
            obtain ⟨hGst32, hLGst32, hOst32, hw⟩ := hw
            dsimp only at hGst32 hLGst32 hOst32 hw
            have hL : LGq sl sl33 := hL.tr hLGst32
            have hO : OG ad [2, 4] so so34 := hO.tr hOst32 (by decide)
            have hP : va_P (dC, dI) vwCl (xw A C nb st32 sl33 so34) _ := hP
            have hG : XG [1, 2, 3, 4, 5, 6, 7, 12, 13, 14, 15] st st32 := hG.tr hGst32 (by decide)
            rcases hw with rfl | ⟨rfl, hf35⟩
            · have hsk : SKs ad st so 1 → SKs ad st32 so34 1 := fun hh => SKs.mg (hsk hh) (by omega) hGst32 hOst32 (by decide) (by decide) (by decide)
              refine lv_istore (lv' := [(5, .int 1), (4, .int z25), (0, .ref (A (20 + 4 * 1))), (1, .ref (A 1)), (2, .ref (A (36 + 20 * 0))), (3, .ref (ad vj))]) hx hb dX7_readPlain_120 hl (by decide) rfl (fun ls hl => ?_)
              refine lv_aload_n hx hb dX7_readPlain_122 rfl (lv_at hl 2 rfl) ?_
              refine lv_aload_n hx hb dX7_readPlain_123 rfl (lv_at hl 5 rfl) ?_
              refine lv_iload hx hb dX7_readPlain_124 (lv_at hl 1 rfl) ?_
              refine lv_aload_n hx hb dX7_readPlain_126 rfl (lv_at hl 3 rfl) ?_
              refine va_getN (host := "OffTheLead") (D := (dC, dI)) (ci := 9) (v := .int (st32 1 9)) (C := RX8) (T := TX8) (N := 15) hx hb hts ii_X7_readPlain_X8 hown hK hP 1 (xw_is (r := 1) (by omega) (xc_fix (r := 1) (by omega))) rfl 9 (by decide) (va_Nw.use rfl (nf_X7_97 hEv)) (fun _ hh => hh) rfl dX7_readPlain_127 ?_
              obtain ⟨z36, ez36⟩ : ∃ y : Int32, st32 1 9 = y := ⟨_, rfl⟩
              refine zz_top (v := z36) (by exact ez36) ?_
              refine va_callv (va_runV (As := [.ref (ad vj), .int z25, .int z36]) (rest := []) ⟨hx, hb, hml, hown, hts⟩ (x_X7_add l dC dI ad E hEE A C nb _ hN st32 sl33 so34 vj z25 z36 (by omega) hG.1 hO.1) (cwV 3 hts gX7_readPlain_X7_add rfl rfl rfl (by decide +kernel) ⟨Nat.le_of_ble_eq_true rfl, Nat.le_of_ble_eq_true rfl⟩) ⟨fun a U g mk q => ⟨q.1, xPre.blind hEE q.2⟩, va_recv hK hP (ci := 8) (q0 := (20 + 4 * 1)) rfl (xw_is (r := (20 + 4 * 1)) (by omega) (xc_sn (q := 1) (o := 0) (by omega) (by omega))), fun U hU hW => ⟨rfl, xPre.of hEE hP hK hE hS hU hW⟩⟩ rfl rfl hl.1 rfl (lv_room (Nat.le_of_ble_eq_true rfl)) dX7_readPlain_130 ⟨Nat.le_of_ble_eq_true rfl, Nat.le_of_ble_eq_true rfl⟩) hS (fun q _ h => XA.le hS.1 q h) (XA.le hS.1) (fun x t H locs ht hvm hw hB _ _ hS => ?_)
              have hP := xB.at ht hB
              clear hB ht hvm
              obtain ⟨st38, sl39, so40⟩ := x
              obtain ⟨hGst38, hLGst38, hOst38, hw⟩ := hw
              dsimp only at hGst38 hLGst38 hOst38 hw
              have hL : LGq sl sl39 := hL.tr hLGst38
              have hO : OG ad [2, 4] so so40 := hO.tr hOst38 (by decide)
              have hP : va_P (dC, dI) vwCl (xw A C nb st38 sl39 so40) _ := hP
              have hG : XG [1, 2, 3, 4, 5, 6, 7, 12, 13, 14, 15] st st38 := hG.tr hGst38 (by decide)
              have hf41 := hw
              have hsk : SKs ad st so 1 → SKs ad st38 so40 1 := fun hh => hf41 (hsk hh) (fun h9 => absurd h9 (by omega))
              refine lv_iload hx hb dX7_readPlain_133 (lv_at hl 0 rfl) ?_
              exact W.zret (v := 1) hx hb hr rfl (fun t ht hW => ⟨⟨1, (st38, sl39, so40), rfl, ⟨hG, hL, hO, Or.inl ⟨rfl, hsk⟩⟩, xB.of ht hP⟩, hS.F ht⟩) hS.2.2 dX7_readPlain_135
            · have hsk : SKs ad st so 1 → SKs ad st32 so34 1 := fun hh => SKs.mg (hsk hh) (by omega) hGst32 hOst32 (by decide) (by decide) (by decide)
              refine lv_istore (lv' := [(5, .int 0), (4, .int z25), (0, .ref (A (20 + 4 * 1))), (1, .ref (A 1)), (2, .ref (A (36 + 20 * 0))), (3, .ref (ad vj))]) hx hb dX7_readPlain_120 hl (by decide) rfl (fun ls hl => ?_)
              refine lv_aload_n hx hb dX7_readPlain_122 rfl (lv_at hl 2 rfl) ?_
              refine lv_aload_n hx hb dX7_readPlain_123 rfl (lv_at hl 5 rfl) ?_
              refine lv_iload hx hb dX7_readPlain_124 (lv_at hl 1 rfl) ?_
              refine lv_aload_n hx hb dX7_readPlain_126 rfl (lv_at hl 3 rfl) ?_
              refine va_getN (host := "OffTheLead") (D := (dC, dI)) (ci := 9) (v := .int (st32 1 9)) (C := RX8) (T := TX8) (N := 15) hx hb hts ii_X7_readPlain_X8 hown hK hP 1 (xw_is (r := 1) (by omega) (xc_fix (r := 1) (by omega))) rfl 9 (by decide) (va_Nw.use rfl (nf_X7_97 hEv)) (fun _ hh => hh) rfl dX7_readPlain_127 ?_
              obtain ⟨z42, ez42⟩ : ∃ y : Int32, st32 1 9 = y := ⟨_, rfl⟩
              refine zz_top (v := z42) (by exact ez42) ?_
              refine va_callv (va_runV (As := [.ref (ad vj), .int z25, .int z42]) (rest := []) ⟨hx, hb, hml, hown, hts⟩ (x_X7_add l dC dI ad E hEE A C nb _ hN st32 sl33 so34 vj z25 z42 (by omega) hG.1 hO.1) (cwV 3 hts gX7_readPlain_X7_add rfl rfl rfl (by decide +kernel) ⟨Nat.le_of_ble_eq_true rfl, Nat.le_of_ble_eq_true rfl⟩) ⟨fun a U g mk q => ⟨q.1, xPre.blind hEE q.2⟩, va_recv hK hP (ci := 8) (q0 := (20 + 4 * 1)) rfl (xw_is (r := (20 + 4 * 1)) (by omega) (xc_sn (q := 1) (o := 0) (by omega) (by omega))), fun U hU hW => ⟨rfl, xPre.of hEE hP hK hE hS hU hW⟩⟩ rfl rfl hl.1 rfl (lv_room (Nat.le_of_ble_eq_true rfl)) dX7_readPlain_130 ⟨Nat.le_of_ble_eq_true rfl, Nat.le_of_ble_eq_true rfl⟩) hS (fun q _ h => XA.le hS.1 q h) (XA.le hS.1) (fun x t H locs ht hvm hw hB _ _ hS => ?_)
              have hP := xB.at ht hB
              clear hB ht hvm
              obtain ⟨st44, sl45, so46⟩ := x
              obtain ⟨hGst44, hLGst44, hOst44, hw⟩ := hw
              dsimp only at hGst44 hLGst44 hOst44 hw
              have hL : LGq sl sl45 := hL.tr hLGst44
              have hO : OG ad [2, 4] so so46 := hO.tr hOst44 (by decide)
              have hP : va_P (dC, dI) vwCl (xw A C nb st44 sl45 so46) _ := hP
              have hG : XG [1, 2, 3, 4, 5, 6, 7, 12, 13, 14, 15] st st44 := hG.tr hGst44 (by decide)
              have hf47 := hw
              have hsk : SKs ad st so 1 → SKs ad st44 so46 1 := fun hh => hf47 (hsk hh) (fun h9 => absurd h9 (by omega))
              refine lv_iload hx hb dX7_readPlain_133 (lv_at hl 0 rfl) ?_
              exact W.zret (v := 0) hx hb hr rfl (fun t ht hW => ⟨⟨0, (st44, sl45, so46), rfl, ⟨hG, hL, hO, Or.inr (⟨rfl, by show ¬ st44 1 13 = 0; rw [hGst44.2 1 13 (by rw [(by decide : xcl 1 13 = 10)]; decide)]; exact hf35⟩)⟩, xB.of ht hP⟩, hS.F ht⟩) hS.2.2 dX7_readPlain_135
          · refine lv_if_ne (tgt := 108) hx hb dX7_readPlain_81 (by decide) (fun cc => absurd (by decide) cc) (fun _ => ?_)
            refine lv_aload_n hx hb dX7_readPlain_84 rfl (lv_at hl 2 rfl) ?_
            refine lv_bipush (v := 61) hx hb dX7_readPlain_85 (by decide) ?_
            refine va_calli (va_runV (As := [.int 61]) (rest := []) ⟨hx, hb, hml, hown, hts⟩ (x_X8_looksAtMark l dC dI ad E hEE A C nb _ hN st sl so 61  hG.1) (cwV 1 hts gX7_readPlain_X8_looksAtMark rfl rfl rfl (by decide +kernel) ⟨Nat.le_of_ble_eq_true rfl, Nat.le_of_ble_eq_true rfl⟩) ⟨fun a U g mk q => ⟨q.1, xPre.blind hEE q.2⟩, va_recv hK hP (ci := 9) (q0 := 1) rfl (xw_is (r := 1) (by omega) (xc_fix (r := 1) (by omega))), fun U hU hW => ⟨rfl, xPre.of hEE hP hK hE hS hU hW⟩⟩ rfl rfl hl.1 rfl (lv_room (Nat.le_of_ble_eq_true rfl)) dX7_readPlain_87 ⟨Nat.le_of_ble_eq_true rfl, Nat.le_of_ble_eq_true rfl⟩) hS (fun q _ h => XA.le hS.1 q h) (XA.le hS.1) (fun r48 x t H locs ht hvm hw hB _ _ hS => ?_)
            have hP := xB.at ht hB
            clear hB ht hvm
            obtain ⟨rfl, hw⟩ := hw
            have hP : va_P (dC, dI) vwCl (xw A C nb st sl so) _ := hP
            rcases hw with rfl | rfl
            · refine lv_if_ne (tgt := 108) hx hb dX7_readPlain_90 (by decide) (fun _ => ?_) (fun cc => absurd cc (by decide))
              refine lv_aload_n hx hb dX7_readPlain_108 rfl (lv_at hl 2 rfl) ?_
              refine va_callv (va_runV (As := []) (rest := []) ⟨hx, hb, hml, hown, hts⟩ (x_X8_step l dC dI ad E hEE A C nb _ hN st sl so  hG.1 hO.1) (cwV 0 hts gX7_readPlain_X8_step rfl rfl rfl (by decide +kernel) ⟨Nat.le_of_ble_eq_true rfl, Nat.le_of_ble_eq_true rfl⟩) ⟨fun a U g mk q => ⟨q.1, xPre.blind hEE q.2⟩, va_recv hK hP (ci := 9) (q0 := 1) rfl (xw_is (r := 1) (by omega) (xc_fix (r := 1) (by omega))), fun U hU hW => ⟨rfl, xPre.of hEE hP hK hE hS hU hW⟩⟩ rfl rfl hl.1 rfl (lv_room (Nat.le_of_ble_eq_true rfl)) dX7_readPlain_109 ⟨Nat.le_of_ble_eq_true rfl, Nat.le_of_ble_eq_true rfl⟩) hS (fun q _ h => XA.le hS.1 q h) (XA.le hS.1) (fun x t H locs ht hvm hw hB _ _ hS => ?_)
              have hP := xB.at ht hB
              clear hB ht hvm
              obtain ⟨st50, sl51, so52⟩ := x
              obtain ⟨hGst50, hLGst50, hOst50, hw⟩ := hw
              dsimp only at hGst50 hLGst50 hOst50 hw
              have hL : LGq sl sl51 := hL.tr hLGst50
              have hO : OG ad [2, 4] so so52 := hO.tr hOst50 (by decide)
              have hP : va_P (dC, dI) vwCl (xw A C nb st50 sl51 so52) _ := hP
              have hG : XG [1, 2, 3, 4, 5, 6, 7, 12, 13, 14, 15] st st50 := hG.tr hGst50 (by decide)
              clear hw
              have hsk : SKs ad st so 1 → SKs ad st50 so52 1 := fun hh => SKs.mg (hsk hh) (by omega) hGst50 hOst50 (by decide) (by decide) (by decide)
              refine lv_aload_n hx hb dX7_readPlain_112 rfl (lv_at hl 2 rfl) ?_
              refine lv_iconst (v := 0) hx hb dX7_readPlain_113 (by decide) ?_
              refine lv_sipush (v := 999) hx hb dX7_readPlain_114 (by decide) ?_
              refine va_calli (va_runV (As := [.int 0, .int 999]) (rest := []) ⟨hx, hb, hml, hown, hts⟩ (x_X8_takeNumber l dC dI ad E hEE A C nb _ hN st50 sl51 so52 0 999  hG.1 hO.1) (cwV 2 hts gX7_readPlain_X8_takeNumber rfl rfl rfl (by decide +kernel) ⟨Nat.le_of_ble_eq_true rfl, Nat.le_of_ble_eq_true rfl⟩) ⟨fun a U g mk q => ⟨q.1, xPre.blind hEE q.2⟩, va_recv hK hP (ci := 9) (q0 := 1) rfl (xw_is (r := 1) (by omega) (xc_fix (r := 1) (by omega))), fun U hU hW => ⟨rfl, xPre.of hEE hP hK hE hS hU hW⟩⟩ rfl rfl hl.1 rfl (lv_room (Nat.le_of_ble_eq_true rfl)) dX7_readPlain_117 ⟨Nat.le_of_ble_eq_true rfl, Nat.le_of_ble_eq_true rfl⟩) hS (fun q _ h => XA.le hS.1 q h) (XA.le hS.1) (fun r53 x t H locs ht hvm hw hB _ _ hS => ?_)
              have hP := xB.at ht hB
              clear hB ht hvm
              obtain ⟨st54, sl55, so56⟩ := x
              obtain ⟨hGst54, hLGst54, hOst54, hw⟩ := hw
              dsimp only at hGst54 hLGst54 hOst54 hw
              have hL : LGq sl sl55 := hL.tr hLGst54
              have hO : OG ad [2, 4] so so56 := hO.tr hOst54 (by decide)
              have hP : va_P (dC, dI) vwCl (xw A C nb st54 sl55 so56) _ := hP
              have hG : XG [1, 2, 3, 4, 5, 6, 7, 12, 13, 14, 15] st st54 := hG.tr hGst54 (by decide)
              rcases hw with rfl | ⟨rfl, hf57⟩
              · have hsk : SKs ad st so 1 → SKs ad st54 so56 1 := fun hh => SKs.mg (hsk hh) (by omega) hGst54 hOst54 (by decide) (by decide) (by decide)
                refine lv_istore (lv' := [(5, .int 1), (4, .int z25), (0, .ref (A (20 + 4 * 1))), (1, .ref (A 1)), (2, .ref (A (36 + 20 * 0))), (3, .ref (ad vj))]) hx hb dX7_readPlain_120 hl (by decide) rfl (fun ls hl => ?_)
                refine lv_aload_n hx hb dX7_readPlain_122 rfl (lv_at hl 2 rfl) ?_
                refine lv_aload_n hx hb dX7_readPlain_123 rfl (lv_at hl 5 rfl) ?_
                refine lv_iload hx hb dX7_readPlain_124 (lv_at hl 1 rfl) ?_
                refine lv_aload_n hx hb dX7_readPlain_126 rfl (lv_at hl 3 rfl) ?_
                refine va_getN (host := "OffTheLead") (D := (dC, dI)) (ci := 9) (v := .int (st54 1 9)) (C := RX8) (T := TX8) (N := 15) hx hb hts ii_X7_readPlain_X8 hown hK hP 1 (xw_is (r := 1) (by omega) (xc_fix (r := 1) (by omega))) rfl 9 (by decide) (va_Nw.use rfl (nf_X7_97 hEv)) (fun _ hh => hh) rfl dX7_readPlain_127 ?_
                obtain ⟨z58, ez58⟩ : ∃ y : Int32, st54 1 9 = y := ⟨_, rfl⟩
                refine zz_top (v := z58) (by exact ez58) ?_
                refine va_callv (va_runV (As := [.ref (ad vj), .int z25, .int z58]) (rest := []) ⟨hx, hb, hml, hown, hts⟩ (x_X7_add l dC dI ad E hEE A C nb _ hN st54 sl55 so56 vj z25 z58 (by omega) hG.1 hO.1) (cwV 3 hts gX7_readPlain_X7_add rfl rfl rfl (by decide +kernel) ⟨Nat.le_of_ble_eq_true rfl, Nat.le_of_ble_eq_true rfl⟩) ⟨fun a U g mk q => ⟨q.1, xPre.blind hEE q.2⟩, va_recv hK hP (ci := 8) (q0 := (20 + 4 * 1)) rfl (xw_is (r := (20 + 4 * 1)) (by omega) (xc_sn (q := 1) (o := 0) (by omega) (by omega))), fun U hU hW => ⟨rfl, xPre.of hEE hP hK hE hS hU hW⟩⟩ rfl rfl hl.1 rfl (lv_room (Nat.le_of_ble_eq_true rfl)) dX7_readPlain_130 ⟨Nat.le_of_ble_eq_true rfl, Nat.le_of_ble_eq_true rfl⟩) hS (fun q _ h => XA.le hS.1 q h) (XA.le hS.1) (fun x t H locs ht hvm hw hB _ _ hS => ?_)
                have hP := xB.at ht hB
                clear hB ht hvm
                obtain ⟨st60, sl61, so62⟩ := x
                obtain ⟨hGst60, hLGst60, hOst60, hw⟩ := hw
                dsimp only at hGst60 hLGst60 hOst60 hw
                have hL : LGq sl sl61 := hL.tr hLGst60
                have hO : OG ad [2, 4] so so62 := hO.tr hOst60 (by decide)
                have hP : va_P (dC, dI) vwCl (xw A C nb st60 sl61 so62) _ := hP
                have hG : XG [1, 2, 3, 4, 5, 6, 7, 12, 13, 14, 15] st st60 := hG.tr hGst60 (by decide)
                have hf63 := hw
                have hsk : SKs ad st so 1 → SKs ad st60 so62 1 := fun hh => hf63 (hsk hh) (fun h9 => absurd h9 (by omega))
                refine lv_iload hx hb dX7_readPlain_133 (lv_at hl 0 rfl) ?_
                exact W.zret (v := 1) hx hb hr rfl (fun t ht hW => ⟨⟨1, (st60, sl61, so62), rfl, ⟨hG, hL, hO, Or.inl ⟨rfl, hsk⟩⟩, xB.of ht hP⟩, hS.F ht⟩) hS.2.2 dX7_readPlain_135
              · have hsk : SKs ad st so 1 → SKs ad st54 so56 1 := fun hh => SKs.mg (hsk hh) (by omega) hGst54 hOst54 (by decide) (by decide) (by decide)
                refine lv_istore (lv' := [(5, .int 0), (4, .int z25), (0, .ref (A (20 + 4 * 1))), (1, .ref (A 1)), (2, .ref (A (36 + 20 * 0))), (3, .ref (ad vj))]) hx hb dX7_readPlain_120 hl (by decide) rfl (fun ls hl => ?_)
                refine lv_aload_n hx hb dX7_readPlain_122 rfl (lv_at hl 2 rfl) ?_
                refine lv_aload_n hx hb dX7_readPlain_123 rfl (lv_at hl 5 rfl) ?_
                refine lv_iload hx hb dX7_readPlain_124 (lv_at hl 1 rfl) ?_
                refine lv_aload_n hx hb dX7_readPlain_126 rfl (lv_at hl 3 rfl) ?_
                refine va_getN (host := "OffTheLead") (D := (dC, dI)) (ci := 9) (v := .int (st54 1 9)) (C := RX8) (T := TX8) (N := 15) hx hb hts ii_X7_readPlain_X8 hown hK hP 1 (xw_is (r := 1) (by omega) (xc_fix (r := 1) (by omega))) rfl 9 (by decide) (va_Nw.use rfl (nf_X7_97 hEv)) (fun _ hh => hh) rfl dX7_readPlain_127 ?_
                obtain ⟨z64, ez64⟩ : ∃ y : Int32, st54 1 9 = y := ⟨_, rfl⟩
                refine zz_top (v := z64) (by exact ez64) ?_
                refine va_callv (va_runV (As := [.ref (ad vj), .int z25, .int z64]) (rest := []) ⟨hx, hb, hml, hown, hts⟩ (x_X7_add l dC dI ad E hEE A C nb _ hN st54 sl55 so56 vj z25 z64 (by omega) hG.1 hO.1) (cwV 3 hts gX7_readPlain_X7_add rfl rfl rfl (by decide +kernel) ⟨Nat.le_of_ble_eq_true rfl, Nat.le_of_ble_eq_true rfl⟩) ⟨fun a U g mk q => ⟨q.1, xPre.blind hEE q.2⟩, va_recv hK hP (ci := 8) (q0 := (20 + 4 * 1)) rfl (xw_is (r := (20 + 4 * 1)) (by omega) (xc_sn (q := 1) (o := 0) (by omega) (by omega))), fun U hU hW => ⟨rfl, xPre.of hEE hP hK hE hS hU hW⟩⟩ rfl rfl hl.1 rfl (lv_room (Nat.le_of_ble_eq_true rfl)) dX7_readPlain_130 ⟨Nat.le_of_ble_eq_true rfl, Nat.le_of_ble_eq_true rfl⟩) hS (fun q _ h => XA.le hS.1 q h) (XA.le hS.1) (fun x t H locs ht hvm hw hB _ _ hS => ?_)
                have hP := xB.at ht hB
                clear hB ht hvm
                obtain ⟨st66, sl67, so68⟩ := x
                obtain ⟨hGst66, hLGst66, hOst66, hw⟩ := hw
                dsimp only at hGst66 hLGst66 hOst66 hw
                have hL : LGq sl sl67 := hL.tr hLGst66
                have hO : OG ad [2, 4] so so68 := hO.tr hOst66 (by decide)
                have hP : va_P (dC, dI) vwCl (xw A C nb st66 sl67 so68) _ := hP
                have hG : XG [1, 2, 3, 4, 5, 6, 7, 12, 13, 14, 15] st st66 := hG.tr hGst66 (by decide)
                have hf69 := hw
                have hsk : SKs ad st so 1 → SKs ad st66 so68 1 := fun hh => hf69 (hsk hh) (fun h9 => absurd h9 (by omega))
                refine lv_iload hx hb dX7_readPlain_133 (lv_at hl 0 rfl) ?_
                exact W.zret (v := 0) hx hb hr rfl (fun t ht hW => ⟨⟨0, (st66, sl67, so68), rfl, ⟨hG, hL, hO, Or.inr (⟨rfl, by show ¬ st66 1 13 = 0; rw [hGst66.2 1 13 (by rw [(by decide : xcl 1 13 = 10)]; decide)]; exact hf57⟩)⟩, xB.of ht hP⟩, hS.F ht⟩) hS.2.2 dX7_readPlain_135
            · refine lv_if_ne (tgt := 108) hx hb dX7_readPlain_90 (by decide) (fun cc => absurd (by decide) cc) (fun _ => ?_)
              refine lv_aload_n hx hb dX7_readPlain_93 rfl (lv_at hl 2 rfl) ?_
              refine lv_bipush (v := 62) hx hb dX7_readPlain_94 (by decide) ?_
              refine va_calli (va_runV (As := [.int 62]) (rest := []) ⟨hx, hb, hml, hown, hts⟩ (x_X8_looksAtMark l dC dI ad E hEE A C nb _ hN st sl so 62  hG.1) (cwV 1 hts gX7_readPlain_X8_looksAtMark rfl rfl rfl (by decide +kernel) ⟨Nat.le_of_ble_eq_true rfl, Nat.le_of_ble_eq_true rfl⟩) ⟨fun a U g mk q => ⟨q.1, xPre.blind hEE q.2⟩, va_recv hK hP (ci := 9) (q0 := 1) rfl (xw_is (r := 1) (by omega) (xc_fix (r := 1) (by omega))), fun U hU hW => ⟨rfl, xPre.of hEE hP hK hE hS hU hW⟩⟩ rfl rfl hl.1 rfl (lv_room (Nat.le_of_ble_eq_true rfl)) dX7_readPlain_96 ⟨Nat.le_of_ble_eq_true rfl, Nat.le_of_ble_eq_true rfl⟩) hS (fun q _ h => XA.le hS.1 q h) (XA.le hS.1) (fun r70 x t H locs ht hvm hw hB _ _ hS => ?_)
              have hP := xB.at ht hB
              clear hB ht hvm
              obtain ⟨rfl, hw⟩ := hw
              have hP : va_P (dC, dI) vwCl (xw A C nb st sl so) _ := hP
              rcases hw with rfl | rfl
              · refine lv_if_ne (tgt := 108) hx hb dX7_readPlain_99 (by decide) (fun _ => ?_) (fun cc => absurd cc (by decide))
                refine lv_aload_n hx hb dX7_readPlain_108 rfl (lv_at hl 2 rfl) ?_
                refine va_callv (va_runV (As := []) (rest := []) ⟨hx, hb, hml, hown, hts⟩ (x_X8_step l dC dI ad E hEE A C nb _ hN st sl so  hG.1 hO.1) (cwV 0 hts gX7_readPlain_X8_step rfl rfl rfl (by decide +kernel) ⟨Nat.le_of_ble_eq_true rfl, Nat.le_of_ble_eq_true rfl⟩) ⟨fun a U g mk q => ⟨q.1, xPre.blind hEE q.2⟩, va_recv hK hP (ci := 9) (q0 := 1) rfl (xw_is (r := 1) (by omega) (xc_fix (r := 1) (by omega))), fun U hU hW => ⟨rfl, xPre.of hEE hP hK hE hS hU hW⟩⟩ rfl rfl hl.1 rfl (lv_room (Nat.le_of_ble_eq_true rfl)) dX7_readPlain_109 ⟨Nat.le_of_ble_eq_true rfl, Nat.le_of_ble_eq_true rfl⟩) hS (fun q _ h => XA.le hS.1 q h) (XA.le hS.1) (fun x t H locs ht hvm hw hB _ _ hS => ?_)
                have hP := xB.at ht hB
                clear hB ht hvm
                obtain ⟨st72, sl73, so74⟩ := x
                obtain ⟨hGst72, hLGst72, hOst72, hw⟩ := hw
                dsimp only at hGst72 hLGst72 hOst72 hw
                have hL : LGq sl sl73 := hL.tr hLGst72
                have hO : OG ad [2, 4] so so74 := hO.tr hOst72 (by decide)
                have hP : va_P (dC, dI) vwCl (xw A C nb st72 sl73 so74) _ := hP
                have hG : XG [1, 2, 3, 4, 5, 6, 7, 12, 13, 14, 15] st st72 := hG.tr hGst72 (by decide)
                clear hw
                have hsk : SKs ad st so 1 → SKs ad st72 so74 1 := fun hh => SKs.mg (hsk hh) (by omega) hGst72 hOst72 (by decide) (by decide) (by decide)
                refine lv_aload_n hx hb dX7_readPlain_112 rfl (lv_at hl 2 rfl) ?_
                refine lv_iconst (v := 0) hx hb dX7_readPlain_113 (by decide) ?_
                refine lv_sipush (v := 999) hx hb dX7_readPlain_114 (by decide) ?_
                refine va_calli (va_runV (As := [.int 0, .int 999]) (rest := []) ⟨hx, hb, hml, hown, hts⟩ (x_X8_takeNumber l dC dI ad E hEE A C nb _ hN st72 sl73 so74 0 999  hG.1 hO.1) (cwV 2 hts gX7_readPlain_X8_takeNumber rfl rfl rfl (by decide +kernel) ⟨Nat.le_of_ble_eq_true rfl, Nat.le_of_ble_eq_true rfl⟩) ⟨fun a U g mk q => ⟨q.1, xPre.blind hEE q.2⟩, va_recv hK hP (ci := 9) (q0 := 1) rfl (xw_is (r := 1) (by omega) (xc_fix (r := 1) (by omega))), fun U hU hW => ⟨rfl, xPre.of hEE hP hK hE hS hU hW⟩⟩ rfl rfl hl.1 rfl (lv_room (Nat.le_of_ble_eq_true rfl)) dX7_readPlain_117 ⟨Nat.le_of_ble_eq_true rfl, Nat.le_of_ble_eq_true rfl⟩) hS (fun q _ h => XA.le hS.1 q h) (XA.le hS.1) (fun r75 x t H locs ht hvm hw hB _ _ hS => ?_)
                have hP := xB.at ht hB
                clear hB ht hvm
                obtain ⟨st76, sl77, so78⟩ := x
                obtain ⟨hGst76, hLGst76, hOst76, hw⟩ := hw
                dsimp only at hGst76 hLGst76 hOst76 hw
                have hL : LGq sl sl77 := hL.tr hLGst76
                have hO : OG ad [2, 4] so so78 := hO.tr hOst76 (by decide)
                have hP : va_P (dC, dI) vwCl (xw A C nb st76 sl77 so78) _ := hP
                have hG : XG [1, 2, 3, 4, 5, 6, 7, 12, 13, 14, 15] st st76 := hG.tr hGst76 (by decide)
                rcases hw with rfl | ⟨rfl, hf79⟩
                · have hsk : SKs ad st so 1 → SKs ad st76 so78 1 := fun hh => SKs.mg (hsk hh) (by omega) hGst76 hOst76 (by decide) (by decide) (by decide)
                  refine lv_istore (lv' := [(5, .int 1), (4, .int z25), (0, .ref (A (20 + 4 * 1))), (1, .ref (A 1)), (2, .ref (A (36 + 20 * 0))), (3, .ref (ad vj))]) hx hb dX7_readPlain_120 hl (by decide) rfl (fun ls hl => ?_)
                  refine lv_aload_n hx hb dX7_readPlain_122 rfl (lv_at hl 2 rfl) ?_
                  refine lv_aload_n hx hb dX7_readPlain_123 rfl (lv_at hl 5 rfl) ?_
                  refine lv_iload hx hb dX7_readPlain_124 (lv_at hl 1 rfl) ?_
                  refine lv_aload_n hx hb dX7_readPlain_126 rfl (lv_at hl 3 rfl) ?_
                  refine va_getN (host := "OffTheLead") (D := (dC, dI)) (ci := 9) (v := .int (st76 1 9)) (C := RX8) (T := TX8) (N := 15) hx hb hts ii_X7_readPlain_X8 hown hK hP 1 (xw_is (r := 1) (by omega) (xc_fix (r := 1) (by omega))) rfl 9 (by decide) (va_Nw.use rfl (nf_X7_97 hEv)) (fun _ hh => hh) rfl dX7_readPlain_127 ?_
                  obtain ⟨z80, ez80⟩ : ∃ y : Int32, st76 1 9 = y := ⟨_, rfl⟩
                  refine zz_top (v := z80) (by exact ez80) ?_
                  refine va_callv (va_runV (As := [.ref (ad vj), .int z25, .int z80]) (rest := []) ⟨hx, hb, hml, hown, hts⟩ (x_X7_add l dC dI ad E hEE A C nb _ hN st76 sl77 so78 vj z25 z80 (by omega) hG.1 hO.1) (cwV 3 hts gX7_readPlain_X7_add rfl rfl rfl (by decide +kernel) ⟨Nat.le_of_ble_eq_true rfl, Nat.le_of_ble_eq_true rfl⟩) ⟨fun a U g mk q => ⟨q.1, xPre.blind hEE q.2⟩, va_recv hK hP (ci := 8) (q0 := (20 + 4 * 1)) rfl (xw_is (r := (20 + 4 * 1)) (by omega) (xc_sn (q := 1) (o := 0) (by omega) (by omega))), fun U hU hW => ⟨rfl, xPre.of hEE hP hK hE hS hU hW⟩⟩ rfl rfl hl.1 rfl (lv_room (Nat.le_of_ble_eq_true rfl)) dX7_readPlain_130 ⟨Nat.le_of_ble_eq_true rfl, Nat.le_of_ble_eq_true rfl⟩) hS (fun q _ h => XA.le hS.1 q h) (XA.le hS.1) (fun x t H locs ht hvm hw hB _ _ hS => ?_)
                  have hP := xB.at ht hB
                  clear hB ht hvm
                  obtain ⟨st82, sl83, so84⟩ := x
                  obtain ⟨hGst82, hLGst82, hOst82, hw⟩ := hw
                  dsimp only at hGst82 hLGst82 hOst82 hw
                  have hL : LGq sl sl83 := hL.tr hLGst82
                  have hO : OG ad [2, 4] so so84 := hO.tr hOst82 (by decide)
                  have hP : va_P (dC, dI) vwCl (xw A C nb st82 sl83 so84) _ := hP
                  have hG : XG [1, 2, 3, 4, 5, 6, 7, 12, 13, 14, 15] st st82 := hG.tr hGst82 (by decide)
                  have hf85 := hw
                  have hsk : SKs ad st so 1 → SKs ad st82 so84 1 := fun hh => hf85 (hsk hh) (fun h9 => absurd h9 (by omega))
                  refine lv_iload hx hb dX7_readPlain_133 (lv_at hl 0 rfl) ?_
                  exact W.zret (v := 1) hx hb hr rfl (fun t ht hW => ⟨⟨1, (st82, sl83, so84), rfl, ⟨hG, hL, hO, Or.inl ⟨rfl, hsk⟩⟩, xB.of ht hP⟩, hS.F ht⟩) hS.2.2 dX7_readPlain_135
                · have hsk : SKs ad st so 1 → SKs ad st76 so78 1 := fun hh => SKs.mg (hsk hh) (by omega) hGst76 hOst76 (by decide) (by decide) (by decide)
                  refine lv_istore (lv' := [(5, .int 0), (4, .int z25), (0, .ref (A (20 + 4 * 1))), (1, .ref (A 1)), (2, .ref (A (36 + 20 * 0))), (3, .ref (ad vj))]) hx hb dX7_readPlain_120 hl (by decide) rfl (fun ls hl => ?_)
                  refine lv_aload_n hx hb dX7_readPlain_122 rfl (lv_at hl 2 rfl) ?_
                  refine lv_aload_n hx hb dX7_readPlain_123 rfl (lv_at hl 5 rfl) ?_
                  refine lv_iload hx hb dX7_readPlain_124 (lv_at hl 1 rfl) ?_
                  refine lv_aload_n hx hb dX7_readPlain_126 rfl (lv_at hl 3 rfl) ?_
                  refine va_getN (host := "OffTheLead") (D := (dC, dI)) (ci := 9) (v := .int (st76 1 9)) (C := RX8) (T := TX8) (N := 15) hx hb hts ii_X7_readPlain_X8 hown hK hP 1 (xw_is (r := 1) (by omega) (xc_fix (r := 1) (by omega))) rfl 9 (by decide) (va_Nw.use rfl (nf_X7_97 hEv)) (fun _ hh => hh) rfl dX7_readPlain_127 ?_
                  obtain ⟨z86, ez86⟩ : ∃ y : Int32, st76 1 9 = y := ⟨_, rfl⟩
                  refine zz_top (v := z86) (by exact ez86) ?_
                  refine va_callv (va_runV (As := [.ref (ad vj), .int z25, .int z86]) (rest := []) ⟨hx, hb, hml, hown, hts⟩ (x_X7_add l dC dI ad E hEE A C nb _ hN st76 sl77 so78 vj z25 z86 (by omega) hG.1 hO.1) (cwV 3 hts gX7_readPlain_X7_add rfl rfl rfl (by decide +kernel) ⟨Nat.le_of_ble_eq_true rfl, Nat.le_of_ble_eq_true rfl⟩) ⟨fun a U g mk q => ⟨q.1, xPre.blind hEE q.2⟩, va_recv hK hP (ci := 8) (q0 := (20 + 4 * 1)) rfl (xw_is (r := (20 + 4 * 1)) (by omega) (xc_sn (q := 1) (o := 0) (by omega) (by omega))), fun U hU hW => ⟨rfl, xPre.of hEE hP hK hE hS hU hW⟩⟩ rfl rfl hl.1 rfl (lv_room (Nat.le_of_ble_eq_true rfl)) dX7_readPlain_130 ⟨Nat.le_of_ble_eq_true rfl, Nat.le_of_ble_eq_true rfl⟩) hS (fun q _ h => XA.le hS.1 q h) (XA.le hS.1) (fun x t H locs ht hvm hw hB _ _ hS => ?_)
                  have hP := xB.at ht hB
                  clear hB ht hvm
                  obtain ⟨st88, sl89, so90⟩ := x
                  obtain ⟨hGst88, hLGst88, hOst88, hw⟩ := hw
                  dsimp only at hGst88 hLGst88 hOst88 hw
                  have hL : LGq sl sl89 := hL.tr hLGst88
                  have hO : OG ad [2, 4] so so90 := hO.tr hOst88 (by decide)
                  have hP : va_P (dC, dI) vwCl (xw A C nb st88 sl89 so90) _ := hP
                  have hG : XG [1, 2, 3, 4, 5, 6, 7, 12, 13, 14, 15] st st88 := hG.tr hGst88 (by decide)
                  have hf91 := hw
                  have hsk : SKs ad st so 1 → SKs ad st88 so90 1 := fun hh => hf91 (hsk hh) (fun h9 => absurd h9 (by omega))
                  refine lv_iload hx hb dX7_readPlain_133 (lv_at hl 0 rfl) ?_
                  exact W.zret (v := 0) hx hb hr rfl (fun t ht hW => ⟨⟨0, (st88, sl89, so90), rfl, ⟨hG, hL, hO, Or.inr (⟨rfl, by show ¬ st88 1 13 = 0; rw [hGst88.2 1 13 (by rw [(by decide : xcl 1 13 = 10)]; decide)]; exact hf79⟩)⟩, xB.of ht hP⟩, hS.F ht⟩) hS.2.2 dX7_readPlain_135
              · refine lv_if_ne (tgt := 108) hx hb dX7_readPlain_99 (by decide) (fun cc => absurd (by decide) cc) (fun _ => ?_)
                refine lv_aload_n hx hb dX7_readPlain_102 rfl (lv_at hl 2 rfl) ?_
                refine lv_iconst (v := 1) hx hb dX7_readPlain_103 (by decide) ?_
                refine va_calli (va_runV (As := [.int 1]) (rest := []) ⟨hx, hb, hml, hown, hts⟩ (x_X8_refuse l dC dI ad E hEE A C nb _ hN st sl so 1  hG.1) (cwV 1 hts gX7_readPlain_X8_refuse rfl rfl rfl (by decide +kernel) ⟨Nat.le_of_ble_eq_true rfl, Nat.le_of_ble_eq_true rfl⟩) ⟨fun a U g mk q => ⟨q.1, xPre.blind hEE q.2⟩, va_recv hK hP (ci := 9) (q0 := 1) rfl (xw_is (r := 1) (by omega) (xc_fix (r := 1) (by omega))), fun U hU hW => ⟨rfl, xPre.of hEE hP hK hE hS hU hW⟩⟩ rfl rfl hl.1 rfl (lv_room (Nat.le_of_ble_eq_true rfl)) dX7_readPlain_104 ⟨Nat.le_of_ble_eq_true rfl, Nat.le_of_ble_eq_true rfl⟩) hS (fun q _ h => XA.le hS.1 q h) (XA.le hS.1) (fun r92 x t H locs ht hvm hw hB _ _ hS => ?_)
                have hP := xB.at ht hB
                clear hB ht hvm
                obtain ⟨st93, sl94, so95⟩ := x
                obtain ⟨hGst93, hLGst93, hOst93, hw⟩ := hw
                dsimp only at hGst93 hLGst93 hOst93 hw
                have hL : LGq sl sl94 := hL.tr hLGst93
                replace hOst93 := hOst93.symm
                subst hOst93
                have hP : va_P (dC, dI) vwCl (xw A C nb st93 sl94 so) _ := hP
                have hG : XG [1, 2, 3, 4, 5, 6, 7, 12, 13, 14, 15] st st93 := hG.tr hGst93 (by decide)
                obtain ⟨rfl, hf96⟩ := hw
                have hsk : SKs ad st so 1 → SKs ad st93 so 1 := fun hh => SKs.mgs (hsk hh) (by omega) hGst93 (by decide) (by decide)
                exact W.zret (v := 0) hx hb hr rfl (fun t ht hW => ⟨⟨0, (st93, sl94, so), rfl, ⟨hG, hL, hO, Or.inr (⟨rfl, by show ¬ st93 1 13 = 0; rw [hf96]; decide⟩)⟩, xB.of ht hP⟩, hS.F ht⟩) hS.2.2 dX7_readPlain_107
        · have c5 : vj = 19 := (EV.eqw hEv (i := vj) (j := 19) (by omega) (by omega)).mp c5
          refine lv_aload_n hx hb dX7_readPlain_37 rfl (lv_at hl 1 rfl) ?_
          refine lv_aload_n hx hb dX7_readPlain_38 rfl (lv_at hl 2 rfl) ?_
          refine lv_aload_n hx hb dX7_readPlain_39 rfl (lv_at hl 3 rfl) ?_
          refine va_gets (v := .ref (ad 19)) hx hb (EV.word hEv (i := 19) (by decide)) hS hown (hts _ mm_X7_readPlain_4) (fun _ hh => hh) dX7_readPlain_40 ?_
          refine lv_acmp_ne (rx := (some (ad vj))) (ry := (some (ad 19))) (tgt := 50) hx hb dX7_readPlain_43 (by decide) (fun hh => absurd ((EV.eqw hEv (i := vj) (j := 19) (by omega) (by omega)).mpr (by omega)) hh) (fun _ => ?_)
          refine lv_iconst (v := 0) hx hb dX7_readPlain_46 (by decide) ?_
          refine lv_goto (tgt := 51) hx hb dX7_readPlain_47 (by decide) ?_
          refine va_calli (va_runV (As := [.ref (A (36 + 20 * 0)), .int 0]) (rest := []) ⟨hx, hb, hml, hown, hts⟩ (x_takeNamed0 l dC dI ad E hEE A C nb _ hN st sl so 0 (by omega) hG.1 hO.1) (cwV 2 hts gX7_readPlain_X8_takeNamed rfl rfl rfl (by decide +kernel) ⟨Nat.le_of_ble_eq_true rfl, Nat.le_of_ble_eq_true rfl⟩) ⟨fun a U g mk q => ⟨q.1, xPre.blind hEE q.2⟩, va_recv hK hP (ci := 9) (q0 := 1) rfl (xw_is (r := 1) (by omega) (xc_fix (r := 1) (by omega))), fun U hU hW => ⟨rfl, xPre.of hEE hP hK hE hS hU hW⟩⟩ rfl rfl hl.1 rfl (lv_room (Nat.le_of_ble_eq_true rfl)) dX7_readPlain_51 ⟨Nat.le_of_ble_eq_true rfl, Nat.le_of_ble_eq_true rfl⟩) hS (fun q _ h => XA.le hS.1 q h) (XA.le hS.1) (fun r97 x t H locs ht hvm hw hB _ _ hS => ?_)
          have hP := xB.at ht hB
          clear hB ht hvm
          obtain ⟨st98, sl99, so100⟩ := x
          obtain ⟨hGst98, hLGst98, hOst98, hw⟩ := hw
          dsimp only at hGst98 hLGst98 hOst98 hw
          have hL : LGq sl sl99 := hL.tr hLGst98
          have hO : OG ad [2, 4] so so100 := hO.tr hOst98 (by decide)
          have hP : va_P (dC, dI) vwCl (xw A C nb st98 sl99 so100) _ := hP
          have hG : XG [1, 2, 3, 4, 5, 6, 7, 12, 13, 14, 15] st st98 := hG.tr hGst98 (by decide)
          rcases hw with ⟨n101, rfl, hf102, hf103⟩ | ⟨rfl, hf104⟩
          · have hsk : SKs ad st so 1 → SKs ad st98 so100 1 := fun hh => SKs.mg (hsk hh) (by omega) hGst98 hOst98 (by decide) (by decide) (by decide)
            refine lv_istore (lv' := [(4, .int 1), (0, .ref (A (20 + 4 * 1))), (1, .ref (A 1)), (2, .ref (A (36 + 20 * 0))), (3, .ref (ad vj))]) hx hb dX7_readPlain_54 hl (by decide) rfl (fun ls hl => ?_)
            refine lv_aload_n hx hb dX7_readPlain_56 rfl (lv_at hl 1 rfl) ?_
            refine lv_aload_n hx hb dX7_readPlain_57 rfl (lv_at hl 4 rfl) ?_
            refine lv_iconst (v := 0) hx hb dX7_readPlain_58 (by decide) ?_
            refine lv_aload_n hx hb dX7_readPlain_59 rfl (lv_at hl 2 rfl) ?_
            refine va_getN (host := "OffTheLead") (D := (dC, dI)) (ci := 9) (v := .int (st98 1 9)) (C := RX8) (T := TX8) (N := 15) hx hb hts ii_X7_readPlain_X8 hown hK hP 1 (xw_is (r := 1) (by omega) (xc_fix (r := 1) (by omega))) rfl 9 (by decide) (va_Nw.use rfl (nf_X7_97 hEv)) (fun _ hh => hh) rfl dX7_readPlain_60 ?_
            refine zz_top (v := (nI n101)) (by show st98 1 9 = _; rw [hf102]) ?_
            refine va_callv (va_runV (As := [.ref (ad vj), .int 0, .int (nI n101)]) (rest := []) ⟨hx, hb, hml, hown, hts⟩ (x_X7_add l dC dI ad E hEE A C nb _ hN st98 sl99 so100 vj 0 (nI n101) (by omega) hG.1 hO.1) (cwV 3 hts gX7_readPlain_X7_add rfl rfl rfl (by decide +kernel) ⟨Nat.le_of_ble_eq_true rfl, Nat.le_of_ble_eq_true rfl⟩) ⟨fun a U g mk q => ⟨q.1, xPre.blind hEE q.2⟩, va_recv hK hP (ci := 8) (q0 := (20 + 4 * 1)) rfl (xw_is (r := (20 + 4 * 1)) (by omega) (xc_sn (q := 1) (o := 0) (by omega) (by omega))), fun U hU hW => ⟨rfl, xPre.of hEE hP hK hE hS hU hW⟩⟩ rfl rfl hl.1 rfl (lv_room (Nat.le_of_ble_eq_true rfl)) dX7_readPlain_63 ⟨Nat.le_of_ble_eq_true rfl, Nat.le_of_ble_eq_true rfl⟩) hS (fun q _ h => XA.le hS.1 q h) (XA.le hS.1) (fun x t H locs ht hvm hw hB _ _ hS => ?_)
            have hP := xB.at ht hB
            clear hB ht hvm
            obtain ⟨st106, sl107, so108⟩ := x
            obtain ⟨hGst106, hLGst106, hOst106, hw⟩ := hw
            dsimp only at hGst106 hLGst106 hOst106 hw
            have hL : LGq sl sl107 := hL.tr hLGst106
            have hO : OG ad [2, 4] so so108 := hO.tr hOst106 (by decide)
            have hP : va_P (dC, dI) vwCl (xw A C nb st106 sl107 so108) _ := hP
            have hG : XG [1, 2, 3, 4, 5, 6, 7, 12, 13, 14, 15] st st106 := hG.tr hGst106 (by decide)
            have hf109 := hw
            have hsk : SKs ad st so 1 → SKs ad st106 so108 1 := fun hh => hf109 (hsk hh) (fun h9 => absurd h9 (by omega))
            refine lv_iload hx hb dX7_readPlain_66 (lv_at hl 0 rfl) ?_
            exact W.zret (v := 1) hx hb hr rfl (fun t ht hW => ⟨⟨1, (st106, sl107, so108), rfl, ⟨hG, hL, hO, Or.inl ⟨rfl, hsk⟩⟩, xB.of ht hP⟩, hS.F ht⟩) hS.2.2 dX7_readPlain_68
          · have hsk : SKs ad st so 1 → SKs ad st98 so100 1 := fun hh => SKs.mg (hsk hh) (by omega) hGst98 hOst98 (by decide) (by decide) (by decide)
            refine lv_istore (lv' := [(4, .int 0), (0, .ref (A (20 + 4 * 1))), (1, .ref (A 1)), (2, .ref (A (36 + 20 * 0))), (3, .ref (ad vj))]) hx hb dX7_readPlain_54 hl (by decide) rfl (fun ls hl => ?_)
            refine lv_aload_n hx hb dX7_readPlain_56 rfl (lv_at hl 1 rfl) ?_
            refine lv_aload_n hx hb dX7_readPlain_57 rfl (lv_at hl 4 rfl) ?_
            refine lv_iconst (v := 0) hx hb dX7_readPlain_58 (by decide) ?_
            refine lv_aload_n hx hb dX7_readPlain_59 rfl (lv_at hl 2 rfl) ?_
            refine va_getN (host := "OffTheLead") (D := (dC, dI)) (ci := 9) (v := .int (st98 1 9)) (C := RX8) (T := TX8) (N := 15) hx hb hts ii_X7_readPlain_X8 hown hK hP 1 (xw_is (r := 1) (by omega) (xc_fix (r := 1) (by omega))) rfl 9 (by decide) (va_Nw.use rfl (nf_X7_97 hEv)) (fun _ hh => hh) rfl dX7_readPlain_60 ?_
            obtain ⟨z110, ez110⟩ : ∃ y : Int32, st98 1 9 = y := ⟨_, rfl⟩
            refine zz_top (v := z110) (by exact ez110) ?_
            refine va_callv (va_runV (As := [.ref (ad vj), .int 0, .int z110]) (rest := []) ⟨hx, hb, hml, hown, hts⟩ (x_X7_add l dC dI ad E hEE A C nb _ hN st98 sl99 so100 vj 0 z110 (by omega) hG.1 hO.1) (cwV 3 hts gX7_readPlain_X7_add rfl rfl rfl (by decide +kernel) ⟨Nat.le_of_ble_eq_true rfl, Nat.le_of_ble_eq_true rfl⟩) ⟨fun a U g mk q => ⟨q.1, xPre.blind hEE q.2⟩, va_recv hK hP (ci := 8) (q0 := (20 + 4 * 1)) rfl (xw_is (r := (20 + 4 * 1)) (by omega) (xc_sn (q := 1) (o := 0) (by omega) (by omega))), fun U hU hW => ⟨rfl, xPre.of hEE hP hK hE hS hU hW⟩⟩ rfl rfl hl.1 rfl (lv_room (Nat.le_of_ble_eq_true rfl)) dX7_readPlain_63 ⟨Nat.le_of_ble_eq_true rfl, Nat.le_of_ble_eq_true rfl⟩) hS (fun q _ h => XA.le hS.1 q h) (XA.le hS.1) (fun x t H locs ht hvm hw hB _ _ hS => ?_)
            have hP := xB.at ht hB
            clear hB ht hvm
            obtain ⟨st112, sl113, so114⟩ := x
            obtain ⟨hGst112, hLGst112, hOst112, hw⟩ := hw
            dsimp only at hGst112 hLGst112 hOst112 hw
            have hL : LGq sl sl113 := hL.tr hLGst112
            have hO : OG ad [2, 4] so so114 := hO.tr hOst112 (by decide)
            have hP : va_P (dC, dI) vwCl (xw A C nb st112 sl113 so114) _ := hP
            have hG : XG [1, 2, 3, 4, 5, 6, 7, 12, 13, 14, 15] st st112 := hG.tr hGst112 (by decide)
            have hf115 := hw
            have hsk : SKs ad st so 1 → SKs ad st112 so114 1 := fun hh => hf115 (hsk hh) (fun h9 => absurd h9 (by omega))
            refine lv_iload hx hb dX7_readPlain_66 (lv_at hl 0 rfl) ?_
            exact W.zret (v := 0) hx hb hr rfl (fun t ht hW => ⟨⟨0, (st112, sl113, so114), rfl, ⟨hG, hL, hO, Or.inr (⟨rfl, by show ¬ st112 1 13 = 0; rw [hGst112.2 1 13 (by rw [(by decide : xcl 1 13 = 10)]; decide)]; exact hf104⟩)⟩, xB.of ht hP⟩, hS.F ht⟩) hS.2.2 dX7_readPlain_68
    · have c2 : vj = 17 := (EV.eqw hEv (i := vj) (j := 17) (by omega) (by omega)).mp c2
      refine lv_aload_n hx hb dX7_readPlain_14 rfl (lv_at hl 0 rfl) ?_
      refine lv_aload_n hx hb dX7_readPlain_15 rfl (lv_at hl 3 rfl) ?_
      refine lv_iconst (v := 0) hx hb dX7_readPlain_16 (by decide) ?_
      refine lv_iconst (v := 0) hx hb dX7_readPlain_17 (by decide) ?_
      refine va_callv (va_runV (As := [.ref (ad vj), .int 0, .int 0]) (rest := []) ⟨hx, hb, hml, hown, hts⟩ (x_X7_add l dC dI ad E hEE A C nb _ hN st sl so vj 0 0 (by omega) hG.1 hO.1) (cwV 3 hts gX7_readPlain_X7_add rfl rfl rfl (by decide +kernel) ⟨Nat.le_of_ble_eq_true rfl, Nat.le_of_ble_eq_true rfl⟩) ⟨fun a U g mk q => ⟨q.1, xPre.blind hEE q.2⟩, va_recv hK hP (ci := 8) (q0 := (20 + 4 * 1)) rfl (xw_is (r := (20 + 4 * 1)) (by omega) (xc_sn (q := 1) (o := 0) (by omega) (by omega))), fun U hU hW => ⟨rfl, xPre.of hEE hP hK hE hS hU hW⟩⟩ rfl rfl hl.1 rfl (lv_room (Nat.le_of_ble_eq_true rfl)) dX7_readPlain_18 ⟨Nat.le_of_ble_eq_true rfl, Nat.le_of_ble_eq_true rfl⟩) hS (fun q _ h => XA.le hS.1 q h) (XA.le hS.1) (fun x t H locs ht hvm hw hB _ _ hS => ?_)
      have hP := xB.at ht hB
      clear hB ht hvm
      obtain ⟨st117, sl118, so119⟩ := x
      obtain ⟨hGst117, hLGst117, hOst117, hw⟩ := hw
      dsimp only at hGst117 hLGst117 hOst117 hw
      have hL : LGq sl sl118 := hL.tr hLGst117
      have hO : OG ad [2, 4] so so119 := hO.tr hOst117 (by decide)
      have hP : va_P (dC, dI) vwCl (xw A C nb st117 sl118 so119) _ := hP
      have hG : XG [1, 2, 3, 4, 5, 6, 7, 12, 13, 14, 15] st st117 := hG.tr hGst117 (by decide)
      have hf120 := hw
      have hsk : SKs ad st so 1 → SKs ad st117 so119 1 := fun hh => hf120 (hsk hh) (fun h9 => absurd h9 (by omega))
      refine lv_iconst (v := 1) hx hb dX7_readPlain_21 (by decide) ?_
      exact W.zret (v := 1) hx hb hr rfl (fun t ht hW => ⟨⟨1, (st117, sl118, so119), rfl, ⟨hG, hL, hO, Or.inl ⟨rfl, hsk⟩⟩, xB.of ht hP⟩, hS.F ht⟩) hS.2.2 dX7_readPlain_22
set_option maxHeartbeats 4000000 in
set_option maxRecDepth 100000 in
theorem x_copyS01 (l : Launch) (dC : Nat → ClassId) (dI : Nat → Nat → Nat) (ad : Nat → Nat) (E : EP) (hEE : EC ad E) (A : Nat → Nat) (C : Nat → ClassId) (nb sz : Nat) (hN : XN A) (st : Nat → Nat → Int32) (sl : Nat → Nat → Int64) (so : Nat → XR) (hI : XI st) (hOI : OI ad so) : Met l yX7_copyFrom wsX7_copyFrom ({ frames := 0, cells := 0, slots := 0, locals := 0 }) (va_Pc [.ref (A (20 + 4 * 0)), .ref (A (20 + 4 * 1))] (xPre E dC dI A C nb sz st sl so)) (va_Qv (fun (x : XT) => XG [1, 2, 3, 6, 7, 8, 9, 10, 11, 12, 13, 14, 15] st x.1 ∧ LGq sl x.2.1 ∧ OG ad [1, 2, 3] so x.2.2 ∧ ((SKs ad st so 1 → SKs ad x.1 x.2.2 0) ∧ (∀ q, q < 4 → ¬ q = 0 → SKs ad st so q → SKs ad x.1 x.2.2 q))) (xB dC dI A C nb) (XA A sz)) 0 0 (XA A sz) := by
  refine Met.ofW (cc := cX7_copyFrom) (maxL := 3) (ret := none) (by decide) rfl ?_
  intro p e s m args below meth c s₁ B hml hv
  obtain ⟨rfl, hsz, hP, hK, hE⟩ := hv
  have hx := B.exec
  have hb := B.bytes
  have hr := B.returns
  have hts := atoms_spec (ws := wsX7_copyFrom) B.pre
  have hown : s.vm.findClass RX7 = some m.cls := findClass_of_methodNamed B.named
  subst hsz
  have hEv := hEE.1 _ _ _ hE
  have hS : va_S (XA A s.heap.size) s.heap s.heap [] := va_S.rf
  have hG : XG [1, 2, 3, 6, 7, 8, 9, 10, 11, 12, 13, 14, 15] st st := XG.rf hI
  have hO : OG ad [1, 2, 3] so so := OG.rf hOI
  have hl := lv_entry ([.ref (A (20 + 4 * 0)), .ref (A (20 + 4 * 1))]) (n := 3) (Nat.le_of_ble_eq_true rfl)
  rw [lg_entry_eq]
  generalize (lg_sl ([.ref (A (20 + 4 * 0)), .ref (A (20 + 4 * 1))]) ++ List.replicate (3 - (lg_sl ([.ref (A (20 + 4 * 0)), .ref (A (20 + 4 * 1))])).length) Slot.unset).toArray = ls at hl ⊢
  have hl : lv_has ls 3 [(0, .ref (A (20 + 4 * 0))), (1, .ref (A (20 + 4 * 1)))] := hl
  have hL : LGq sl sl := LGq.rf
  refine lv_aload_n hx hb dX7_copyFrom_0 rfl (lv_at hl 0 rfl) ?_
  refine lv_aload_n hx hb dX7_copyFrom_1 rfl (lv_at hl 1 rfl) ?_
  refine va_get (D := (dC, dI)) (ci := 8) (v := .int (st (20 + 4 * 1) 3)) (C := RX7) (T := TX7) (N := 5) hx hb hts ii_X7_copyFrom_X7 hown hK hP (20 + 4 * 1) (xw_is (r := (20 + 4 * 1)) (by omega) (xc_sn (q := 1) (o := 0) (by omega) (by omega))) rfl 3 (by decide) (hts _ mm_X7_copyFrom_1) (fun _ hh => hh) rfl dX7_copyFrom_2 ?_
  obtain ⟨n1, hn1, en1⟩ := hG.1.at (r := (20 + 4 * 1)) (k := 3) (b := 41) ((xrg_sn (q := 1) (o := 0) (by omega) (by omega)).trans (by first | rfl | decide)) (by decide)
  refine zz_top (v := nI n1) (by exact en1) ?_
  refine va_put (D := (dC, dI)) (ci := 8) (v := .int (nI n1)) (ty := .int) (C := RX7) (T := TX7) (N := 5) hx hb hts ii_X7_copyFrom_X7 tyX7 tyX7_ok nmX7 hown hK hP (xD hN _ _ _ _ _ _) hS (20 + 4 * 0) (xw_is (r := (20 + 4 * 0)) (by omega) (xc_sn (q := 0) (o := 0) (by omega) (by omega))) rfl 3 (by decide) (hts _ mm_X7_copyFrom_1) (fun _ hh => hh) rfl (by decide +kernel) rfl rfl (Nat.le_of_ble_eq_true rfl) dX7_copyFrom_5 (fun H locs hP _ hS => ?_)
  have hP : va_P (dC, dI) vwCl (xw A C nb (up2 st (20 + 4 * 0) 3 (nI n1)) sl so) H := by rw [← xset (r := (20 + 4 * 0)) (k := 3) (v := (nI n1)) (xc_sn (q := 0) (o := 0) (by omega) (by omega))]; exact hP
  obtain ⟨st2, est2⟩ : ∃ y, y = up2 st (20 + 4 * 0) 3 (nI n1) := ⟨_, rfl⟩
  have hG : XG [1, 2, 3, 6, 7, 8, 9, 10, 11, 12, 13, 14, 15] st st2 := by rw [est2]; exact hG.up (xn (n := n1) (b := 41) ((xrg_sn (q := 0) (o := 0) (by omega) (by omega)).trans (by first | rfl | decide)) (by omega)) (xpn (c := 5) ((xcl_sn (q := 0) (o := 0) (k := 3) (by omega) (by omega)).trans (by first | rfl | decide)) (by decide))
  rw [← est2] at hP
  refine lv_aload_n hx hb dX7_copyFrom_8 rfl (lv_at hl 0 rfl) ?_
  refine lv_aload_n hx hb dX7_copyFrom_9 rfl (lv_at hl 1 rfl) ?_
  refine va_get (D := (dC, dI)) (ci := 8) (v := .int (st2 (20 + 4 * 1) 4)) (C := RX7) (T := TX7) (N := 5) hx hb hts ii_X7_copyFrom_X7 hown hK hP (20 + 4 * 1) (xw_is (r := (20 + 4 * 1)) (by omega) (xc_sn (q := 1) (o := 0) (by omega) (by omega))) rfl 4 (by decide) (hts _ mm_X7_copyFrom_2) (fun _ hh => hh) rfl dX7_copyFrom_10 ?_
  obtain ⟨z3, ez3⟩ : ∃ y : Int32, st2 (20 + 4 * 1) 4 = y := ⟨_, rfl⟩
  refine zz_top (v := z3) (by exact ez3) ?_
  refine va_put (D := (dC, dI)) (ci := 8) (v := .int z3) (ty := .int) (C := RX7) (T := TX7) (N := 5) hx hb hts ii_X7_copyFrom_X7 tyX7 tyX7_ok nmX7 hown hK hP (xD hN _ _ _ _ _ _) hS (20 + 4 * 0) (xw_is (r := (20 + 4 * 0)) (by omega) (xc_sn (q := 0) (o := 0) (by omega) (by omega))) rfl 4 (by decide) (hts _ mm_X7_copyFrom_2) (fun _ hh => hh) rfl (by decide +kernel) rfl rfl (Nat.le_of_ble_eq_true rfl) dX7_copyFrom_13 (fun H locs hP _ hS => ?_)
  have hP : va_P (dC, dI) vwCl (xw A C nb (up2 st2 (20 + 4 * 0) 4 z3) sl so) H := by rw [← xset (r := (20 + 4 * 0)) (k := 4) (v := z3) (xc_sn (q := 0) (o := 0) (by omega) (by omega))]; exact hP
  obtain ⟨st4, est4⟩ : ∃ y, y = up2 st2 (20 + 4 * 0) 4 z3 := ⟨_, rfl⟩
  have hG : XG [1, 2, 3, 6, 7, 8, 9, 10, 11, 12, 13, 14, 15] st st4 := by rw [est4]; exact hG.up (xz (r := (20 + 4 * 0)) (k := 4) ((xrg_sn (q := 0) (o := 0) (by omega) (by omega)).trans (by first | rfl | decide))) (xpn (c := 0) ((xcl_sn (q := 0) (o := 0) (k := 4) (by omega) (by omega)).trans (by first | rfl | decide)) (by decide))
  rw [← est4] at hP
  refine lv_iconst (v := 0) hx hb dX7_copyFrom_16 (by decide) ?_
  refine lv_istore_n (lv' := [(2, .int 0), (0, .ref (A (20 + 4 * 0))), (1, .ref (A (20 + 4 * 1)))]) hx hb dX7_copyFrom_17 rfl hl (by decide) rfl (fun ls hl => ?_)
  refine zz_wf (fun n stk H locs ls => ∃ k5 : Nat, ∃ st6 : Nat → Nat → Int32, ∃ sl7 : Nat → Nat → Int64, ∃ so8 : Nat → XR, n = 41 - k5 ∧ 0 ≤ k5 ∧ k5 < 41 ∧ st6 (20 + 4 * 0) 3 = nI n1 ∧ (∀ jj, jj < k5 → st6 (20 + 4 * 0 + 3) jj = st (20 + 4 * 1 + 3) jj) ∧ (∀ jj, jj < k5 → so8 (20 + 4 * 0 + 1) jj = so (20 + 4 * 1 + 1) jj) ∧ (∀ r, ¬ (20 + 4 * 0 ≤ r ∧ r < 20 + 4 * 0 + 4) → st6 r = st r) ∧ (∀ r, ¬ (20 + 4 * 0 ≤ r ∧ r < 20 + 4 * 0 + 4) → so8 r = so r) ∧ va_P (dC, dI) vwCl (xw A C nb st6 sl7 so8) H ∧ XG [1, 2, 3, 6, 7, 8, 9, 10, 11, 12, 13, 14, 15] st st6 ∧ OG ad [1, 2, 3] so so8 ∧ LGq sl sl7 ∧ va_S (XA A s.heap.size) s.heap H locs ∧ lv_has ls 3 [(2, .int (nI k5)), (0, .ref (A (20 + 4 * 0))), (1, .ref (A (20 + 4 * 1)))] ∧ stk = []) ?_ (41 - 0) _ _ _ _ ⟨0, st4, sl, so, rfl, by omega, by omega, by show st4 (20 + 4 * 0) 3 = _; rw [est4, up2_ne (r := (20 + 4 * 0)) (k := 4) (a := (20 + 4 * 0)) (j := 3) _ _ (by omega), est2, up2_same], fun jj hk => absurd hk (by omega), fun jj hk => absurd hk (by omega), fun r9 h9 => by rw [est4, up2_o r9 (by omega), est2, up2_o r9 (by omega)], fun r9 h9 => rfl, hP, hG, hO, hL, hS, lv_sub hl [0, 1, 2] rfl, rfl⟩
  rintro nn stk H locs ls ⟨k5, st6, sl7, so8, hm15, hv9_0, hv10_1, hv11_0, hv12_1, hv13_2, hv14_3, hv15_4, hP, hG, hO, hL, hS, hl, rfl⟩ ih16
  refine lv_iload_n hx hb dX7_copyFrom_18 rfl (lv_at hl 0 rfl) ?_
  refine lv_aload_n hx hb dX7_copyFrom_19 rfl (lv_at hl 1 rfl) ?_
  refine va_get (D := (dC, dI)) (ci := 8) (v := .int (st6 (20 + 4 * 0) 3)) (C := RX7) (T := TX7) (N := 5) hx hb hts ii_X7_copyFrom_X7 hown hK hP (20 + 4 * 0) (xw_is (r := (20 + 4 * 0)) (by omega) (xc_sn (q := 0) (o := 0) (by omega) (by omega))) rfl 3 (by decide) (hts _ mm_X7_copyFrom_1) (fun _ hh => hh) rfl dX7_copyFrom_20 ?_
  refine zz_top (v := (nI n1)) (by show st6 (20 + 4 * 0) 3 = _; rw [hv11_0]) ?_
  refine lv_icmp_ge (tgt := 68) hx hb dX7_copyFrom_23 (by decide) (fun c1 => ?_) (fun c1 => ?_)
  · have c1 : n1 ≤ k5 := (nI_leI (a := n1) (b := k5) (by omega) (by omega)).mp c1
    exact W.vret hx hb hr (fun t ht hW => ⟨⟨(st6, sl7, so8), rfl, ⟨hG, hL, hO, ⟨fun hh => SKs.copy (q := 1) (p := 0) (n := n1) hv11_0 en1 (fun jj hk => hv12_1 jj (by omega)) (fun jj hk => hv13_2 jj (by omega)) (by omega) hh, fun q9 h8 h9 hh => SKs.rows (p := 0) hv14_3 hv15_4 h9 hh⟩⟩, xB.of ht hP⟩, hS.F ht⟩) hS.2.2 dX7_copyFrom_68
  · have c1 : ¬ n1 ≤ k5 := fun hh => c1 ((nI_leI (a := n1) (b := k5) (by omega) (by omega)).mpr hh)
    refine lv_aload_n hx hb dX7_copyFrom_26 rfl (lv_at hl 1 rfl) ?_
    refine va_get (D := (dC, dI)) (ci := 8) (v := .ref (A (20 + 4 * 0 + 1))) (C := RX7) (T := TX7) (N := 5) hx hb hts ii_X7_copyFrom_X7 hown hK hP (20 + 4 * 0) (xw_is (r := (20 + 4 * 0)) (by omega) (xc_sn (q := 0) (o := 0) (by omega) (by omega))) rfl 0 (by decide) (hts _ mm_X7_copyFrom_3) (fun _ hh => hh) rfl dX7_copyFrom_27 ?_
    refine lv_iload_n hx hb dX7_copyFrom_30 rfl (lv_at hl 0 rfl) ?_
    refine lv_aload_n hx hb dX7_copyFrom_31 rfl (lv_at hl 2 rfl) ?_
    refine va_get (D := (dC, dI)) (ci := 8) (v := .ref (A (20 + 4 * 1 + 1))) (C := RX7) (T := TX7) (N := 5) hx hb hts ii_X7_copyFrom_X7 hown hK hP (20 + 4 * 1) (xw_is (r := (20 + 4 * 1)) (by omega) (xc_sn (q := 1) (o := 0) (by omega) (by omega))) rfl 0 (by decide) (hts _ mm_X7_copyFrom_3) (fun _ hh => hh) rfl dX7_copyFrom_32 ?_
    refine lv_iload_n hx hb dX7_copyFrom_35 rfl (lv_at hl 0 rfl) ?_
    refine va_aldq hx hb hK hP (20 + 4 * 1 + 1) (20 + 4 * 1 + 1) (xw_is (r := (20 + 4 * 1 + 1)) (by omega) (xc_sn (q := 1) (o := 1) (by omega) (by omega))) (xt_is (r := (20 + 4 * 1 + 1)) (by omega) ((xty_sn (q := 1) (o := 1) (by omega) (by omega)).trans rfl)) (i := (nI k5)) (vp_in_nI (by omega) (by decide)) dX7_copyFrom_36 ?_
    refine zz_topq (r := so8 (20 + 4 * 1 + 1) k5) (by rw [nI_clamp (by omega)]) ?_
    rcases hO.1.1 (20 + 4 * 1 + 1) k5 with ej17 | ⟨j17, hj17, ej17⟩
    · refine zz_topq (r := none) (by exact ej17) ?_
      refine zz_astw (x := none) hx hb hEv hK hP (xD hN _ _ _ _ _ _) hS (20 + 4 * 0 + 1) (20 + 4 * 0 + 1) (xw_is (r := (20 + 4 * 0 + 1)) (by omega) (xc_sn (q := 0) (o := 1) (by omega) (by omega))) (xt_is (r := (20 + 4 * 0 + 1)) (by omega) ((xty_sn (q := 0) (o := 1) (by omega) (by omega)).trans rfl)) (Or.inl rfl) (i := (nI k5)) (vp_in_nI (by omega) (by decide)) dX7_copyFrom_37 (fun H locs hP _ hS => ?_)
      rw [nI_clamp (by omega)] at hP
      have hP : va_P (dC, dI) vwCl (xw A C nb st6 sl7 (upO so8 (20 + 4 * 0 + 1) k5 none)) H := by rw [← xsetO (r := (20 + 4 * 0 + 1)) (k := k5) (v := none) (xc_sn (q := 0) (o := 1) (by omega) (by omega))]; exact hP
      obtain ⟨so18, eso18⟩ : ∃ y, y = upO so8 (20 + 4 * 0 + 1) k5 none := ⟨_, rfl⟩
      have hO : OG ad [1, 2, 3] so so18 := by rw [eso18]; exact hO.up (Or.inl rfl) (fun hh => absurd hh (by omega)) (by decide)
      rw [← eso18] at hP
      refine lv_aload_n hx hb dX7_copyFrom_38 rfl (lv_at hl 1 rfl) ?_
      refine va_get (D := (dC, dI)) (ci := 8) (v := .ref (A (20 + 4 * 0 + 2))) (C := RX7) (T := TX7) (N := 5) hx hb hts ii_X7_copyFrom_X7 hown hK hP (20 + 4 * 0) (xw_is (r := (20 + 4 * 0)) (by omega) (xc_sn (q := 0) (o := 0) (by omega) (by omega))) rfl 1 (by decide) (hts _ mm_X7_copyFrom_4) (fun _ hh => hh) rfl dX7_copyFrom_39 ?_
      refine lv_iload_n hx hb dX7_copyFrom_42 rfl (lv_at hl 0 rfl) ?_
      refine lv_aload_n hx hb dX7_copyFrom_43 rfl (lv_at hl 2 rfl) ?_
      refine va_get (D := (dC, dI)) (ci := 8) (v := .ref (A (20 + 4 * 1 + 2))) (C := RX7) (T := TX7) (N := 5) hx hb hts ii_X7_copyFrom_X7 hown hK hP (20 + 4 * 1) (xw_is (r := (20 + 4 * 1)) (by omega) (xc_sn (q := 1) (o := 0) (by omega) (by omega))) rfl 1 (by decide) (hts _ mm_X7_copyFrom_4) (fun _ hh => hh) rfl dX7_copyFrom_44 ?_
      refine lv_iload_n hx hb dX7_copyFrom_47 rfl (lv_at hl 0 rfl) ?_
      refine va_iald hx hb hK hP (20 + 4 * 1 + 2) (20 + 4 * 1 + 2) (xw_is (r := (20 + 4 * 1 + 2)) (by omega) (xc_sn (q := 1) (o := 2) (by omega) (by omega))) (xt_is (r := (20 + 4 * 1 + 2)) (by omega) ((xty_sn (q := 1) (o := 2) (by omega) (by omega)).trans rfl)) (i := (nI k5)) (vp_in_nI (by omega) (by decide)) dX7_copyFrom_48 ?_
      obtain ⟨z19, ez19⟩ : ∃ y : Int32, st6 (20 + 4 * 1 + 2) k5 = y := ⟨_, rfl⟩
      refine zz_top (v := z19) (by rw [nI_clamp (by omega)]; exact ez19) ?_
      refine va_iast hx hb hK hP (xD hN _ _ _ _ _ _) hS (20 + 4 * 0 + 2) (20 + 4 * 0 + 2) (xw_is (r := (20 + 4 * 0 + 2)) (by omega) (xc_sn (q := 0) (o := 2) (by omega) (by omega))) (xt_is (r := (20 + 4 * 0 + 2)) (by omega) ((xty_sn (q := 0) (o := 2) (by omega) (by omega)).trans rfl)) (i := (nI k5)) (vp_in_nI (by omega) (by decide)) dX7_copyFrom_49 (fun H locs hP _ hS => ?_)
      rw [nI_clamp (by omega)] at hP
      have hP : va_P (dC, dI) vwCl (xw A C nb (up2 st6 (20 + 4 * 0 + 2) k5 z19) sl7 so18) H := by rw [← xset (r := (20 + 4 * 0 + 2)) (k := k5) (v := z19) (xc_sn (q := 0) (o := 2) (by omega) (by omega))]; exact hP
      obtain ⟨st20, est20⟩ : ∃ y, y = up2 st6 (20 + 4 * 0 + 2) k5 z19 := ⟨_, rfl⟩
      have hG : XG [1, 2, 3, 6, 7, 8, 9, 10, 11, 12, 13, 14, 15] st st20 := by rw [est20]; exact hG.up (xz (r := (20 + 4 * 0 + 2)) (k := k5) ((xrg_sn (q := 0) (o := 2) (by omega) (by omega)).trans (by first | rfl | decide))) (xpn (c := 0) ((xcl_sn (q := 0) (o := 2) (k := k5) (by omega) (by omega)).trans (by first | rfl | decide)) (by decide))
      rw [← est20] at hP
      refine lv_aload_n hx hb dX7_copyFrom_50 rfl (lv_at hl 1 rfl) ?_
      refine va_get (D := (dC, dI)) (ci := 8) (v := .ref (A (20 + 4 * 0 + 3))) (C := RX7) (T := TX7) (N := 5) hx hb hts ii_X7_copyFrom_X7 hown hK hP (20 + 4 * 0) (xw_is (r := (20 + 4 * 0)) (by omega) (xc_sn (q := 0) (o := 0) (by omega) (by omega))) rfl 2 (by decide) (hts _ mm_X7_copyFrom_5) (fun _ hh => hh) rfl dX7_copyFrom_51 ?_
      refine lv_iload_n hx hb dX7_copyFrom_54 rfl (lv_at hl 0 rfl) ?_
      refine lv_aload_n hx hb dX7_copyFrom_55 rfl (lv_at hl 2 rfl) ?_
      refine va_get (D := (dC, dI)) (ci := 8) (v := .ref (A (20 + 4 * 1 + 3))) (C := RX7) (T := TX7) (N := 5) hx hb hts ii_X7_copyFrom_X7 hown hK hP (20 + 4 * 1) (xw_is (r := (20 + 4 * 1)) (by omega) (xc_sn (q := 1) (o := 0) (by omega) (by omega))) rfl 2 (by decide) (hts _ mm_X7_copyFrom_5) (fun _ hh => hh) rfl dX7_copyFrom_56 ?_
      refine lv_iload_n hx hb dX7_copyFrom_59 rfl (lv_at hl 0 rfl) ?_
      refine va_iald hx hb hK hP (20 + 4 * 1 + 3) (20 + 4 * 1 + 3) (xw_is (r := (20 + 4 * 1 + 3)) (by omega) (xc_sn (q := 1) (o := 3) (by omega) (by omega))) (xt_is (r := (20 + 4 * 1 + 3)) (by omega) ((xty_sn (q := 1) (o := 3) (by omega) (by omega)).trans rfl)) (i := (nI k5)) (vp_in_nI (by omega) (by decide)) dX7_copyFrom_60 ?_
      obtain ⟨z21, ez21⟩ : ∃ y : Int32, st20 (20 + 4 * 1 + 3) k5 = y := ⟨_, rfl⟩
      refine zz_top (v := z21) (by rw [nI_clamp (by omega)]; exact ez21) ?_
      refine va_iast hx hb hK hP (xD hN _ _ _ _ _ _) hS (20 + 4 * 0 + 3) (20 + 4 * 0 + 3) (xw_is (r := (20 + 4 * 0 + 3)) (by omega) (xc_sn (q := 0) (o := 3) (by omega) (by omega))) (xt_is (r := (20 + 4 * 0 + 3)) (by omega) ((xty_sn (q := 0) (o := 3) (by omega) (by omega)).trans rfl)) (i := (nI k5)) (vp_in_nI (by omega) (by decide)) dX7_copyFrom_61 (fun H locs hP _ hS => ?_)
      rw [nI_clamp (by omega)] at hP
      have hP : va_P (dC, dI) vwCl (xw A C nb (up2 st20 (20 + 4 * 0 + 3) k5 z21) sl7 so18) H := by rw [← xset (r := (20 + 4 * 0 + 3)) (k := k5) (v := z21) (xc_sn (q := 0) (o := 3) (by omega) (by omega))]; exact hP
      obtain ⟨st22, est22⟩ : ∃ y, y = up2 st20 (20 + 4 * 0 + 3) k5 z21 := ⟨_, rfl⟩
      have hG : XG [1, 2, 3, 6, 7, 8, 9, 10, 11, 12, 13, 14, 15] st st22 := by rw [est22]; exact hG.up (xz (r := (20 + 4 * 0 + 3)) (k := k5) ((xrg_sn (q := 0) (o := 3) (by omega) (by omega)).trans (by first | rfl | decide))) (xpn (c := 4) ((xcl_sn (q := 0) (o := 3) (k := k5) (by omega) (by omega)).trans (by first | rfl | decide)) (by decide))
      rw [← est22] at hP
      refine lv_iinc (v := (nI (k5 + 1))) (lv' := [(2, .int (nI (k5 + 1))), (0, .ref (A (20 + 4 * 0))), (1, .ref (A (20 + 4 * 1)))]) hx hb dX7_copyFrom_62 hl (k := 0) rfl (nI_add k5 1) (by decide) rfl (fun ls hl => ?_)
      refine lv_goto (tgt := 18) hx hb dX7_copyFrom_65 (by decide) ?_
      exact ih16 (41 - (k5 + 1)) _ _ _ _ (by omega) ⟨(k5 + 1), st22, sl7, so18, rfl, by omega, by omega, by show st22 (20 + 4 * 0) 3 = _; rw [est22, up2_ne (r := (20 + 4 * 0 + 3)) (k := k5) (a := (20 + 4 * 0)) (j := 3) _ _ (by omega), est20, up2_ne (r := (20 + 4 * 0 + 2)) (k := k5) (a := (20 + 4 * 0)) (j := 3) _ _ (by omega), hv11_0], fun jj hk => by show st22 (20 + 4 * 0 + 3) jj = st (20 + 4 * 1 + 3) jj; by_cases ee : jj = k5; (rw [ee, est22, up2_same]; exact (show z21 = st (20 + 4 * 1 + 3) k5 by rw [← ez21, est20, up2_o _ (by omega), hv14_3 _ (by omega)])); (rw [est22, up2_ne (r := (20 + 4 * 0 + 3)) (k := k5) (a := (20 + 4 * 0 + 3)) (j := jj) _ _ (by omega), est20, up2_ne (r := (20 + 4 * 0 + 2)) (k := k5) (a := (20 + 4 * 0 + 3)) (j := jj) _ _ (by omega)]; exact hv12_1 jj (by omega)), fun jj hk => by show so18 (20 + 4 * 0 + 1) jj = so (20 + 4 * 1 + 1) jj; by_cases ee : jj = k5; (rw [ee, eso18, upO_same]; exact (show none = so (20 + 4 * 1 + 1) k5 by rw [← ej17, hv15_4 _ (by omega)])); (rw [eso18, upO_ne (r := (20 + 4 * 0 + 1)) (k := k5) (a := (20 + 4 * 0 + 1)) (j := jj) _ _ (by omega)]; exact hv13_2 jj (by omega)), fun r9 h9 => by rw [est22, up2_o r9 (by omega), est20, up2_o r9 (by omega)]; exact hv14_3 r9 h9, fun r9 h9 => by rw [eso18, upO_o r9 (by omega)]; exact hv15_4 r9 h9, hP, hG, hO, hL, hS, lv_sub hl [0, 1, 2] rfl, rfl⟩
    · refine zz_topq (r := (some (ad j17))) (by exact ej17) ?_
      refine zz_astw (x := (some (ad j17))) hx hb hEv hK hP (xD hN _ _ _ _ _ _) hS (20 + 4 * 0 + 1) (20 + 4 * 0 + 1) (xw_is (r := (20 + 4 * 0 + 1)) (by omega) (xc_sn (q := 0) (o := 1) (by omega) (by omega))) (xt_is (r := (20 + 4 * 0 + 1)) (by omega) ((xty_sn (q := 0) (o := 1) (by omega) (by omega)).trans rfl)) (isW.of (by omega)) (i := (nI k5)) (vp_in_nI (by omega) (by decide)) dX7_copyFrom_37 (fun H locs hP _ hS => ?_)
      rw [nI_clamp (by omega)] at hP
      have hP : va_P (dC, dI) vwCl (xw A C nb st6 sl7 (upO so8 (20 + 4 * 0 + 1) k5 (some (ad j17)))) H := by rw [← xsetO (r := (20 + 4 * 0 + 1)) (k := k5) (v := (some (ad j17))) (xc_sn (q := 0) (o := 1) (by omega) (by omega))]; exact hP
      obtain ⟨so23, eso23⟩ : ∃ y, y = upO so8 (20 + 4 * 0 + 1) k5 (some (ad j17)) := ⟨_, rfl⟩
      have hO : OG ad [1, 2, 3] so so23 := by rw [eso23]; exact hO.up (isW.of (by omega)) (fun hh => absurd hh (by omega)) (by decide)
      rw [← eso23] at hP
      refine lv_aload_n hx hb dX7_copyFrom_38 rfl (lv_at hl 1 rfl) ?_
      refine va_get (D := (dC, dI)) (ci := 8) (v := .ref (A (20 + 4 * 0 + 2))) (C := RX7) (T := TX7) (N := 5) hx hb hts ii_X7_copyFrom_X7 hown hK hP (20 + 4 * 0) (xw_is (r := (20 + 4 * 0)) (by omega) (xc_sn (q := 0) (o := 0) (by omega) (by omega))) rfl 1 (by decide) (hts _ mm_X7_copyFrom_4) (fun _ hh => hh) rfl dX7_copyFrom_39 ?_
      refine lv_iload_n hx hb dX7_copyFrom_42 rfl (lv_at hl 0 rfl) ?_
      refine lv_aload_n hx hb dX7_copyFrom_43 rfl (lv_at hl 2 rfl) ?_
      refine va_get (D := (dC, dI)) (ci := 8) (v := .ref (A (20 + 4 * 1 + 2))) (C := RX7) (T := TX7) (N := 5) hx hb hts ii_X7_copyFrom_X7 hown hK hP (20 + 4 * 1) (xw_is (r := (20 + 4 * 1)) (by omega) (xc_sn (q := 1) (o := 0) (by omega) (by omega))) rfl 1 (by decide) (hts _ mm_X7_copyFrom_4) (fun _ hh => hh) rfl dX7_copyFrom_44 ?_
      refine lv_iload_n hx hb dX7_copyFrom_47 rfl (lv_at hl 0 rfl) ?_
      refine va_iald hx hb hK hP (20 + 4 * 1 + 2) (20 + 4 * 1 + 2) (xw_is (r := (20 + 4 * 1 + 2)) (by omega) (xc_sn (q := 1) (o := 2) (by omega) (by omega))) (xt_is (r := (20 + 4 * 1 + 2)) (by omega) ((xty_sn (q := 1) (o := 2) (by omega) (by omega)).trans rfl)) (i := (nI k5)) (vp_in_nI (by omega) (by decide)) dX7_copyFrom_48 ?_
      obtain ⟨z24, ez24⟩ : ∃ y : Int32, st6 (20 + 4 * 1 + 2) k5 = y := ⟨_, rfl⟩
      refine zz_top (v := z24) (by rw [nI_clamp (by omega)]; exact ez24) ?_
      refine va_iast hx hb hK hP (xD hN _ _ _ _ _ _) hS (20 + 4 * 0 + 2) (20 + 4 * 0 + 2) (xw_is (r := (20 + 4 * 0 + 2)) (by omega) (xc_sn (q := 0) (o := 2) (by omega) (by omega))) (xt_is (r := (20 + 4 * 0 + 2)) (by omega) ((xty_sn (q := 0) (o := 2) (by omega) (by omega)).trans rfl)) (i := (nI k5)) (vp_in_nI (by omega) (by decide)) dX7_copyFrom_49 (fun H locs hP _ hS => ?_)
      rw [nI_clamp (by omega)] at hP
      have hP : va_P (dC, dI) vwCl (xw A C nb (up2 st6 (20 + 4 * 0 + 2) k5 z24) sl7 so23) H := by rw [← xset (r := (20 + 4 * 0 + 2)) (k := k5) (v := z24) (xc_sn (q := 0) (o := 2) (by omega) (by omega))]; exact hP
      obtain ⟨st25, est25⟩ : ∃ y, y = up2 st6 (20 + 4 * 0 + 2) k5 z24 := ⟨_, rfl⟩
      have hG : XG [1, 2, 3, 6, 7, 8, 9, 10, 11, 12, 13, 14, 15] st st25 := by rw [est25]; exact hG.up (xz (r := (20 + 4 * 0 + 2)) (k := k5) ((xrg_sn (q := 0) (o := 2) (by omega) (by omega)).trans (by first | rfl | decide))) (xpn (c := 0) ((xcl_sn (q := 0) (o := 2) (k := k5) (by omega) (by omega)).trans (by first | rfl | decide)) (by decide))
      rw [← est25] at hP
      refine lv_aload_n hx hb dX7_copyFrom_50 rfl (lv_at hl 1 rfl) ?_
      refine va_get (D := (dC, dI)) (ci := 8) (v := .ref (A (20 + 4 * 0 + 3))) (C := RX7) (T := TX7) (N := 5) hx hb hts ii_X7_copyFrom_X7 hown hK hP (20 + 4 * 0) (xw_is (r := (20 + 4 * 0)) (by omega) (xc_sn (q := 0) (o := 0) (by omega) (by omega))) rfl 2 (by decide) (hts _ mm_X7_copyFrom_5) (fun _ hh => hh) rfl dX7_copyFrom_51 ?_
      refine lv_iload_n hx hb dX7_copyFrom_54 rfl (lv_at hl 0 rfl) ?_
      refine lv_aload_n hx hb dX7_copyFrom_55 rfl (lv_at hl 2 rfl) ?_
      refine va_get (D := (dC, dI)) (ci := 8) (v := .ref (A (20 + 4 * 1 + 3))) (C := RX7) (T := TX7) (N := 5) hx hb hts ii_X7_copyFrom_X7 hown hK hP (20 + 4 * 1) (xw_is (r := (20 + 4 * 1)) (by omega) (xc_sn (q := 1) (o := 0) (by omega) (by omega))) rfl 2 (by decide) (hts _ mm_X7_copyFrom_5) (fun _ hh => hh) rfl dX7_copyFrom_56 ?_
      refine lv_iload_n hx hb dX7_copyFrom_59 rfl (lv_at hl 0 rfl) ?_
      refine va_iald hx hb hK hP (20 + 4 * 1 + 3) (20 + 4 * 1 + 3) (xw_is (r := (20 + 4 * 1 + 3)) (by omega) (xc_sn (q := 1) (o := 3) (by omega) (by omega))) (xt_is (r := (20 + 4 * 1 + 3)) (by omega) ((xty_sn (q := 1) (o := 3) (by omega) (by omega)).trans rfl)) (i := (nI k5)) (vp_in_nI (by omega) (by decide)) dX7_copyFrom_60 ?_
      obtain ⟨z26, ez26⟩ : ∃ y : Int32, st25 (20 + 4 * 1 + 3) k5 = y := ⟨_, rfl⟩
      refine zz_top (v := z26) (by rw [nI_clamp (by omega)]; exact ez26) ?_
      refine va_iast hx hb hK hP (xD hN _ _ _ _ _ _) hS (20 + 4 * 0 + 3) (20 + 4 * 0 + 3) (xw_is (r := (20 + 4 * 0 + 3)) (by omega) (xc_sn (q := 0) (o := 3) (by omega) (by omega))) (xt_is (r := (20 + 4 * 0 + 3)) (by omega) ((xty_sn (q := 0) (o := 3) (by omega) (by omega)).trans rfl)) (i := (nI k5)) (vp_in_nI (by omega) (by decide)) dX7_copyFrom_61 (fun H locs hP _ hS => ?_)
      rw [nI_clamp (by omega)] at hP
      have hP : va_P (dC, dI) vwCl (xw A C nb (up2 st25 (20 + 4 * 0 + 3) k5 z26) sl7 so23) H := by rw [← xset (r := (20 + 4 * 0 + 3)) (k := k5) (v := z26) (xc_sn (q := 0) (o := 3) (by omega) (by omega))]; exact hP
      obtain ⟨st27, est27⟩ : ∃ y, y = up2 st25 (20 + 4 * 0 + 3) k5 z26 := ⟨_, rfl⟩
      have hG : XG [1, 2, 3, 6, 7, 8, 9, 10, 11, 12, 13, 14, 15] st st27 := by rw [est27]; exact hG.up (xz (r := (20 + 4 * 0 + 3)) (k := k5) ((xrg_sn (q := 0) (o := 3) (by omega) (by omega)).trans (by first | rfl | decide))) (xpn (c := 4) ((xcl_sn (q := 0) (o := 3) (k := k5) (by omega) (by omega)).trans (by first | rfl | decide)) (by decide))
      rw [← est27] at hP
      refine lv_iinc (v := (nI (k5 + 1))) (lv' := [(2, .int (nI (k5 + 1))), (0, .ref (A (20 + 4 * 0))), (1, .ref (A (20 + 4 * 1)))]) hx hb dX7_copyFrom_62 hl (k := 0) rfl (nI_add k5 1) (by decide) rfl (fun ls hl => ?_)
      refine lv_goto (tgt := 18) hx hb dX7_copyFrom_65 (by decide) ?_
      exact ih16 (41 - (k5 + 1)) _ _ _ _ (by omega) ⟨(k5 + 1), st27, sl7, so23, rfl, by omega, by omega, by show st27 (20 + 4 * 0) 3 = _; rw [est27, up2_ne (r := (20 + 4 * 0 + 3)) (k := k5) (a := (20 + 4 * 0)) (j := 3) _ _ (by omega), est25, up2_ne (r := (20 + 4 * 0 + 2)) (k := k5) (a := (20 + 4 * 0)) (j := 3) _ _ (by omega), hv11_0], fun jj hk => by show st27 (20 + 4 * 0 + 3) jj = st (20 + 4 * 1 + 3) jj; by_cases ee : jj = k5; (rw [ee, est27, up2_same]; exact (show z26 = st (20 + 4 * 1 + 3) k5 by rw [← ez26, est25, up2_o _ (by omega), hv14_3 _ (by omega)])); (rw [est27, up2_ne (r := (20 + 4 * 0 + 3)) (k := k5) (a := (20 + 4 * 0 + 3)) (j := jj) _ _ (by omega), est25, up2_ne (r := (20 + 4 * 0 + 2)) (k := k5) (a := (20 + 4 * 0 + 3)) (j := jj) _ _ (by omega)]; exact hv12_1 jj (by omega)), fun jj hk => by show so23 (20 + 4 * 0 + 1) jj = so (20 + 4 * 1 + 1) jj; by_cases ee : jj = k5; (rw [ee, eso23, upO_same]; exact (show (some (ad j17)) = so (20 + 4 * 1 + 1) k5 by rw [← ej17, hv15_4 _ (by omega)])); (rw [eso23, upO_ne (r := (20 + 4 * 0 + 1)) (k := k5) (a := (20 + 4 * 0 + 1)) (j := jj) _ _ (by omega)]; exact hv13_2 jj (by omega)), fun r9 h9 => by rw [est27, up2_o r9 (by omega), est25, up2_o r9 (by omega)]; exact hv14_3 r9 h9, fun r9 h9 => by rw [eso23, upO_o r9 (by omega)]; exact hv15_4 r9 h9, hP, hG, hO, hL, hS, lv_sub hl [0, 1, 2] rfl, rfl⟩
