set_option maxHeartbeats 4000000 in
set_option maxRecDepth 100000 in
theorem y_addT (l : Launch) (dC : Nat → ClassId) (dI : Nat → Nat → Nat) (ad : Nat → Nat) (E : EP) (hEE : EC ad E) (A : Nat → Nat) (C : Nat → ClassId) (nb sz : Nat) (hN : XN A) (st : Nat → Nat → Int32) (sl : Nat → Nat → Int64) (so : Nat → XR) (vj : Nat) (va : Int32) (vb : Int32) (B : Nat → Nat) (g m : Nat) (p : Nat) (hvj : vj < 26) (hI : XI st) (hOI : OI ad so) (hB : CBt B g m st) (hT : TC B g m p ad st sl so) : Met l yX7_add wsX7_add ({ frames := 0, cells := 0, slots := 0, locals := 0 }) (va_Pc [.ref (A (20 + 4 * 1)), .ref (ad vj), .int va, .int vb] (xPre E dC dI A C nb sz st sl so)) (va_Qv (fun (x : XT) => XG [1, 2, 3, 4, 5, 6, 7, 12, 13, 14, 15] st x.1 ∧ OG ad [2, 4] so x.2.2 ∧ FX 5 st sl so x.1 x.2.1 x.2.2 ∧ (x.1 1 13 = st 1 13 ∧ x.1 1 14 = st 1 14 ∧ x.1 (20 + 4 * 1) 4 = st (20 + 4 * 1) 4 ∧ TC B g m p ad x.1 x.2.1 x.2.2)) (xB dC dI A C nb) (XA A sz)) 0 0 (XA A sz) := by
  refine Met.ofW (cc := cX7_add) (maxL := 4) (ret := none) (by decide) rfl ?_
  intro p9 e s m9 args below meth c9 s₁ B9 hml hv
  obtain ⟨rfl, hsz, hP, hK, hE⟩ := hv
  have hx := B9.exec
  have hb := B9.bytes
  have hr := B9.returns
  have hts := atoms_spec (ws := wsX7_add) B9.pre
  have hown : s.vm.findClass RX7 = some m9.cls := findClass_of_methodNamed B9.named
  subst hsz
  have hEv := hEE.1 _ _ _ hE
  have hS : va_S (XA A s.heap.size) s.heap s.heap [] := va_S.rf
  have hG : XG [1, 2, 3, 4, 5, 6, 7, 12, 13, 14, 15] st st := XG.rf hI
  have hO : OG ad [2, 4] so so := OG.rf hOI
  have hl := lv_entry ([.ref (A (20 + 4 * 1)), .ref (ad vj), .int va, .int vb]) (n := 4) (Nat.le_of_ble_eq_true rfl)
  rw [lg_entry_eq]
  generalize (lg_sl ([.ref (A (20 + 4 * 1)), .ref (ad vj), .int va, .int vb]) ++ List.replicate (4 - (lg_sl ([.ref (A (20 + 4 * 1)), .ref (ad vj), .int va, .int vb])).length) Slot.unset).toArray = ls at hl ⊢
  have hl : lv_has ls 4 [(0, .ref (A (20 + 4 * 1))), (1, .ref (ad vj)), (2, .int va), (3, .int vb)] := hl
  have hB1 := hB.2.2.1
  have hB2 := hB.2.2.2.1
  have hF : FX 5 st sl so st sl so := FX.rf
  have hp9 := hT.2.2.2.2.2.2
  have hk1 := tkd_lt (B := B) (g := g) (m := m) (p := p)
  have hk2 := tkx_le (B := B) (g := g) (m := m) (p := p) hp9
  have hk3 := tka_le (B := B) (g := g) (m := m) (p := p) hp9 hB.2.2.1
  have hk4 := tkv_ltc (p := p) hB hp9
  have hk5 := tkw_lt (B := B) (g := g) (m := m) (p := p)
  refine lv_aload_n hx hb dX7_add_0 rfl (lv_at hl 0 rfl) ?_
  refine va_get (D := (dC, dI)) (ci := 8) (v := .int (st (20 + 4 * 1) 3)) (C := RX7) (T := TX7) (N := 5) hx hb hts ii_X7_add_X7 hown hK hP (20 + 4 * 1) (xw_is (r := (20 + 4 * 1)) (by omega) (xc_sn (q := 1) (o := 0) (by omega) (by omega))) rfl 3 (by decide) (hts _ mm_X7_add_1) (fun _ hh => hh) rfl dX7_add_1 ?_
  obtain ⟨n1, hn1, en1⟩ := hG.1.at (r := (20 + 4 * 1)) (k := 3) (b := 41) ((xrg_sn (q := 1) (o := 0) (by omega) (by omega)).trans (by first | rfl | decide)) (by decide)
  refine zz_top (v := nI n1) (by exact en1) ?_
  refine lv_bipush (v := 40) hx hb dX7_add_4 (by decide) ?_
  refine lv_icmp_ge (tgt := 49) hx hb dX7_add_6 (by decide) (fun c1 => ?_) (fun c1 => ?_)
  · have c1 : 40 ≤ n1 := (nI_leI (a := 40) (b := n1) (by omega) (by omega)).mp c1
    exact W.vret hx hb hr (fun t ht hW => ⟨⟨(st, sl, so), rfl, ⟨hG, hO, hF, ⟨by show st 1 13 = st 1 13; rfl, by show st 1 14 = st 1 14; rfl, by show st (20 + 4 * 1) 4 = st (20 + 4 * 1) 4; rfl, hT⟩⟩, xB.of ht hP⟩, hS.F ht⟩) hS.2.2 dX7_add_49
  · have c1 : ¬ 40 ≤ n1 := fun hh => c1 ((nI_leI (a := 40) (b := n1) (by omega) (by omega)).mpr hh)
    refine lv_aload_n hx hb dX7_add_9 rfl (lv_at hl 0 rfl) ?_
    refine va_get (D := (dC, dI)) (ci := 8) (v := .ref (A (20 + 4 * 1 + 1))) (C := RX7) (T := TX7) (N := 5) hx hb hts ii_X7_add_X7 hown hK hP (20 + 4 * 1) (xw_is (r := (20 + 4 * 1)) (by omega) (xc_sn (q := 1) (o := 0) (by omega) (by omega))) rfl 0 (by decide) (hts _ mm_X7_add_2) (fun _ hh => hh) rfl dX7_add_10 ?_
    refine lv_aload_n hx hb dX7_add_13 rfl (lv_at hl 0 rfl) ?_
    refine va_get (D := (dC, dI)) (ci := 8) (v := .int (st (20 + 4 * 1) 3)) (C := RX7) (T := TX7) (N := 5) hx hb hts ii_X7_add_X7 hown hK hP (20 + 4 * 1) (xw_is (r := (20 + 4 * 1)) (by omega) (xc_sn (q := 1) (o := 0) (by omega) (by omega))) rfl 3 (by decide) (hts _ mm_X7_add_1) (fun _ hh => hh) rfl dX7_add_14 ?_
    refine zz_top (v := (nI n1)) (by show st (20 + 4 * 1) 3 = _; rw [en1]) ?_
    refine lv_aload_n hx hb dX7_add_17 rfl (lv_at hl 1 rfl) ?_
    refine zz_astw (x := (some (ad vj))) hx hb hEv hK hP (xD hN _ _ _ _ _ _) hS (20 + 4 * 1 + 1) (20 + 4 * 1 + 1) (xw_is (r := (20 + 4 * 1 + 1)) (by omega) (xc_sn (q := 1) (o := 1) (by omega) (by omega))) (xt_is (r := (20 + 4 * 1 + 1)) (by omega) ((xty_sn (q := 1) (o := 1) (by omega) (by omega)).trans rfl)) (isW.of (by omega)) (i := (nI n1)) (vp_in_nI (by omega) (by decide)) dX7_add_18 (fun H locs hP _ hS => ?_)
    rw [nI_clamp (by omega)] at hP
    have hP : va_P (dC, dI) vwCl (xw A C nb st sl (upO so (20 + 4 * 1 + 1) n1 (some (ad vj)))) H := by rw [← xsetO (r := (20 + 4 * 1 + 1)) (k := n1) (v := (some (ad vj))) (xc_sn (q := 1) (o := 1) (by omega) (by omega))]; exact hP
    obtain ⟨so2, eso2⟩ : ∃ y, y = upO so (20 + 4 * 1 + 1) n1 (some (ad vj)) := ⟨_, rfl⟩
    have hO : OG ad [2, 4] so so2 := by rw [eso2]; exact hO.up (isW.of (by omega)) (fun hh => absurd hh (by omega)) (by decide)
    rw [← eso2] at hP
    have hF : FX 5 st sl so st sl so2 := by rw [eso2]; exact hF.upO (dc_sn (o := 1) (by omega))
    have hT : TC B g m p ad st sl so2 := by rw [eso2]; exact hT.upO (by omega)
    refine lv_aload_n hx hb dX7_add_19 rfl (lv_at hl 0 rfl) ?_
    refine va_get (D := (dC, dI)) (ci := 8) (v := .ref (A (20 + 4 * 1 + 2))) (C := RX7) (T := TX7) (N := 5) hx hb hts ii_X7_add_X7 hown hK hP (20 + 4 * 1) (xw_is (r := (20 + 4 * 1)) (by omega) (xc_sn (q := 1) (o := 0) (by omega) (by omega))) rfl 1 (by decide) (hts _ mm_X7_add_3) (fun _ hh => hh) rfl dX7_add_20 ?_
    refine lv_aload_n hx hb dX7_add_23 rfl (lv_at hl 0 rfl) ?_
    refine va_get (D := (dC, dI)) (ci := 8) (v := .int (st (20 + 4 * 1) 3)) (C := RX7) (T := TX7) (N := 5) hx hb hts ii_X7_add_X7 hown hK hP (20 + 4 * 1) (xw_is (r := (20 + 4 * 1)) (by omega) (xc_sn (q := 1) (o := 0) (by omega) (by omega))) rfl 3 (by decide) (hts _ mm_X7_add_1) (fun _ hh => hh) rfl dX7_add_24 ?_
    refine zz_top (v := (nI n1)) (by show st (20 + 4 * 1) 3 = _; rw [en1]) ?_
    refine lv_iload_n hx hb dX7_add_27 rfl (lv_at hl 2 rfl) ?_
    refine va_iast hx hb hK hP (xD hN _ _ _ _ _ _) hS (20 + 4 * 1 + 2) (20 + 4 * 1 + 2) (xw_is (r := (20 + 4 * 1 + 2)) (by omega) (xc_sn (q := 1) (o := 2) (by omega) (by omega))) (xt_is (r := (20 + 4 * 1 + 2)) (by omega) ((xty_sn (q := 1) (o := 2) (by omega) (by omega)).trans rfl)) (i := (nI n1)) (vp_in_nI (by omega) (by decide)) dX7_add_28 (fun H locs hP _ hS => ?_)
    rw [nI_clamp (by omega)] at hP
    have hP : va_P (dC, dI) vwCl (xw A C nb (up2 st (20 + 4 * 1 + 2) n1 va) sl so2) H := by rw [← xset (r := (20 + 4 * 1 + 2)) (k := n1) (v := va) (xc_sn (q := 1) (o := 2) (by omega) (by omega))]; exact hP
    obtain ⟨st3, est3⟩ : ∃ y, y = up2 st (20 + 4 * 1 + 2) n1 va := ⟨_, rfl⟩
    have hG : XG [1, 2, 3, 4, 5, 6, 7, 12, 13, 14, 15] st st3 := by rw [est3]; exact hG.up (xz (r := (20 + 4 * 1 + 2)) (k := n1) ((xrg_sn (q := 1) (o := 2) (by omega) (by omega)).trans (by first | rfl | decide))) (xpn (c := 0) ((xcl_sn (q := 1) (o := 2) (k := n1) (by omega) (by omega)).trans (by first | rfl | decide)) (by decide))
    rw [← est3] at hP
    have hF : FX 5 st sl so st3 sl so2 := by rw [est3]; exact hF.up (dc_sn (o := 2) (by omega))
    have hT : TC B g m p ad st3 sl so2 := by rw [est3]; exact hT.up (by omega)
    refine lv_aload_n hx hb dX7_add_29 rfl (lv_at hl 0 rfl) ?_
    refine va_get (D := (dC, dI)) (ci := 8) (v := .ref (A (20 + 4 * 1 + 3))) (C := RX7) (T := TX7) (N := 5) hx hb hts ii_X7_add_X7 hown hK hP (20 + 4 * 1) (xw_is (r := (20 + 4 * 1)) (by omega) (xc_sn (q := 1) (o := 0) (by omega) (by omega))) rfl 2 (by decide) (hts _ mm_X7_add_4) (fun _ hh => hh) rfl dX7_add_30 ?_
    refine lv_aload_n hx hb dX7_add_33 rfl (lv_at hl 0 rfl) ?_
    refine va_get (D := (dC, dI)) (ci := 8) (v := .int (st3 (20 + 4 * 1) 3)) (C := RX7) (T := TX7) (N := 5) hx hb hts ii_X7_add_X7 hown hK hP (20 + 4 * 1) (xw_is (r := (20 + 4 * 1)) (by omega) (xc_sn (q := 1) (o := 0) (by omega) (by omega))) rfl 3 (by decide) (hts _ mm_X7_add_1) (fun _ hh => hh) rfl dX7_add_34 ?_
    refine zz_top (v := (nI n1)) (by show st3 (20 + 4 * 1) 3 = _; rw [est3, up2_ne (r := (20 + 4 * 1 + 2)) (k := n1) (a := (20 + 4 * 1)) (j := 3) _ _ (by omega), en1]) ?_
    refine lv_iload_n hx hb dX7_add_37 rfl (lv_at hl 3 rfl) ?_
    refine va_iast hx hb hK hP (xD hN _ _ _ _ _ _) hS (20 + 4 * 1 + 3) (20 + 4 * 1 + 3) (xw_is (r := (20 + 4 * 1 + 3)) (by omega) (xc_sn (q := 1) (o := 3) (by omega) (by omega))) (xt_is (r := (20 + 4 * 1 + 3)) (by omega) ((xty_sn (q := 1) (o := 3) (by omega) (by omega)).trans rfl)) (i := (nI n1)) (vp_in_nI (by omega) (by decide)) dX7_add_38 (fun H locs hP _ hS => ?_)
    rw [nI_clamp (by omega)] at hP
    have hP : va_P (dC, dI) vwCl (xw A C nb (up2 st3 (20 + 4 * 1 + 3) n1 vb) sl so2) H := by rw [← xset (r := (20 + 4 * 1 + 3)) (k := n1) (v := vb) (xc_sn (q := 1) (o := 3) (by omega) (by omega))]; exact hP
    obtain ⟨st4, est4⟩ : ∃ y, y = up2 st3 (20 + 4 * 1 + 3) n1 vb := ⟨_, rfl⟩
    have hG : XG [1, 2, 3, 4, 5, 6, 7, 12, 13, 14, 15] st st4 := by rw [est4]; exact hG.up (xz (r := (20 + 4 * 1 + 3)) (k := n1) ((xrg_sn (q := 1) (o := 3) (by omega) (by omega)).trans (by first | rfl | decide))) (xpn (c := 8) ((xcl_sn (q := 1) (o := 3) (k := n1) (by omega) (by omega)).trans (by first | rfl | decide)) (by decide))
    rw [← est4] at hP
    have hF : FX 5 st sl so st4 sl so2 := by rw [est4]; exact hF.up (dc_sn (o := 3) (by omega))
    have hT : TC B g m p ad st4 sl so2 := by rw [est4]; exact hT.up (by omega)
    refine lv_aload_n hx hb dX7_add_39 rfl (lv_at hl 0 rfl) ?_
    refine lv_dup hx hb dX7_add_40 rfl ?_
    refine va_get (D := (dC, dI)) (ci := 8) (v := .int (st4 (20 + 4 * 1) 3)) (C := RX7) (T := TX7) (N := 5) hx hb hts ii_X7_add_X7 hown hK hP (20 + 4 * 1) (xw_is (r := (20 + 4 * 1)) (by omega) (xc_sn (q := 1) (o := 0) (by omega) (by omega))) rfl 3 (by decide) (hts _ mm_X7_add_1) (fun _ hh => hh) rfl dX7_add_41 ?_
    refine zz_top (v := (nI n1)) (by show st4 (20 + 4 * 1) 3 = _; rw [est4, up2_ne (r := (20 + 4 * 1 + 3)) (k := n1) (a := (20 + 4 * 1)) (j := 3) _ _ (by omega), est3, up2_ne (r := (20 + 4 * 1 + 2)) (k := n1) (a := (20 + 4 * 1)) (j := 3) _ _ (by omega), en1]) ?_
    refine lv_iconst (v := 1) hx hb dX7_add_44 (by decide) ?_
    refine lv_iadd hx hb dX7_add_45 ?_
    refine zz_top (v := nI (n1 + 1)) (nI_add n1 1) ?_
    refine va_put (D := (dC, dI)) (ci := 8) (v := .int (nI (n1 + 1))) (ty := .int) (C := RX7) (T := TX7) (N := 5) hx hb hts ii_X7_add_X7 tyX7 tyX7_ok nmX7 hown hK hP (xD hN _ _ _ _ _ _) hS (20 + 4 * 1) (xw_is (r := (20 + 4 * 1)) (by omega) (xc_sn (q := 1) (o := 0) (by omega) (by omega))) rfl 3 (by decide) (hts _ mm_X7_add_1) (fun _ hh => hh) rfl (by decide +kernel) rfl rfl (Nat.le_of_ble_eq_true rfl) dX7_add_46 (fun H locs hP _ hS => ?_)
    have hP : va_P (dC, dI) vwCl (xw A C nb (up2 st4 (20 + 4 * 1) 3 (nI (n1 + 1))) sl so2) H := by rw [← xset (r := (20 + 4 * 1)) (k := 3) (v := (nI (n1 + 1))) (xc_sn (q := 1) (o := 0) (by omega) (by omega))]; exact hP
    obtain ⟨st5, est5⟩ : ∃ y, y = up2 st4 (20 + 4 * 1) 3 (nI (n1 + 1)) := ⟨_, rfl⟩
    have hG : XG [1, 2, 3, 4, 5, 6, 7, 12, 13, 14, 15] st st5 := by rw [est5]; exact hG.up (xn (n := (n1 + 1)) (b := 41) ((xrg_sn (q := 1) (o := 0) (by omega) (by omega)).trans (by first | rfl | decide)) (by omega)) (xpn (c := 9) ((xcl_sn (q := 1) (o := 0) (k := 3) (by omega) (by omega)).trans (by first | rfl | decide)) (by decide))
    rw [← est5] at hP
    have hF : FX 5 st sl so st5 sl so2 := by rw [est5]; exact hF.up (dc_sn (o := 0) (by omega))
    have hT : TC B g m p ad st5 sl so2 := by rw [est5]; exact hT.up (by omega)
    exact W.vret hx hb hr (fun t ht hW => ⟨⟨(st5, sl, so2), rfl, ⟨hG, hO, hF, ⟨by show st5 1 13 = st 1 13; rw [est5, up2_ne (r := (20 + 4 * 1)) (k := 3) (a := 1) (j := 13) _ _ (by omega), est4, up2_ne (r := (20 + 4 * 1 + 3)) (k := n1) (a := 1) (j := 13) _ _ (by omega), est3, up2_ne (r := (20 + 4 * 1 + 2)) (k := n1) (a := 1) (j := 13) _ _ (by omega)], by show st5 1 14 = st 1 14; rw [est5, up2_ne (r := (20 + 4 * 1)) (k := 3) (a := 1) (j := 14) _ _ (by omega), est4, up2_ne (r := (20 + 4 * 1 + 3)) (k := n1) (a := 1) (j := 14) _ _ (by omega), est3, up2_ne (r := (20 + 4 * 1 + 2)) (k := n1) (a := 1) (j := 14) _ _ (by omega)], by show st5 (20 + 4 * 1) 4 = st (20 + 4 * 1) 4; rw [est5, up2_ne (r := (20 + 4 * 1)) (k := 3) (a := (20 + 4 * 1)) (j := 4) _ _ (by omega), est4, up2_ne (r := (20 + 4 * 1 + 3)) (k := n1) (a := (20 + 4 * 1)) (j := 4) _ _ (by omega), est3, up2_ne (r := (20 + 4 * 1 + 2)) (k := n1) (a := (20 + 4 * 1)) (j := 4) _ _ (by omega)], hT⟩⟩, xB.of ht hP⟩, hS.F ht⟩) hS.2.2 dX7_add_49
set_option maxHeartbeats 4000000 in
set_option maxRecDepth 100000 in
theorem y_X7_readPlain (l : Launch) (dC : Nat → ClassId) (dI : Nat → Nat → Nat) (ad : Nat → Nat) (E : EP) (hEE : EC ad E) (A : Nat → Nat) (C : Nat → ClassId) (nb sz : Nat) (hN : XN A) (st : Nat → Nat → Int32) (sl : Nat → Nat → Int64) (so : Nat → XR) (vj : Nat) (B : Nat → Nat) (g m : Nat) (p : Nat) (c : Nat → Nat) (nm : Nat → Nat → Nat) (hvj : vj < 26) (hI : XI st) (hOI : OI ad so) (hB : CBt B g m st) (hT : TC B g m p ad st sl so) (hR : CN c nm st sl 0) (hvj : 16 ≤ vj ∧ vj ≤ 23) : Met l yX7_readPlain wsX7_readPlain ({ frames := 7, cells := 0, slots := 0, locals := 152 }) (va_Pc [.ref (A (20 + 4 * 1)), .ref (A 1), .ref (A (36 + 20 * 0)), .ref (ad vj)] (xPre E dC dI A C nb sz st sl so)) (va_Qi (fun (r : Int32) (x : XT) => XG [1, 2, 3, 4, 5, 6, 7, 12, 13, 14, 15] st x.1 ∧ OG ad [2, 4] so x.2.2 ∧ FX 5 st sl so x.1 x.2.1 x.2.2 ∧ ((∃ q : Nat, r = 1 ∧ TC B g m q ad x.1 x.2.1 x.2.2 ∧ x.1 1 13 = st 1 13 ∧ x.1 (20 + 4 * 1) 4 = st (20 + 4 * 1) 4 ∧ (∀ o, sPl B g m c nm vj p o = (0, q, o))) ∨ (∃ f : Nat, ∃ a : Nat, r = 0 ∧ x.1 1 13 = nI f ∧ x.1 1 14 = nI a ∧ (1 ≤ f ∧ f < 9) ∧ (∀ o, sPl B g m c nm vj p o = sf f a)))) (xB dC dI A C nb) (XA A sz)) 0 0 (XA A sz) := by
  refine Met.ofW (cc := cX7_readPlain) (maxL := 6) (ret := (some .boolean)) (by decide) rfl ?_
  intro p9 e s m9 args below meth c9 s₁ B9 hml hv
  obtain ⟨rfl, hsz, hP, hK, hE⟩ := hv
  have hx := B9.exec
  have hb := B9.bytes
  have hr := B9.returns
  have hts := atoms_spec (ws := wsX7_readPlain) B9.pre
  have hown : s.vm.findClass RX7 = some m9.cls := findClass_of_methodNamed B9.named
  subst hsz
  have hEv := hEE.1 _ _ _ hE
  have hS : va_S (XA A s.heap.size) s.heap s.heap [] := va_S.rf
  have hG : XG [1, 2, 3, 4, 5, 6, 7, 12, 13, 14, 15] st st := XG.rf hI
  have hO : OG ad [2, 4] so so := OG.rf hOI
  have hl := lv_entry ([.ref (A (20 + 4 * 1)), .ref (A 1), .ref (A (36 + 20 * 0)), .ref (ad vj)]) (n := 6) (Nat.le_of_ble_eq_true rfl)
  rw [lg_entry_eq]
  generalize (lg_sl ([.ref (A (20 + 4 * 1)), .ref (A 1), .ref (A (36 + 20 * 0)), .ref (ad vj)]) ++ List.replicate (6 - (lg_sl ([.ref (A (20 + 4 * 1)), .ref (A 1), .ref (A (36 + 20 * 0)), .ref (ad vj)])).length) Slot.unset).toArray = ls at hl ⊢
  have hl : lv_has ls 6 [(0, .ref (A (20 + 4 * 1))), (1, .ref (A 1)), (2, .ref (A (36 + 20 * 0))), (3, .ref (ad vj))] := hl
  have hB1 := hB.2.2.1
  have hB2 := hB.2.2.2.1
  have hF : FX 5 st sl so st sl so := FX.rf
  have hp9 := hT.2.2.2.2.2.2
  have hk1 := tkd_lt (B := B) (g := g) (m := m) (p := p)
  have hk2 := tkx_le (B := B) (g := g) (m := m) (p := p) hp9
  have hk3 := tka_le (B := B) (g := g) (m := m) (p := p) hp9 hB.2.2.1
  have hk4 := tkv_ltc (p := p) hB hp9
  have hk5 := tkw_lt (B := B) (g := g) (m := m) (p := p)
  have hR9 := hR.2.1
  refine lv_aload_n hx hb dX7_readPlain_0 rfl (lv_at hl 3 rfl) ?_
  refine va_gets (v := .ref (ad 16)) hx hb (EV.word hEv (i := 16) (by decide)) hS hown (hts _ mm_X7_readPlain_1) (fun _ hh => hh) dX7_readPlain_1 ?_
  refine lv_acmp_eq (rx := (some (ad vj))) (ry := (some (ad 16))) (tgt := 14) hx hb dX7_readPlain_4 (by decide) (fun c1 => ?_) (fun c1 => ?_)
  · have c1 : vj = 16 := (EV.eqw hEv (i := vj) (j := 16) (by omega) (by omega)).mp c1
    refine lv_aload_n hx hb dX7_readPlain_14 rfl (lv_at hl 0 rfl) ?_
    refine lv_aload_n hx hb dX7_readPlain_15 rfl (lv_at hl 3 rfl) ?_
    refine lv_iconst (v := 0) hx hb dX7_readPlain_16 (by decide) ?_
    refine lv_iconst (v := 0) hx hb dX7_readPlain_17 (by decide) ?_
    refine va_callv (va_runV (As := [.ref (ad vj), .int 0, .int 0]) (rest := []) ⟨hx, hb, hml, hown, hts⟩ (y_addT l dC dI ad E hEE A C nb _ hN st sl so vj 0 0 B g m p (by omega) hG.1 hO.1 (CBt.fr hB hF) hT) (cwV 3 hts gX7_readPlain_X7_add rfl rfl rfl (by decide +kernel) ⟨Nat.le_of_ble_eq_true rfl, Nat.le_of_ble_eq_true rfl⟩) ⟨fun a U g mk q => ⟨q.1, xPre.blind hEE q.2⟩, va_recv hK hP (ci := 8) (q0 := (20 + 4 * 1)) rfl (xw_is (r := (20 + 4 * 1)) (by omega) (xc_sn (q := 1) (o := 0) (by omega) (by omega))), fun U hU hW => ⟨rfl, xPre.of hEE hP hK hE hS hU hW⟩⟩ rfl rfl hl.1 rfl (lv_room (Nat.le_of_ble_eq_true rfl)) dX7_readPlain_18 ⟨Nat.le_of_ble_eq_true rfl, Nat.le_of_ble_eq_true rfl⟩) hS (fun q _ h => XA.le hS.1 q h) (XA.le hS.1) (fun x t H locs ht hvm hw hB9 _ _ hS => ?_)
    have hP := xB.at ht hB9
    clear hB9 ht hvm
    obtain ⟨st2, sl3, so4⟩ := x
    obtain ⟨hGst2, hOst2, hFst2, hw⟩ := hw
    dsimp only at hGst2 hOst2 hFst2 hw
    have hO : OG ad [2, 4] so so4 := hO.tr hOst2 (by decide)
    have hP : va_P (dC, dI) vwCl (xw A C nb st2 sl3 so4) _ := hP
    have hG : XG [1, 2, 3, 4, 5, 6, 7, 12, 13, 14, 15] st st2 := hG.tr hGst2 (by decide)
    have hF : FX 5 st sl so st2 sl3 so4 := hF.tr hFst2 (by omega) (by omega)
    have hR : CN c nm st2 sl3 0 := hR.fr0 hFst2
    obtain ⟨hf5, hf6, hf7, hT⟩ := hw
    have hp9 := hT.2.2.2.2.2.2
    have hk1 := tkd_lt (B := B) (g := g) (m := m) (p := p)
    have hk2 := tkx_le (B := B) (g := g) (m := m) (p := p) hp9
    have hk3 := tka_le (B := B) (g := g) (m := m) (p := p) hp9 hB.2.2.1
    have hk4 := tkv_ltc (p := p) hB hp9
    have hk5 := tkw_lt (B := B) (g := g) (m := m) (p := p)
    refine lv_iconst (v := 1) hx hb dX7_readPlain_21 (by decide) ?_
    exact W.zret (v := 1) hx hb hr rfl (fun t ht hW => ⟨⟨1, (st2, sl3, so4), rfl, ⟨hG, hO, hF, Or.inl (⟨p, rfl, hT, by show st2 1 13 = st 1 13; rw [hf5], by show st2 (20 + 4 * 1) 4 = st (20 + 4 * 1) 4; rw [hf7], fun o => sPl_o (by omega)⟩)⟩, xB.of ht hP⟩, hS.F ht⟩) hS.2.2 dX7_readPlain_22
  · have c1 : ¬ vj = 16 := fun hh => c1 ((EV.eqw hEv (i := vj) (j := 16) (by omega) (by omega)).mpr hh)
    refine lv_aload_n hx hb dX7_readPlain_7 rfl (lv_at hl 3 rfl) ?_
    refine va_gets (v := .ref (ad 17)) hx hb (EV.word hEv (i := 17) (by decide)) hS hown (hts _ mm_X7_readPlain_2) (fun _ hh => hh) dX7_readPlain_8 ?_
    refine lv_acmp_ne (rx := (some (ad vj))) (ry := (some (ad 17))) (tgt := 23) hx hb dX7_readPlain_11 (by decide) (fun c2 => ?_) (fun c2 => ?_)
    · have c2 : ¬ vj = 17 := fun hh => c2 ((EV.eqw hEv (i := vj) (j := 17) (by omega) (by omega)).mpr hh)
      refine lv_aload_n hx hb dX7_readPlain_23 rfl (lv_at hl 3 rfl) ?_
      refine va_gets (v := .ref (ad 18)) hx hb (EV.word hEv (i := 18) (by decide)) hS hown (hts _ mm_X7_readPlain_3) (fun _ hh => hh) dX7_readPlain_24 ?_
      refine lv_acmp_eq (rx := (some (ad vj))) (ry := (some (ad 18))) (tgt := 37) hx hb dX7_readPlain_27 (by decide) (fun c3 => ?_) (fun c3 => ?_)
      · have c3 : vj = 18 := (EV.eqw hEv (i := vj) (j := 18) (by omega) (by omega)).mp c3
        refine lv_aload_n hx hb dX7_readPlain_37 rfl (lv_at hl 1 rfl) ?_
        refine lv_aload_n hx hb dX7_readPlain_38 rfl (lv_at hl 2 rfl) ?_
        refine lv_aload_n hx hb dX7_readPlain_39 rfl (lv_at hl 3 rfl) ?_
        refine va_gets (v := .ref (ad 19)) hx hb (EV.word hEv (i := 19) (by decide)) hS hown (hts _ mm_X7_readPlain_4) (fun _ hh => hh) dX7_readPlain_40 ?_
        refine lv_acmp_ne (rx := (some (ad vj))) (ry := (some (ad 19))) (tgt := 50) hx hb dX7_readPlain_43 (by decide) (fun _ => ?_) (fun hh => absurd ((EV.eqw hEv (i := vj) (j := 19) (by omega) (by omega)).mp hh) (by omega))
        refine lv_iconst (v := 1) hx hb dX7_readPlain_50 (by decide) ?_
        refine va_calli (va_runV (As := [.ref (A (36 + 20 * 0)), .int 1]) (rest := []) ⟨hx, hb, hml, hown, hts⟩ (y_takeNamem1 l dC dI ad E hEE A C nb _ hN st sl so B g m p c nm hG.1 hO.1 (CBt.fr hB hF) hT hR) (cwV 2 hts gX7_readPlain_X8_takeNamed rfl rfl rfl (by decide +kernel) ⟨Nat.le_of_ble_eq_true rfl, Nat.le_of_ble_eq_true rfl⟩) ⟨fun a U g mk q => ⟨q.1, xPre.blind hEE q.2⟩, va_recv hK hP (ci := 9) (q0 := 1) rfl (xw_is (r := 1) (by omega) (xc_fix (r := 1) (by omega))), fun U hU hW => ⟨rfl, xPre.of hEE hP hK hE hS hU hW⟩⟩ rfl rfl hl.1 rfl (lv_room (Nat.le_of_ble_eq_true rfl)) dX7_readPlain_51 ⟨Nat.le_of_ble_eq_true rfl, Nat.le_of_ble_eq_true rfl⟩) hS (fun q _ h => XA.le hS.1 q h) (XA.le hS.1) (fun r8 x t H locs ht hvm hw hB9 _ _ hS => ?_)
        have hP := xB.at ht hB9
        clear hB9 ht hvm
        obtain ⟨st9, sl10, so11⟩ := x
        obtain ⟨hGst9, hOst9, hFst9, hw⟩ := hw
        dsimp only at hGst9 hOst9 hFst9 hw
        have hO : OG ad [2, 4] so so11 := hO.tr hOst9 (by decide)
        have hP : va_P (dC, dI) vwCl (xw A C nb st9 sl10 so11) _ := hP
        have hG : XG [1, 2, 3, 4, 5, 6, 7, 12, 13, 14, 15] st st9 := hG.tr hGst9 (by decide)
        have hF : FX 5 st sl so st9 sl10 so11 := hF.tr hFst9 (by omega) (by omega)
        have hR : CN c nm st9 sl10 0 := hR.fr0 hFst9
        rcases hw with ⟨n12, rfl, hf13, hf14, hT, hf15, hf16⟩ | ⟨n17, n18, rfl, hf19, hf20, hf21, hf22⟩
        · have hp9 := hT.2.2.2.2.2.2
          have hk1 := tkd_lt (B := B) (g := g) (m := m) (p := (tkx B g m p))
          have hk2 := tkx_le (B := B) (g := g) (m := m) (p := (tkx B g m p)) hp9
          have hk3 := tka_le (B := B) (g := g) (m := m) (p := (tkx B g m p)) hp9 hB.2.2.1
          have hk4 := tkv_ltc (p := (tkx B g m p)) hB hp9
          have hk5 := tkw_lt (B := B) (g := g) (m := m) (p := (tkx B g m p))
          refine lv_istore (lv' := [(4, .int 1), (0, .ref (A (20 + 4 * 1))), (1, .ref (A 1)), (2, .ref (A (36 + 20 * 0))), (3, .ref (ad vj))]) hx hb dX7_readPlain_54 hl (by decide) rfl (fun ls hl => ?_)
          refine lv_aload_n hx hb dX7_readPlain_56 rfl (lv_at hl 1 rfl) ?_
          refine lv_aload_n hx hb dX7_readPlain_57 rfl (lv_at hl 4 rfl) ?_
          refine lv_iconst (v := 0) hx hb dX7_readPlain_58 (by decide) ?_
          refine lv_aload_n hx hb dX7_readPlain_59 rfl (lv_at hl 2 rfl) ?_
          refine va_getN (host := "OffTheLead") (D := (dC, dI)) (ci := 9) (v := .int (st9 1 9)) (C := RX8) (T := TX8) (N := 15) hx hb hts ii_X7_readPlain_X8 hown hK hP 1 (xw_is (r := 1) (by omega) (xc_fix (r := 1) (by omega))) rfl 9 (by decide) (va_Nw.use rfl (nf_X7_97 hEv)) (fun _ hh => hh) rfl dX7_readPlain_60 ?_
          refine zz_top (v := (nI n12)) (by show st9 1 9 = _; rw [hf14]) ?_
          refine va_callv (va_runV (As := [.ref (ad vj), .int 0, .int (nI n12)]) (rest := []) ⟨hx, hb, hml, hown, hts⟩ (y_addT l dC dI ad E hEE A C nb _ hN st9 sl10 so11 vj 0 (nI n12) B g m (tkx B g m p) (by omega) hG.1 hO.1 (CBt.fr hB hF) hT) (cwV 3 hts gX7_readPlain_X7_add rfl rfl rfl (by decide +kernel) ⟨Nat.le_of_ble_eq_true rfl, Nat.le_of_ble_eq_true rfl⟩) ⟨fun a U g mk q => ⟨q.1, xPre.blind hEE q.2⟩, va_recv hK hP (ci := 8) (q0 := (20 + 4 * 1)) rfl (xw_is (r := (20 + 4 * 1)) (by omega) (xc_sn (q := 1) (o := 0) (by omega) (by omega))), fun U hU hW => ⟨rfl, xPre.of hEE hP hK hE hS hU hW⟩⟩ rfl rfl hl.1 rfl (lv_room (Nat.le_of_ble_eq_true rfl)) dX7_readPlain_63 ⟨Nat.le_of_ble_eq_true rfl, Nat.le_of_ble_eq_true rfl⟩) hS (fun q _ h => XA.le hS.1 q h) (XA.le hS.1) (fun x t H locs ht hvm hw hB9 _ _ hS => ?_)
          have hP := xB.at ht hB9
          clear hB9 ht hvm
          obtain ⟨st24, sl25, so26⟩ := x
          obtain ⟨hGst24, hOst24, hFst24, hw⟩ := hw
          dsimp only at hGst24 hOst24 hFst24 hw
          have hO : OG ad [2, 4] so so26 := hO.tr hOst24 (by decide)
          have hP : va_P (dC, dI) vwCl (xw A C nb st24 sl25 so26) _ := hP
          have hG : XG [1, 2, 3, 4, 5, 6, 7, 12, 13, 14, 15] st st24 := hG.tr hGst24 (by decide)
          have hF : FX 5 st sl so st24 sl25 so26 := hF.tr hFst24 (by omega) (by omega)
          have hR : CN c nm st24 sl25 0 := hR.fr0 hFst24
          obtain ⟨hf27, hf28, hf29, hT⟩ := hw
          have hp9 := hT.2.2.2.2.2.2
          have hk1 := tkd_lt (B := B) (g := g) (m := m) (p := (tkx B g m p))
          have hk2 := tkx_le (B := B) (g := g) (m := m) (p := (tkx B g m p)) hp9
          have hk3 := tka_le (B := B) (g := g) (m := m) (p := (tkx B g m p)) hp9 hB.2.2.1
          have hk4 := tkv_ltc (p := (tkx B g m p)) hB hp9
          have hk5 := tkw_lt (B := B) (g := g) (m := m) (p := (tkx B g m p))
          refine lv_iload hx hb dX7_readPlain_66 (lv_at hl 0 rfl) ?_
          exact W.zret (v := 1) hx hb hr rfl (fun t ht hW => ⟨⟨1, (st24, sl25, so26), rfl, ⟨hG, hO, hF, Or.inl (⟨(tkx B g m p), rfl, hT, by show st24 1 13 = st 1 13; rw [hf27, hf15], by show st24 (20 + 4 * 1) 4 = st (20 + 4 * 1) 4; rw [hf29, (hFst9 (20 + 4 * 1) 4 (by decide)).1], fun o => (sPl_m (by omega)).trans (sNam_y hf16)⟩)⟩, xB.of ht hP⟩, hS.F ht⟩) hS.2.2 dX7_readPlain_68
        · refine lv_istore (lv' := [(4, .int 0), (0, .ref (A (20 + 4 * 1))), (1, .ref (A 1)), (2, .ref (A (36 + 20 * 0))), (3, .ref (ad vj))]) hx hb dX7_readPlain_54 hl (by decide) rfl (fun ls hl => ?_)
          refine lv_aload_n hx hb dX7_readPlain_56 rfl (lv_at hl 1 rfl) ?_
          refine lv_aload_n hx hb dX7_readPlain_57 rfl (lv_at hl 4 rfl) ?_
          refine lv_iconst (v := 0) hx hb dX7_readPlain_58 (by decide) ?_
          refine lv_aload_n hx hb dX7_readPlain_59 rfl (lv_at hl 2 rfl) ?_
          refine va_getN (host := "OffTheLead") (D := (dC, dI)) (ci := 9) (v := .int (st9 1 9)) (C := RX8) (T := TX8) (N := 15) hx hb hts ii_X7_readPlain_X8 hown hK hP 1 (xw_is (r := 1) (by omega) (xc_fix (r := 1) (by omega))) rfl 9 (by decide) (va_Nw.use rfl (nf_X7_97 hEv)) (fun _ hh => hh) rfl dX7_readPlain_60 ?_
          obtain ⟨z30, ez30⟩ : ∃ y : Int32, st9 1 9 = y := ⟨_, rfl⟩
          refine zz_top (v := z30) (by exact ez30) ?_
          refine va_callv (va_runV (As := [.ref (ad vj), .int 0, .int z30]) (rest := []) ⟨hx, hb, hml, hown, hts⟩ (y_addN l dC dI ad E hEE A C nb _ hN st9 sl10 so11 vj 0 z30 (by omega) hG.1 hO.1 ) (cwV 3 hts gX7_readPlain_X7_add rfl rfl rfl (by decide +kernel) ⟨Nat.le_of_ble_eq_true rfl, Nat.le_of_ble_eq_true rfl⟩) ⟨fun a U g mk q => ⟨q.1, xPre.blind hEE q.2⟩, va_recv hK hP (ci := 8) (q0 := (20 + 4 * 1)) rfl (xw_is (r := (20 + 4 * 1)) (by omega) (xc_sn (q := 1) (o := 0) (by omega) (by omega))), fun U hU hW => ⟨rfl, xPre.of hEE hP hK hE hS hU hW⟩⟩ rfl rfl hl.1 rfl (lv_room (Nat.le_of_ble_eq_true rfl)) dX7_readPlain_63 ⟨Nat.le_of_ble_eq_true rfl, Nat.le_of_ble_eq_true rfl⟩) hS (fun q _ h => XA.le hS.1 q h) (XA.le hS.1) (fun x t H locs ht hvm hw hB9 _ _ hS => ?_)
          have hP := xB.at ht hB9
          clear hB9 ht hvm
          obtain ⟨st32, sl33, so34⟩ := x
          obtain ⟨hGst32, hOst32, hFst32, hw⟩ := hw
          dsimp only at hGst32 hOst32 hFst32 hw
          have hO : OG ad [2, 4] so so34 := hO.tr hOst32 (by decide)
          have hP : va_P (dC, dI) vwCl (xw A C nb st32 sl33 so34) _ := hP
          have hG : XG [1, 2, 3, 4, 5, 6, 7, 12, 13, 14, 15] st st32 := hG.tr hGst32 (by decide)
          have hF : FX 5 st sl so st32 sl33 so34 := hF.tr hFst32 (by omega) (by omega)
          have hR : CN c nm st32 sl33 0 := hR.fr0 hFst32
          obtain ⟨hf35, hf36, hf37⟩ := hw
          refine lv_iload hx hb dX7_readPlain_66 (lv_at hl 0 rfl) ?_
          exact W.zret (v := 0) hx hb hr rfl (fun t ht hW => ⟨⟨0, (st32, sl33, so34), rfl, ⟨hG, hO, hF, Or.inr (⟨n17, n18, rfl, by show st32 1 13 = _; rw [hf35, hf19], by show st32 1 14 = _; rw [hf36, hf20], hf21, fun o => (sPl_m (by omega)).trans (sNam_f hf22 (by omega))⟩)⟩, xB.of ht hP⟩, hS.F ht⟩) hS.2.2 dX7_readPlain_68
      · have c3 : ¬ vj = 18 := fun hh => c3 ((EV.eqw hEv (i := vj) (j := 18) (by omega) (by omega)).mpr hh)
        refine lv_aload_n hx hb dX7_readPlain_30 rfl (lv_at hl 3 rfl) ?_
        refine va_gets (v := .ref (ad 19)) hx hb (EV.word hEv (i := 19) (by decide)) hS hown (hts _ mm_X7_readPlain_4) (fun _ hh => hh) dX7_readPlain_31 ?_
        refine lv_acmp_ne (rx := (some (ad vj))) (ry := (some (ad 19))) (tgt := 69) hx hb dX7_readPlain_34 (by decide) (fun c5 => ?_) (fun c5 => ?_)
        · have c5 : ¬ vj = 19 := fun hh => c5 ((EV.eqw hEv (i := vj) (j := 19) (by omega) (by omega)).mpr hh)
          refine lv_aload_n hx hb dX7_readPlain_69 rfl (lv_at hl 1 rfl) ?_
          refine va_getN (host := "OffTheLead") (D := (dC, dI)) (ci := 9) (v := .int (st 1 6)) (C := RX8) (T := TX8) (N := 15) hx hb hts ii_X7_readPlain_X8 hown hK hP 1 (xw_is (r := 1) (by omega) (xc_fix (r := 1) (by omega))) rfl 6 (by decide) (va_Nw.use rfl (nf_X7_100 hEv)) (fun _ hh => hh) rfl dX7_readPlain_70 ?_
          obtain ⟨z38, ez38⟩ : ∃ y : Int32, st 1 6 = y := ⟨_, rfl⟩
          refine zz_top (v := z38) (by exact ez38) ?_
          refine lv_istore (lv' := [(4, .int z38), (0, .ref (A (20 + 4 * 1))), (1, .ref (A 1)), (2, .ref (A (36 + 20 * 0))), (3, .ref (ad vj))]) hx hb dX7_readPlain_73 hl (by decide) rfl (fun ls hl => ?_)
          refine lv_aload_n hx hb dX7_readPlain_75 rfl (lv_at hl 2 rfl) ?_
          refine lv_bipush (v := 60) hx hb dX7_readPlain_76 (by decide) ?_
          refine va_calli (va_runV (As := [.int 60]) (rest := []) ⟨hx, hb, hml, hown, hts⟩ (y_looksAtMark60 l dC dI ad E hEE A C nb _ hN st sl so B g m p hG.1 (CBt.fr hB hF) hT) (cwV 1 hts gX7_readPlain_X8_looksAtMark rfl rfl rfl (by decide +kernel) ⟨Nat.le_of_ble_eq_true rfl, Nat.le_of_ble_eq_true rfl⟩) ⟨fun a U g mk q => ⟨q.1, xPre.blind hEE q.2⟩, va_recv hK hP (ci := 9) (q0 := 1) rfl (xw_is (r := 1) (by omega) (xc_fix (r := 1) (by omega))), fun U hU hW => ⟨rfl, xPre.of hEE hP hK hE hS hU hW⟩⟩ rfl rfl hl.1 rfl (lv_room (Nat.le_of_ble_eq_true rfl)) dX7_readPlain_78 ⟨Nat.le_of_ble_eq_true rfl, Nat.le_of_ble_eq_true rfl⟩) hS (fun q _ h => XA.le hS.1 q h) (XA.le hS.1) (fun r39 x t H locs ht hvm hw hB9 _ _ hS => ?_)
          have hP := xB.at ht hB9
          clear hB9 ht hvm
          obtain ⟨rfl, hw⟩ := hw
          have hP : va_P (dC, dI) vwCl (xw A C nb st sl so) _ := hP
          rcases hw with ⟨rfl, hf40, hf41⟩ | ⟨rfl, hf42⟩
          · refine lv_if_ne (tgt := 108) hx hb dX7_readPlain_81 (by decide) (fun _ => ?_) (fun cc => absurd cc (by decide))
            refine lv_aload_n hx hb dX7_readPlain_108 rfl (lv_at hl 2 rfl) ?_
            refine va_callv (va_runV (As := []) (rest := []) ⟨hx, hb, hml, hown, hts⟩ (y_X8_step l dC dI ad E hEE A C nb _ hN st sl so B g m (tkx B g m p) hG.1 hO.1 (CBt.fr hB hF) hT.1 hk2.2) (cwV 0 hts gX7_readPlain_X8_step rfl rfl rfl (by decide +kernel) ⟨Nat.le_of_ble_eq_true rfl, Nat.le_of_ble_eq_true rfl⟩) ⟨fun a U g mk q => ⟨q.1, xPre.blind hEE q.2⟩, va_recv hK hP (ci := 9) (q0 := 1) rfl (xw_is (r := 1) (by omega) (xc_fix (r := 1) (by omega))), fun U hU hW => ⟨rfl, xPre.of hEE hP hK hE hS hU hW⟩⟩ rfl rfl hl.1 rfl (lv_room (Nat.le_of_ble_eq_true rfl)) dX7_readPlain_109 ⟨Nat.le_of_ble_eq_true rfl, Nat.le_of_ble_eq_true rfl⟩) hS (fun q _ h => XA.le hS.1 q h) (XA.le hS.1) (fun x t H locs ht hvm hw hB9 _ _ hS => ?_)
            have hP := xB.at ht hB9
            clear hB9 ht hvm
            obtain ⟨st44, sl45, so46⟩ := x
            obtain ⟨hGst44, hOst44, hFst44, hw⟩ := hw
            dsimp only at hGst44 hOst44 hFst44 hw
            have hO : OG ad [2, 4] so so46 := hO.tr hOst44 (by decide)
            have hP : va_P (dC, dI) vwCl (xw A C nb st44 sl45 so46) _ := hP
            have hG : XG [1, 2, 3, 4, 5, 6, 7, 12, 13, 14, 15] st st44 := hG.tr hGst44 (by decide)
            have hF : FX 5 st sl so st44 sl45 so46 := hF.tr hFst44 (by omega) (by omega)
            have hR : CN c nm st44 sl45 0 := hR.fr0 hFst44
            have hT := hw
            have hp9 := hT.2.2.2.2.2.2
            have hk1 := tkd_lt (B := B) (g := g) (m := m) (p := (tkx B g m p))
            have hk2 := tkx_le (B := B) (g := g) (m := m) (p := (tkx B g m p)) hp9
            have hk3 := tka_le (B := B) (g := g) (m := m) (p := (tkx B g m p)) hp9 hB.2.2.1
            have hk4 := tkv_ltc (p := (tkx B g m p)) hB hp9
            have hk5 := tkw_lt (B := B) (g := g) (m := m) (p := (tkx B g m p))
            refine lv_aload_n hx hb dX7_readPlain_112 rfl (lv_at hl 2 rfl) ?_
            refine lv_iconst (v := 0) hx hb dX7_readPlain_113 (by decide) ?_
            refine lv_sipush (v := 999) hx hb dX7_readPlain_114 (by decide) ?_
            refine va_calli (va_runV (As := [.int 0, .int 999]) (rest := []) ⟨hx, hb, hml, hown, hts⟩ (y_X8_takeNumber l dC dI ad E hEE A C nb _ hN st44 sl45 so46 0 999 B g m (tkx B g m p) (by omega) (by omega) hG.1 hO.1 (CBt.fr hB hF) hT) (cwV 2 hts gX7_readPlain_X8_takeNumber rfl rfl rfl (by decide +kernel) ⟨Nat.le_of_ble_eq_true rfl, Nat.le_of_ble_eq_true rfl⟩) ⟨fun a U g mk q => ⟨q.1, xPre.blind hEE q.2⟩, va_recv hK hP (ci := 9) (q0 := 1) rfl (xw_is (r := 1) (by omega) (xc_fix (r := 1) (by omega))), fun U hU hW => ⟨rfl, xPre.of hEE hP hK hE hS hU hW⟩⟩ rfl rfl hl.1 rfl (lv_room (Nat.le_of_ble_eq_true rfl)) dX7_readPlain_117 ⟨Nat.le_of_ble_eq_true rfl, Nat.le_of_ble_eq_true rfl⟩) hS (fun q _ h => XA.le hS.1 q h) (XA.le hS.1) (fun r47 x t H locs ht hvm hw hB9 _ _ hS => ?_)
            have hP := xB.at ht hB9
            clear hB9 ht hvm
            obtain ⟨st48, sl49, so50⟩ := x
            obtain ⟨hGst48, hOst48, hFst48, hw⟩ := hw
            dsimp only at hGst48 hOst48 hFst48 hw
            have hO : OG ad [2, 4] so so50 := hO.tr hOst48 (by decide)
            have hP : va_P (dC, dI) vwCl (xw A C nb st48 sl49 so50) _ := hP
            have hG : XG [1, 2, 3, 4, 5, 6, 7, 12, 13, 14, 15] st st48 := hG.tr hGst48 (by decide)
            have hF : FX 5 st sl so st48 sl49 so50 := hF.tr hFst48 (by omega) (by omega)
            have hR : CN c nm st48 sl49 0 := hR.fr0 hFst48
            rcases hw with ⟨rfl, hf51, hf52, hf53, hT, hf54, hf55⟩ | ⟨n56, n57, rfl, hf58, hf59, hf60, hf61⟩
            · have hp9 := hT.2.2.2.2.2.2
              have hk1 := tkd_lt (B := B) (g := g) (m := m) (p := (tkx B g m (tkx B g m p)))
              have hk2 := tkx_le (B := B) (g := g) (m := m) (p := (tkx B g m (tkx B g m p))) hp9
              have hk3 := tka_le (B := B) (g := g) (m := m) (p := (tkx B g m (tkx B g m p))) hp9 hB.2.2.1
              have hk4 := tkv_ltc (p := (tkx B g m (tkx B g m p))) hB hp9
              have hk5 := tkw_lt (B := B) (g := g) (m := m) (p := (tkx B g m (tkx B g m p)))
              refine lv_istore (lv' := [(5, .int 1), (4, .int z38), (0, .ref (A (20 + 4 * 1))), (1, .ref (A 1)), (2, .ref (A (36 + 20 * 0))), (3, .ref (ad vj))]) hx hb dX7_readPlain_120 hl (by decide) rfl (fun ls hl => ?_)
              refine lv_aload_n hx hb dX7_readPlain_122 rfl (lv_at hl 2 rfl) ?_
              refine lv_aload_n hx hb dX7_readPlain_123 rfl (lv_at hl 5 rfl) ?_
              refine lv_iload hx hb dX7_readPlain_124 (lv_at hl 1 rfl) ?_
              refine lv_aload_n hx hb dX7_readPlain_126 rfl (lv_at hl 3 rfl) ?_
              refine va_getN (host := "OffTheLead") (D := (dC, dI)) (ci := 9) (v := .int (st48 1 9)) (C := RX8) (T := TX8) (N := 15) hx hb hts ii_X7_readPlain_X8 hown hK hP 1 (xw_is (r := 1) (by omega) (xc_fix (r := 1) (by omega))) rfl 9 (by decide) (va_Nw.use rfl (nf_X7_97 hEv)) (fun _ hh => hh) rfl dX7_readPlain_127 ?_
              refine zz_top (v := (nI (tkv B g (tkx B g m p)))) (by show st48 1 9 = _; rw [hf53]) ?_
              refine va_callv (va_runV (As := [.ref (ad vj), .int z38, .int (nI (tkv B g (tkx B g m p)))]) (rest := []) ⟨hx, hb, hml, hown, hts⟩ (y_addT l dC dI ad E hEE A C nb _ hN st48 sl49 so50 vj z38 (nI (tkv B g (tkx B g m p))) B g m (tkx B g m (tkx B g m p)) (by omega) hG.1 hO.1 (CBt.fr hB hF) hT) (cwV 3 hts gX7_readPlain_X7_add rfl rfl rfl (by decide +kernel) ⟨Nat.le_of_ble_eq_true rfl, Nat.le_of_ble_eq_true rfl⟩) ⟨fun a U g mk q => ⟨q.1, xPre.blind hEE q.2⟩, va_recv hK hP (ci := 8) (q0 := (20 + 4 * 1)) rfl (xw_is (r := (20 + 4 * 1)) (by omega) (xc_sn (q := 1) (o := 0) (by omega) (by omega))), fun U hU hW => ⟨rfl, xPre.of hEE hP hK hE hS hU hW⟩⟩ rfl rfl hl.1 rfl (lv_room (Nat.le_of_ble_eq_true rfl)) dX7_readPlain_130 ⟨Nat.le_of_ble_eq_true rfl, Nat.le_of_ble_eq_true rfl⟩) hS (fun q _ h => XA.le hS.1 q h) (XA.le hS.1) (fun x t H locs ht hvm hw hB9 _ _ hS => ?_)
              have hP := xB.at ht hB9
              clear hB9 ht hvm
              obtain ⟨st63, sl64, so65⟩ := x
              obtain ⟨hGst63, hOst63, hFst63, hw⟩ := hw
              dsimp only at hGst63 hOst63 hFst63 hw
              have hO : OG ad [2, 4] so so65 := hO.tr hOst63 (by decide)
              have hP : va_P (dC, dI) vwCl (xw A C nb st63 sl64 so65) _ := hP
              have hG : XG [1, 2, 3, 4, 5, 6, 7, 12, 13, 14, 15] st st63 := hG.tr hGst63 (by decide)
              have hF : FX 5 st sl so st63 sl64 so65 := hF.tr hFst63 (by omega) (by omega)
              have hR : CN c nm st63 sl64 0 := hR.fr0 hFst63
              obtain ⟨hf66, hf67, hf68, hT⟩ := hw
              have hp9 := hT.2.2.2.2.2.2
              have hk1 := tkd_lt (B := B) (g := g) (m := m) (p := (tkx B g m (tkx B g m p)))
              have hk2 := tkx_le (B := B) (g := g) (m := m) (p := (tkx B g m (tkx B g m p))) hp9
              have hk3 := tka_le (B := B) (g := g) (m := m) (p := (tkx B g m (tkx B g m p))) hp9 hB.2.2.1
              have hk4 := tkv_ltc (p := (tkx B g m (tkx B g m p))) hB hp9
              have hk5 := tkw_lt (B := B) (g := g) (m := m) (p := (tkx B g m (tkx B g m p)))
              refine lv_iload hx hb dX7_readPlain_133 (lv_at hl 0 rfl) ?_
              exact W.zret (v := 1) hx hb hr rfl (fun t ht hW => ⟨⟨1, (st63, sl64, so65), rfl, ⟨hG, hO, hF, Or.inl (⟨(tkx B g m (tkx B g m p)), rfl, hT, by show st63 1 13 = st 1 13; rw [hf66, hf54, (hFst44 1 13 (by decide)).1], by show st63 (20 + 4 * 1) 4 = st (20 + 4 * 1) 4; rw [hf68, (hFst48 (20 + 4 * 1) 4 (by decide)).1, (hFst44 (20 + 4 * 1) 4 (by decide)).1], fun o => (sPl_c (by omega)).trans (sCmp_y (by omega) hf55)⟩)⟩, xB.of ht hP⟩, hS.F ht⟩) hS.2.2 dX7_readPlain_135
            · refine lv_istore (lv' := [(5, .int 0), (4, .int z38), (0, .ref (A (20 + 4 * 1))), (1, .ref (A 1)), (2, .ref (A (36 + 20 * 0))), (3, .ref (ad vj))]) hx hb dX7_readPlain_120 hl (by decide) rfl (fun ls hl => ?_)
              refine lv_aload_n hx hb dX7_readPlain_122 rfl (lv_at hl 2 rfl) ?_
              refine lv_aload_n hx hb dX7_readPlain_123 rfl (lv_at hl 5 rfl) ?_
              refine lv_iload hx hb dX7_readPlain_124 (lv_at hl 1 rfl) ?_
              refine lv_aload_n hx hb dX7_readPlain_126 rfl (lv_at hl 3 rfl) ?_
              refine va_getN (host := "OffTheLead") (D := (dC, dI)) (ci := 9) (v := .int (st48 1 9)) (C := RX8) (T := TX8) (N := 15) hx hb hts ii_X7_readPlain_X8 hown hK hP 1 (xw_is (r := 1) (by omega) (xc_fix (r := 1) (by omega))) rfl 9 (by decide) (va_Nw.use rfl (nf_X7_97 hEv)) (fun _ hh => hh) rfl dX7_readPlain_127 ?_
              obtain ⟨z69, ez69⟩ : ∃ y : Int32, st48 1 9 = y := ⟨_, rfl⟩
              refine zz_top (v := z69) (by exact ez69) ?_
              refine va_callv (va_runV (As := [.ref (ad vj), .int z38, .int z69]) (rest := []) ⟨hx, hb, hml, hown, hts⟩ (y_addN l dC dI ad E hEE A C nb _ hN st48 sl49 so50 vj z38 z69 (by omega) hG.1 hO.1 ) (cwV 3 hts gX7_readPlain_X7_add rfl rfl rfl (by decide +kernel) ⟨Nat.le_of_ble_eq_true rfl, Nat.le_of_ble_eq_true rfl⟩) ⟨fun a U g mk q => ⟨q.1, xPre.blind hEE q.2⟩, va_recv hK hP (ci := 8) (q0 := (20 + 4 * 1)) rfl (xw_is (r := (20 + 4 * 1)) (by omega) (xc_sn (q := 1) (o := 0) (by omega) (by omega))), fun U hU hW => ⟨rfl, xPre.of hEE hP hK hE hS hU hW⟩⟩ rfl rfl hl.1 rfl (lv_room (Nat.le_of_ble_eq_true rfl)) dX7_readPlain_130 ⟨Nat.le_of_ble_eq_true rfl, Nat.le_of_ble_eq_true rfl⟩) hS (fun q _ h => XA.le hS.1 q h) (XA.le hS.1) (fun x t H locs ht hvm hw hB9 _ _ hS => ?_)
              have hP := xB.at ht hB9
              clear hB9 ht hvm
              obtain ⟨st71, sl72, so73⟩ := x
              obtain ⟨hGst71, hOst71, hFst71, hw⟩ := hw
              dsimp only at hGst71 hOst71 hFst71 hw
              have hO : OG ad [2, 4] so so73 := hO.tr hOst71 (by decide)
              have hP : va_P (dC, dI) vwCl (xw A C nb st71 sl72 so73) _ := hP
              have hG : XG [1, 2, 3, 4, 5, 6, 7, 12, 13, 14, 15] st st71 := hG.tr hGst71 (by decide)
              have hF : FX 5 st sl so st71 sl72 so73 := hF.tr hFst71 (by omega) (by omega)
              have hR : CN c nm st71 sl72 0 := hR.fr0 hFst71
              obtain ⟨hf74, hf75, hf76⟩ := hw
              refine lv_iload hx hb dX7_readPlain_133 (lv_at hl 0 rfl) ?_
              exact W.zret (v := 0) hx hb hr rfl (fun t ht hW => ⟨⟨0, (st71, sl72, so73), rfl, ⟨hG, hO, hF, Or.inr (⟨n56, n57, rfl, by show st71 1 13 = _; rw [hf74, hf58], by show st71 1 14 = _; rw [hf75, hf59], hf60, fun o => (sPl_c (by omega)).trans (sCmp_f (by omega) hf61 (by omega))⟩)⟩, xB.of ht hP⟩, hS.F ht⟩) hS.2.2 dX7_readPlain_135
          · refine lv_if_ne (tgt := 108) hx hb dX7_readPlain_81 (by decide) (fun cc => absurd (by decide) cc) (fun _ => ?_)
            refine lv_aload_n hx hb dX7_readPlain_84 rfl (lv_at hl 2 rfl) ?_
            refine lv_bipush (v := 61) hx hb dX7_readPlain_85 (by decide) ?_
            refine va_calli (va_runV (As := [.int 61]) (rest := []) ⟨hx, hb, hml, hown, hts⟩ (y_looksAtMark61 l dC dI ad E hEE A C nb _ hN st sl so B g m p hG.1 (CBt.fr hB hF) hT) (cwV 1 hts gX7_readPlain_X8_looksAtMark rfl rfl rfl (by decide +kernel) ⟨Nat.le_of_ble_eq_true rfl, Nat.le_of_ble_eq_true rfl⟩) ⟨fun a U g mk q => ⟨q.1, xPre.blind hEE q.2⟩, va_recv hK hP (ci := 9) (q0 := 1) rfl (xw_is (r := 1) (by omega) (xc_fix (r := 1) (by omega))), fun U hU hW => ⟨rfl, xPre.of hEE hP hK hE hS hU hW⟩⟩ rfl rfl hl.1 rfl (lv_room (Nat.le_of_ble_eq_true rfl)) dX7_readPlain_87 ⟨Nat.le_of_ble_eq_true rfl, Nat.le_of_ble_eq_true rfl⟩) hS (fun q _ h => XA.le hS.1 q h) (XA.le hS.1) (fun r77 x t H locs ht hvm hw hB9 _ _ hS => ?_)
            have hP := xB.at ht hB9
            clear hB9 ht hvm
            obtain ⟨rfl, hw⟩ := hw
            have hP : va_P (dC, dI) vwCl (xw A C nb st sl so) _ := hP
            rcases hw with ⟨rfl, hf78, hf79⟩ | ⟨rfl, hf80⟩
            · refine lv_if_ne (tgt := 108) hx hb dX7_readPlain_90 (by decide) (fun _ => ?_) (fun cc => absurd cc (by decide))
              refine lv_aload_n hx hb dX7_readPlain_108 rfl (lv_at hl 2 rfl) ?_
              refine va_callv (va_runV (As := []) (rest := []) ⟨hx, hb, hml, hown, hts⟩ (y_X8_step l dC dI ad E hEE A C nb _ hN st sl so B g m (tkx B g m p) hG.1 hO.1 (CBt.fr hB hF) hT.1 hk2.2) (cwV 0 hts gX7_readPlain_X8_step rfl rfl rfl (by decide +kernel) ⟨Nat.le_of_ble_eq_true rfl, Nat.le_of_ble_eq_true rfl⟩) ⟨fun a U g mk q => ⟨q.1, xPre.blind hEE q.2⟩, va_recv hK hP (ci := 9) (q0 := 1) rfl (xw_is (r := 1) (by omega) (xc_fix (r := 1) (by omega))), fun U hU hW => ⟨rfl, xPre.of hEE hP hK hE hS hU hW⟩⟩ rfl rfl hl.1 rfl (lv_room (Nat.le_of_ble_eq_true rfl)) dX7_readPlain_109 ⟨Nat.le_of_ble_eq_true rfl, Nat.le_of_ble_eq_true rfl⟩) hS (fun q _ h => XA.le hS.1 q h) (XA.le hS.1) (fun x t H locs ht hvm hw hB9 _ _ hS => ?_)
              have hP := xB.at ht hB9
              clear hB9 ht hvm
              obtain ⟨st82, sl83, so84⟩ := x
              obtain ⟨hGst82, hOst82, hFst82, hw⟩ := hw
              dsimp only at hGst82 hOst82 hFst82 hw
              have hO : OG ad [2, 4] so so84 := hO.tr hOst82 (by decide)
              have hP : va_P (dC, dI) vwCl (xw A C nb st82 sl83 so84) _ := hP
              have hG : XG [1, 2, 3, 4, 5, 6, 7, 12, 13, 14, 15] st st82 := hG.tr hGst82 (by decide)
              have hF : FX 5 st sl so st82 sl83 so84 := hF.tr hFst82 (by omega) (by omega)
              have hR : CN c nm st82 sl83 0 := hR.fr0 hFst82
              have hT := hw
              have hp9 := hT.2.2.2.2.2.2
              have hk1 := tkd_lt (B := B) (g := g) (m := m) (p := (tkx B g m p))
              have hk2 := tkx_le (B := B) (g := g) (m := m) (p := (tkx B g m p)) hp9
              have hk3 := tka_le (B := B) (g := g) (m := m) (p := (tkx B g m p)) hp9 hB.2.2.1
              have hk4 := tkv_ltc (p := (tkx B g m p)) hB hp9
              have hk5 := tkw_lt (B := B) (g := g) (m := m) (p := (tkx B g m p))
              refine lv_aload_n hx hb dX7_readPlain_112 rfl (lv_at hl 2 rfl) ?_
              refine lv_iconst (v := 0) hx hb dX7_readPlain_113 (by decide) ?_
              refine lv_sipush (v := 999) hx hb dX7_readPlain_114 (by decide) ?_
              refine va_calli (va_runV (As := [.int 0, .int 999]) (rest := []) ⟨hx, hb, hml, hown, hts⟩ (y_X8_takeNumber l dC dI ad E hEE A C nb _ hN st82 sl83 so84 0 999 B g m (tkx B g m p) (by omega) (by omega) hG.1 hO.1 (CBt.fr hB hF) hT) (cwV 2 hts gX7_readPlain_X8_takeNumber rfl rfl rfl (by decide +kernel) ⟨Nat.le_of_ble_eq_true rfl, Nat.le_of_ble_eq_true rfl⟩) ⟨fun a U g mk q => ⟨q.1, xPre.blind hEE q.2⟩, va_recv hK hP (ci := 9) (q0 := 1) rfl (xw_is (r := 1) (by omega) (xc_fix (r := 1) (by omega))), fun U hU hW => ⟨rfl, xPre.of hEE hP hK hE hS hU hW⟩⟩ rfl rfl hl.1 rfl (lv_room (Nat.le_of_ble_eq_true rfl)) dX7_readPlain_117 ⟨Nat.le_of_ble_eq_true rfl, Nat.le_of_ble_eq_true rfl⟩) hS (fun q _ h => XA.le hS.1 q h) (XA.le hS.1) (fun r85 x t H locs ht hvm hw hB9 _ _ hS => ?_)
              have hP := xB.at ht hB9
              clear hB9 ht hvm
              obtain ⟨st86, sl87, so88⟩ := x
              obtain ⟨hGst86, hOst86, hFst86, hw⟩ := hw
              dsimp only at hGst86 hOst86 hFst86 hw
              have hO : OG ad [2, 4] so so88 := hO.tr hOst86 (by decide)
              have hP : va_P (dC, dI) vwCl (xw A C nb st86 sl87 so88) _ := hP
              have hG : XG [1, 2, 3, 4, 5, 6, 7, 12, 13, 14, 15] st st86 := hG.tr hGst86 (by decide)
              have hF : FX 5 st sl so st86 sl87 so88 := hF.tr hFst86 (by omega) (by omega)
              have hR : CN c nm st86 sl87 0 := hR.fr0 hFst86
              rcases hw with ⟨rfl, hf89, hf90, hf91, hT, hf92, hf93⟩ | ⟨n94, n95, rfl, hf96, hf97, hf98, hf99⟩
              · have hp9 := hT.2.2.2.2.2.2
                have hk1 := tkd_lt (B := B) (g := g) (m := m) (p := (tkx B g m (tkx B g m p)))
                have hk2 := tkx_le (B := B) (g := g) (m := m) (p := (tkx B g m (tkx B g m p))) hp9
                have hk3 := tka_le (B := B) (g := g) (m := m) (p := (tkx B g m (tkx B g m p))) hp9 hB.2.2.1
                have hk4 := tkv_ltc (p := (tkx B g m (tkx B g m p))) hB hp9
                have hk5 := tkw_lt (B := B) (g := g) (m := m) (p := (tkx B g m (tkx B g m p)))
                refine lv_istore (lv' := [(5, .int 1), (4, .int z38), (0, .ref (A (20 + 4 * 1))), (1, .ref (A 1)), (2, .ref (A (36 + 20 * 0))), (3, .ref (ad vj))]) hx hb dX7_readPlain_120 hl (by decide) rfl (fun ls hl => ?_)
                refine lv_aload_n hx hb dX7_readPlain_122 rfl (lv_at hl 2 rfl) ?_
                refine lv_aload_n hx hb dX7_readPlain_123 rfl (lv_at hl 5 rfl) ?_
                refine lv_iload hx hb dX7_readPlain_124 (lv_at hl 1 rfl) ?_
                refine lv_aload_n hx hb dX7_readPlain_126 rfl (lv_at hl 3 rfl) ?_
                refine va_getN (host := "OffTheLead") (D := (dC, dI)) (ci := 9) (v := .int (st86 1 9)) (C := RX8) (T := TX8) (N := 15) hx hb hts ii_X7_readPlain_X8 hown hK hP 1 (xw_is (r := 1) (by omega) (xc_fix (r := 1) (by omega))) rfl 9 (by decide) (va_Nw.use rfl (nf_X7_97 hEv)) (fun _ hh => hh) rfl dX7_readPlain_127 ?_
                refine zz_top (v := (nI (tkv B g (tkx B g m p)))) (by show st86 1 9 = _; rw [hf91]) ?_
                refine va_callv (va_runV (As := [.ref (ad vj), .int z38, .int (nI (tkv B g (tkx B g m p)))]) (rest := []) ⟨hx, hb, hml, hown, hts⟩ (y_addT l dC dI ad E hEE A C nb _ hN st86 sl87 so88 vj z38 (nI (tkv B g (tkx B g m p))) B g m (tkx B g m (tkx B g m p)) (by omega) hG.1 hO.1 (CBt.fr hB hF) hT) (cwV 3 hts gX7_readPlain_X7_add rfl rfl rfl (by decide +kernel) ⟨Nat.le_of_ble_eq_true rfl, Nat.le_of_ble_eq_true rfl⟩) ⟨fun a U g mk q => ⟨q.1, xPre.blind hEE q.2⟩, va_recv hK hP (ci := 8) (q0 := (20 + 4 * 1)) rfl (xw_is (r := (20 + 4 * 1)) (by omega) (xc_sn (q := 1) (o := 0) (by omega) (by omega))), fun U hU hW => ⟨rfl, xPre.of hEE hP hK hE hS hU hW⟩⟩ rfl rfl hl.1 rfl (lv_room (Nat.le_of_ble_eq_true rfl)) dX7_readPlain_130 ⟨Nat.le_of_ble_eq_true rfl, Nat.le_of_ble_eq_true rfl⟩) hS (fun q _ h => XA.le hS.1 q h) (XA.le hS.1) (fun x t H locs ht hvm hw hB9 _ _ hS => ?_)
                have hP := xB.at ht hB9
                clear hB9 ht hvm
                obtain ⟨st101, sl102, so103⟩ := x
                obtain ⟨hGst101, hOst101, hFst101, hw⟩ := hw
                dsimp only at hGst101 hOst101 hFst101 hw
                have hO : OG ad [2, 4] so so103 := hO.tr hOst101 (by decide)
                have hP : va_P (dC, dI) vwCl (xw A C nb st101 sl102 so103) _ := hP
                have hG : XG [1, 2, 3, 4, 5, 6, 7, 12, 13, 14, 15] st st101 := hG.tr hGst101 (by decide)
                have hF : FX 5 st sl so st101 sl102 so103 := hF.tr hFst101 (by omega) (by omega)
                have hR : CN c nm st101 sl102 0 := hR.fr0 hFst101
                obtain ⟨hf104, hf105, hf106, hT⟩ := hw
                have hp9 := hT.2.2.2.2.2.2
                have hk1 := tkd_lt (B := B) (g := g) (m := m) (p := (tkx B g m (tkx B g m p)))
                have hk2 := tkx_le (B := B) (g := g) (m := m) (p := (tkx B g m (tkx B g m p))) hp9
                have hk3 := tka_le (B := B) (g := g) (m := m) (p := (tkx B g m (tkx B g m p))) hp9 hB.2.2.1
                have hk4 := tkv_ltc (p := (tkx B g m (tkx B g m p))) hB hp9
                have hk5 := tkw_lt (B := B) (g := g) (m := m) (p := (tkx B g m (tkx B g m p)))
                refine lv_iload hx hb dX7_readPlain_133 (lv_at hl 0 rfl) ?_
                exact W.zret (v := 1) hx hb hr rfl (fun t ht hW => ⟨⟨1, (st101, sl102, so103), rfl, ⟨hG, hO, hF, Or.inl (⟨(tkx B g m (tkx B g m p)), rfl, hT, by show st101 1 13 = st 1 13; rw [hf104, hf92, (hFst82 1 13 (by decide)).1], by show st101 (20 + 4 * 1) 4 = st (20 + 4 * 1) 4; rw [hf106, (hFst86 (20 + 4 * 1) 4 (by decide)).1, (hFst82 (20 + 4 * 1) 4 (by decide)).1], fun o => (sPl_c (by omega)).trans (sCmp_y (by omega) hf93)⟩)⟩, xB.of ht hP⟩, hS.F ht⟩) hS.2.2 dX7_readPlain_135
              · refine lv_istore (lv' := [(5, .int 0), (4, .int z38), (0, .ref (A (20 + 4 * 1))), (1, .ref (A 1)), (2, .ref (A (36 + 20 * 0))), (3, .ref (ad vj))]) hx hb dX7_readPlain_120 hl (by decide) rfl (fun ls hl => ?_)
                refine lv_aload_n hx hb dX7_readPlain_122 rfl (lv_at hl 2 rfl) ?_
                refine lv_aload_n hx hb dX7_readPlain_123 rfl (lv_at hl 5 rfl) ?_
                refine lv_iload hx hb dX7_readPlain_124 (lv_at hl 1 rfl) ?_
                refine lv_aload_n hx hb dX7_readPlain_126 rfl (lv_at hl 3 rfl) ?_
                refine va_getN (host := "OffTheLead") (D := (dC, dI)) (ci := 9) (v := .int (st86 1 9)) (C := RX8) (T := TX8) (N := 15) hx hb hts ii_X7_readPlain_X8 hown hK hP 1 (xw_is (r := 1) (by omega) (xc_fix (r := 1) (by omega))) rfl 9 (by decide) (va_Nw.use rfl (nf_X7_97 hEv)) (fun _ hh => hh) rfl dX7_readPlain_127 ?_
                obtain ⟨z107, ez107⟩ : ∃ y : Int32, st86 1 9 = y := ⟨_, rfl⟩
                refine zz_top (v := z107) (by exact ez107) ?_
                refine va_callv (va_runV (As := [.ref (ad vj), .int z38, .int z107]) (rest := []) ⟨hx, hb, hml, hown, hts⟩ (y_addN l dC dI ad E hEE A C nb _ hN st86 sl87 so88 vj z38 z107 (by omega) hG.1 hO.1 ) (cwV 3 hts gX7_readPlain_X7_add rfl rfl rfl (by decide +kernel) ⟨Nat.le_of_ble_eq_true rfl, Nat.le_of_ble_eq_true rfl⟩) ⟨fun a U g mk q => ⟨q.1, xPre.blind hEE q.2⟩, va_recv hK hP (ci := 8) (q0 := (20 + 4 * 1)) rfl (xw_is (r := (20 + 4 * 1)) (by omega) (xc_sn (q := 1) (o := 0) (by omega) (by omega))), fun U hU hW => ⟨rfl, xPre.of hEE hP hK hE hS hU hW⟩⟩ rfl rfl hl.1 rfl (lv_room (Nat.le_of_ble_eq_true rfl)) dX7_readPlain_130 ⟨Nat.le_of_ble_eq_true rfl, Nat.le_of_ble_eq_true rfl⟩) hS (fun q _ h => XA.le hS.1 q h) (XA.le hS.1) (fun x t H locs ht hvm hw hB9 _ _ hS => ?_)
                have hP := xB.at ht hB9
                clear hB9 ht hvm
                obtain ⟨st109, sl110, so111⟩ := x
                obtain ⟨hGst109, hOst109, hFst109, hw⟩ := hw
                dsimp only at hGst109 hOst109 hFst109 hw
                have hO : OG ad [2, 4] so so111 := hO.tr hOst109 (by decide)
                have hP : va_P (dC, dI) vwCl (xw A C nb st109 sl110 so111) _ := hP
                have hG : XG [1, 2, 3, 4, 5, 6, 7, 12, 13, 14, 15] st st109 := hG.tr hGst109 (by decide)
                have hF : FX 5 st sl so st109 sl110 so111 := hF.tr hFst109 (by omega) (by omega)
                have hR : CN c nm st109 sl110 0 := hR.fr0 hFst109
                obtain ⟨hf112, hf113, hf114⟩ := hw
                refine lv_iload hx hb dX7_readPlain_133 (lv_at hl 0 rfl) ?_
                exact W.zret (v := 0) hx hb hr rfl (fun t ht hW => ⟨⟨0, (st109, sl110, so111), rfl, ⟨hG, hO, hF, Or.inr (⟨n94, n95, rfl, by show st109 1 13 = _; rw [hf112, hf96], by show st109 1 14 = _; rw [hf113, hf97], hf98, fun o => (sPl_c (by omega)).trans (sCmp_f (by omega) hf99 (by omega))⟩)⟩, xB.of ht hP⟩, hS.F ht⟩) hS.2.2 dX7_readPlain_135
            · refine lv_if_ne (tgt := 108) hx hb dX7_readPlain_90 (by decide) (fun cc => absurd (by decide) cc) (fun _ => ?_)
              refine lv_aload_n hx hb dX7_readPlain_93 rfl (lv_at hl 2 rfl) ?_
              refine lv_bipush (v := 62) hx hb dX7_readPlain_94 (by decide) ?_
              refine va_calli (va_runV (As := [.int 62]) (rest := []) ⟨hx, hb, hml, hown, hts⟩ (y_looksAtMark62 l dC dI ad E hEE A C nb _ hN st sl so B g m p hG.1 (CBt.fr hB hF) hT) (cwV 1 hts gX7_readPlain_X8_looksAtMark rfl rfl rfl (by decide +kernel) ⟨Nat.le_of_ble_eq_true rfl, Nat.le_of_ble_eq_true rfl⟩) ⟨fun a U g mk q => ⟨q.1, xPre.blind hEE q.2⟩, va_recv hK hP (ci := 9) (q0 := 1) rfl (xw_is (r := 1) (by omega) (xc_fix (r := 1) (by omega))), fun U hU hW => ⟨rfl, xPre.of hEE hP hK hE hS hU hW⟩⟩ rfl rfl hl.1 rfl (lv_room (Nat.le_of_ble_eq_true rfl)) dX7_readPlain_96 ⟨Nat.le_of_ble_eq_true rfl, Nat.le_of_ble_eq_true rfl⟩) hS (fun q _ h => XA.le hS.1 q h) (XA.le hS.1) (fun r115 x t H locs ht hvm hw hB9 _ _ hS => ?_)
              have hP := xB.at ht hB9
              clear hB9 ht hvm
              obtain ⟨rfl, hw⟩ := hw
              have hP : va_P (dC, dI) vwCl (xw A C nb st sl so) _ := hP
              rcases hw with ⟨rfl, hf116, hf117⟩ | ⟨rfl, hf118⟩
              · refine lv_if_ne (tgt := 108) hx hb dX7_readPlain_99 (by decide) (fun _ => ?_) (fun cc => absurd cc (by decide))
                refine lv_aload_n hx hb dX7_readPlain_108 rfl (lv_at hl 2 rfl) ?_
                refine va_callv (va_runV (As := []) (rest := []) ⟨hx, hb, hml, hown, hts⟩ (y_X8_step l dC dI ad E hEE A C nb _ hN st sl so B g m (tkx B g m p) hG.1 hO.1 (CBt.fr hB hF) hT.1 hk2.2) (cwV 0 hts gX7_readPlain_X8_step rfl rfl rfl (by decide +kernel) ⟨Nat.le_of_ble_eq_true rfl, Nat.le_of_ble_eq_true rfl⟩) ⟨fun a U g mk q => ⟨q.1, xPre.blind hEE q.2⟩, va_recv hK hP (ci := 9) (q0 := 1) rfl (xw_is (r := 1) (by omega) (xc_fix (r := 1) (by omega))), fun U hU hW => ⟨rfl, xPre.of hEE hP hK hE hS hU hW⟩⟩ rfl rfl hl.1 rfl (lv_room (Nat.le_of_ble_eq_true rfl)) dX7_readPlain_109 ⟨Nat.le_of_ble_eq_true rfl, Nat.le_of_ble_eq_true rfl⟩) hS (fun q _ h => XA.le hS.1 q h) (XA.le hS.1) (fun x t H locs ht hvm hw hB9 _ _ hS => ?_)
                have hP := xB.at ht hB9
                clear hB9 ht hvm
                obtain ⟨st120, sl121, so122⟩ := x
                obtain ⟨hGst120, hOst120, hFst120, hw⟩ := hw
                dsimp only at hGst120 hOst120 hFst120 hw
                have hO : OG ad [2, 4] so so122 := hO.tr hOst120 (by decide)
                have hP : va_P (dC, dI) vwCl (xw A C nb st120 sl121 so122) _ := hP
                have hG : XG [1, 2, 3, 4, 5, 6, 7, 12, 13, 14, 15] st st120 := hG.tr hGst120 (by decide)
                have hF : FX 5 st sl so st120 sl121 so122 := hF.tr hFst120 (by omega) (by omega)
                have hR : CN c nm st120 sl121 0 := hR.fr0 hFst120
                have hT := hw
                have hp9 := hT.2.2.2.2.2.2
                have hk1 := tkd_lt (B := B) (g := g) (m := m) (p := (tkx B g m p))
                have hk2 := tkx_le (B := B) (g := g) (m := m) (p := (tkx B g m p)) hp9
                have hk3 := tka_le (B := B) (g := g) (m := m) (p := (tkx B g m p)) hp9 hB.2.2.1
                have hk4 := tkv_ltc (p := (tkx B g m p)) hB hp9
                have hk5 := tkw_lt (B := B) (g := g) (m := m) (p := (tkx B g m p))
                refine lv_aload_n hx hb dX7_readPlain_112 rfl (lv_at hl 2 rfl) ?_
                refine lv_iconst (v := 0) hx hb dX7_readPlain_113 (by decide) ?_
                refine lv_sipush (v := 999) hx hb dX7_readPlain_114 (by decide) ?_
                refine va_calli (va_runV (As := [.int 0, .int 999]) (rest := []) ⟨hx, hb, hml, hown, hts⟩ (y_X8_takeNumber l dC dI ad E hEE A C nb _ hN st120 sl121 so122 0 999 B g m (tkx B g m p) (by omega) (by omega) hG.1 hO.1 (CBt.fr hB hF) hT) (cwV 2 hts gX7_readPlain_X8_takeNumber rfl rfl rfl (by decide +kernel) ⟨Nat.le_of_ble_eq_true rfl, Nat.le_of_ble_eq_true rfl⟩) ⟨fun a U g mk q => ⟨q.1, xPre.blind hEE q.2⟩, va_recv hK hP (ci := 9) (q0 := 1) rfl (xw_is (r := 1) (by omega) (xc_fix (r := 1) (by omega))), fun U hU hW => ⟨rfl, xPre.of hEE hP hK hE hS hU hW⟩⟩ rfl rfl hl.1 rfl (lv_room (Nat.le_of_ble_eq_true rfl)) dX7_readPlain_117 ⟨Nat.le_of_ble_eq_true rfl, Nat.le_of_ble_eq_true rfl⟩) hS (fun q _ h => XA.le hS.1 q h) (XA.le hS.1) (fun r123 x t H locs ht hvm hw hB9 _ _ hS => ?_)
                have hP := xB.at ht hB9
                clear hB9 ht hvm
                obtain ⟨st124, sl125, so126⟩ := x
                obtain ⟨hGst124, hOst124, hFst124, hw⟩ := hw
                dsimp only at hGst124 hOst124 hFst124 hw
                have hO : OG ad [2, 4] so so126 := hO.tr hOst124 (by decide)
                have hP : va_P (dC, dI) vwCl (xw A C nb st124 sl125 so126) _ := hP
                have hG : XG [1, 2, 3, 4, 5, 6, 7, 12, 13, 14, 15] st st124 := hG.tr hGst124 (by decide)
                have hF : FX 5 st sl so st124 sl125 so126 := hF.tr hFst124 (by omega) (by omega)
                have hR : CN c nm st124 sl125 0 := hR.fr0 hFst124
                rcases hw with ⟨rfl, hf127, hf128, hf129, hT, hf130, hf131⟩ | ⟨n132, n133, rfl, hf134, hf135, hf136, hf137⟩
                · have hp9 := hT.2.2.2.2.2.2
                  have hk1 := tkd_lt (B := B) (g := g) (m := m) (p := (tkx B g m (tkx B g m p)))
                  have hk2 := tkx_le (B := B) (g := g) (m := m) (p := (tkx B g m (tkx B g m p))) hp9
                  have hk3 := tka_le (B := B) (g := g) (m := m) (p := (tkx B g m (tkx B g m p))) hp9 hB.2.2.1
                  have hk4 := tkv_ltc (p := (tkx B g m (tkx B g m p))) hB hp9
                  have hk5 := tkw_lt (B := B) (g := g) (m := m) (p := (tkx B g m (tkx B g m p)))
                  refine lv_istore (lv' := [(5, .int 1), (4, .int z38), (0, .ref (A (20 + 4 * 1))), (1, .ref (A 1)), (2, .ref (A (36 + 20 * 0))), (3, .ref (ad vj))]) hx hb dX7_readPlain_120 hl (by decide) rfl (fun ls hl => ?_)
                  refine lv_aload_n hx hb dX7_readPlain_122 rfl (lv_at hl 2 rfl) ?_
                  refine lv_aload_n hx hb dX7_readPlain_123 rfl (lv_at hl 5 rfl) ?_
                  refine lv_iload hx hb dX7_readPlain_124 (lv_at hl 1 rfl) ?_
                  refine lv_aload_n hx hb dX7_readPlain_126 rfl (lv_at hl 3 rfl) ?_
                  refine va_getN (host := "OffTheLead") (D := (dC, dI)) (ci := 9) (v := .int (st124 1 9)) (C := RX8) (T := TX8) (N := 15) hx hb hts ii_X7_readPlain_X8 hown hK hP 1 (xw_is (r := 1) (by omega) (xc_fix (r := 1) (by omega))) rfl 9 (by decide) (va_Nw.use rfl (nf_X7_97 hEv)) (fun _ hh => hh) rfl dX7_readPlain_127 ?_
                  refine zz_top (v := (nI (tkv B g (tkx B g m p)))) (by show st124 1 9 = _; rw [hf129]) ?_
                  refine va_callv (va_runV (As := [.ref (ad vj), .int z38, .int (nI (tkv B g (tkx B g m p)))]) (rest := []) ⟨hx, hb, hml, hown, hts⟩ (y_addT l dC dI ad E hEE A C nb _ hN st124 sl125 so126 vj z38 (nI (tkv B g (tkx B g m p))) B g m (tkx B g m (tkx B g m p)) (by omega) hG.1 hO.1 (CBt.fr hB hF) hT) (cwV 3 hts gX7_readPlain_X7_add rfl rfl rfl (by decide +kernel) ⟨Nat.le_of_ble_eq_true rfl, Nat.le_of_ble_eq_true rfl⟩) ⟨fun a U g mk q => ⟨q.1, xPre.blind hEE q.2⟩, va_recv hK hP (ci := 8) (q0 := (20 + 4 * 1)) rfl (xw_is (r := (20 + 4 * 1)) (by omega) (xc_sn (q := 1) (o := 0) (by omega) (by omega))), fun U hU hW => ⟨rfl, xPre.of hEE hP hK hE hS hU hW⟩⟩ rfl rfl hl.1 rfl (lv_room (Nat.le_of_ble_eq_true rfl)) dX7_readPlain_130 ⟨Nat.le_of_ble_eq_true rfl, Nat.le_of_ble_eq_true rfl⟩) hS (fun q _ h => XA.le hS.1 q h) (XA.le hS.1) (fun x t H locs ht hvm hw hB9 _ _ hS => ?_)
                  have hP := xB.at ht hB9
                  clear hB9 ht hvm
                  obtain ⟨st139, sl140, so141⟩ := x
                  obtain ⟨hGst139, hOst139, hFst139, hw⟩ := hw
                  dsimp only at hGst139 hOst139 hFst139 hw
                  have hO : OG ad [2, 4] so so141 := hO.tr hOst139 (by decide)
                  have hP : va_P (dC, dI) vwCl (xw A C nb st139 sl140 so141) _ := hP
                  have hG : XG [1, 2, 3, 4, 5, 6, 7, 12, 13, 14, 15] st st139 := hG.tr hGst139 (by decide)
                  have hF : FX 5 st sl so st139 sl140 so141 := hF.tr hFst139 (by omega) (by omega)
                  have hR : CN c nm st139 sl140 0 := hR.fr0 hFst139
                  obtain ⟨hf142, hf143, hf144, hT⟩ := hw
                  have hp9 := hT.2.2.2.2.2.2
                  have hk1 := tkd_lt (B := B) (g := g) (m := m) (p := (tkx B g m (tkx B g m p)))
                  have hk2 := tkx_le (B := B) (g := g) (m := m) (p := (tkx B g m (tkx B g m p))) hp9
                  have hk3 := tka_le (B := B) (g := g) (m := m) (p := (tkx B g m (tkx B g m p))) hp9 hB.2.2.1
                  have hk4 := tkv_ltc (p := (tkx B g m (tkx B g m p))) hB hp9
                  have hk5 := tkw_lt (B := B) (g := g) (m := m) (p := (tkx B g m (tkx B g m p)))
                  refine lv_iload hx hb dX7_readPlain_133 (lv_at hl 0 rfl) ?_
                  exact W.zret (v := 1) hx hb hr rfl (fun t ht hW => ⟨⟨1, (st139, sl140, so141), rfl, ⟨hG, hO, hF, Or.inl (⟨(tkx B g m (tkx B g m p)), rfl, hT, by show st139 1 13 = st 1 13; rw [hf142, hf130, (hFst120 1 13 (by decide)).1], by show st139 (20 + 4 * 1) 4 = st (20 + 4 * 1) 4; rw [hf144, (hFst124 (20 + 4 * 1) 4 (by decide)).1, (hFst120 (20 + 4 * 1) 4 (by decide)).1], fun o => (sPl_c (by omega)).trans (sCmp_y (by omega) hf131)⟩)⟩, xB.of ht hP⟩, hS.F ht⟩) hS.2.2 dX7_readPlain_135
                · refine lv_istore (lv' := [(5, .int 0), (4, .int z38), (0, .ref (A (20 + 4 * 1))), (1, .ref (A 1)), (2, .ref (A (36 + 20 * 0))), (3, .ref (ad vj))]) hx hb dX7_readPlain_120 hl (by decide) rfl (fun ls hl => ?_)
                  refine lv_aload_n hx hb dX7_readPlain_122 rfl (lv_at hl 2 rfl) ?_
                  refine lv_aload_n hx hb dX7_readPlain_123 rfl (lv_at hl 5 rfl) ?_
                  refine lv_iload hx hb dX7_readPlain_124 (lv_at hl 1 rfl) ?_
                  refine lv_aload_n hx hb dX7_readPlain_126 rfl (lv_at hl 3 rfl) ?_
                  refine va_getN (host := "OffTheLead") (D := (dC, dI)) (ci := 9) (v := .int (st124 1 9)) (C := RX8) (T := TX8) (N := 15) hx hb hts ii_X7_readPlain_X8 hown hK hP 1 (xw_is (r := 1) (by omega) (xc_fix (r := 1) (by omega))) rfl 9 (by decide) (va_Nw.use rfl (nf_X7_97 hEv)) (fun _ hh => hh) rfl dX7_readPlain_127 ?_
                  obtain ⟨z145, ez145⟩ : ∃ y : Int32, st124 1 9 = y := ⟨_, rfl⟩
                  refine zz_top (v := z145) (by exact ez145) ?_
                  refine va_callv (va_runV (As := [.ref (ad vj), .int z38, .int z145]) (rest := []) ⟨hx, hb, hml, hown, hts⟩ (y_addN l dC dI ad E hEE A C nb _ hN st124 sl125 so126 vj z38 z145 (by omega) hG.1 hO.1 ) (cwV 3 hts gX7_readPlain_X7_add rfl rfl rfl (by decide +kernel) ⟨Nat.le_of_ble_eq_true rfl, Nat.le_of_ble_eq_true rfl⟩) ⟨fun a U g mk q => ⟨q.1, xPre.blind hEE q.2⟩, va_recv hK hP (ci := 8) (q0 := (20 + 4 * 1)) rfl (xw_is (r := (20 + 4 * 1)) (by omega) (xc_sn (q := 1) (o := 0) (by omega) (by omega))), fun U hU hW => ⟨rfl, xPre.of hEE hP hK hE hS hU hW⟩⟩ rfl rfl hl.1 rfl (lv_room (Nat.le_of_ble_eq_true rfl)) dX7_readPlain_130 ⟨Nat.le_of_ble_eq_true rfl, Nat.le_of_ble_eq_true rfl⟩) hS (fun q _ h => XA.le hS.1 q h) (XA.le hS.1) (fun x t H locs ht hvm hw hB9 _ _ hS => ?_)
                  have hP := xB.at ht hB9
                  clear hB9 ht hvm
                  obtain ⟨st147, sl148, so149⟩ := x
                  obtain ⟨hGst147, hOst147, hFst147, hw⟩ := hw
                  dsimp only at hGst147 hOst147 hFst147 hw
                  have hO : OG ad [2, 4] so so149 := hO.tr hOst147 (by decide)
                  have hP : va_P (dC, dI) vwCl (xw A C nb st147 sl148 so149) _ := hP
                  have hG : XG [1, 2, 3, 4, 5, 6, 7, 12, 13, 14, 15] st st147 := hG.tr hGst147 (by decide)
                  have hF : FX 5 st sl so st147 sl148 so149 := hF.tr hFst147 (by omega) (by omega)
                  have hR : CN c nm st147 sl148 0 := hR.fr0 hFst147
                  obtain ⟨hf150, hf151, hf152⟩ := hw
                  refine lv_iload hx hb dX7_readPlain_133 (lv_at hl 0 rfl) ?_
                  exact W.zret (v := 0) hx hb hr rfl (fun t ht hW => ⟨⟨0, (st147, sl148, so149), rfl, ⟨hG, hO, hF, Or.inr (⟨n132, n133, rfl, by show st147 1 13 = _; rw [hf150, hf134], by show st147 1 14 = _; rw [hf151, hf135], hf136, fun o => (sPl_c (by omega)).trans (sCmp_f (by omega) hf137 (by omega))⟩)⟩, xB.of ht hP⟩, hS.F ht⟩) hS.2.2 dX7_readPlain_135
              · refine lv_if_ne (tgt := 108) hx hb dX7_readPlain_99 (by decide) (fun cc => absurd (by decide) cc) (fun _ => ?_)
                refine lv_aload_n hx hb dX7_readPlain_102 rfl (lv_at hl 2 rfl) ?_
                refine lv_iconst (v := 1) hx hb dX7_readPlain_103 (by decide) ?_
                refine va_calli (va_runV (As := [.int 1]) (rest := []) ⟨hx, hb, hml, hown, hts⟩ (y_X8_refuse l dC dI ad E hEE A C nb _ hN st sl so 1 B g m p (by omega) hG.1 hO.1 (CBt.fr hB hF) hT) (cwV 1 hts gX7_readPlain_X8_refuse rfl rfl rfl (by decide +kernel) ⟨Nat.le_of_ble_eq_true rfl, Nat.le_of_ble_eq_true rfl⟩) ⟨fun a U g mk q => ⟨q.1, xPre.blind hEE q.2⟩, va_recv hK hP (ci := 9) (q0 := 1) rfl (xw_is (r := 1) (by omega) (xc_fix (r := 1) (by omega))), fun U hU hW => ⟨rfl, xPre.of hEE hP hK hE hS hU hW⟩⟩ rfl rfl hl.1 rfl (lv_room (Nat.le_of_ble_eq_true rfl)) dX7_readPlain_104 ⟨Nat.le_of_ble_eq_true rfl, Nat.le_of_ble_eq_true rfl⟩) hS (fun q _ h => XA.le hS.1 q h) (XA.le hS.1) (fun r153 x t H locs ht hvm hw hB9 _ _ hS => ?_)
                have hP := xB.at ht hB9
                clear hB9 ht hvm
                obtain ⟨st154, sl155, so156⟩ := x
                obtain ⟨hGst154, hOst154, hFst154, hw⟩ := hw
                dsimp only at hGst154 hOst154 hFst154 hw
                have hO : OG ad [2, 4] so so156 := hO.tr hOst154 (by decide)
                have hP : va_P (dC, dI) vwCl (xw A C nb st154 sl155 so156) _ := hP
                have hG : XG [1, 2, 3, 4, 5, 6, 7, 12, 13, 14, 15] st st154 := hG.tr hGst154 (by decide)
                have hF : FX 5 st sl so st154 sl155 so156 := hF.tr hFst154 (by omega) (by omega)
                have hR : CN c nm st154 sl155 0 := hR.fr0 hFst154
                obtain ⟨rfl, hf157, hf158, hT⟩ := hw
                have hp9 := hT.2.2.2.2.2.2
                have hk1 := tkd_lt (B := B) (g := g) (m := m) (p := p)
                have hk2 := tkx_le (B := B) (g := g) (m := m) (p := p) hp9
                have hk3 := tka_le (B := B) (g := g) (m := m) (p := p) hp9 hB.2.2.1
                have hk4 := tkv_ltc (p := p) hB hp9
                have hk5 := tkw_lt (B := B) (g := g) (m := m) (p := p)
                exact W.zret (v := 0) hx hb hr rfl (fun t ht hW => ⟨⟨0, (st154, sl155, so156), rfl, ⟨hG, hO, hF, Or.inr (⟨1, (tka B g m p), rfl, by show st154 1 13 = _; rw [hf157], by show st154 1 14 = _; rw [hf158], by omega, fun o => (sPl_c (by omega)).trans (sCmp_1 (by omega))⟩)⟩, xB.of ht hP⟩, hS.F ht⟩) hS.2.2 dX7_readPlain_107
        · have c5 : vj = 19 := (EV.eqw hEv (i := vj) (j := 19) (by omega) (by omega)).mp c5
          refine lv_aload_n hx hb dX7_readPlain_37 rfl (lv_at hl 1 rfl) ?_
          refine lv_aload_n hx hb dX7_readPlain_38 rfl (lv_at hl 2 rfl) ?_
          refine lv_aload_n hx hb dX7_readPlain_39 rfl (lv_at hl 3 rfl) ?_
          refine va_gets (v := .ref (ad 19)) hx hb (EV.word hEv (i := 19) (by decide)) hS hown (hts _ mm_X7_readPlain_4) (fun _ hh => hh) dX7_readPlain_40 ?_
          refine lv_acmp_ne (rx := (some (ad vj))) (ry := (some (ad 19))) (tgt := 50) hx hb dX7_readPlain_43 (by decide) (fun hh => absurd ((EV.eqw hEv (i := vj) (j := 19) (by omega) (by omega)).mpr (by omega)) hh) (fun _ => ?_)
          refine lv_iconst (v := 0) hx hb dX7_readPlain_46 (by decide) ?_
          refine lv_goto (tgt := 51) hx hb dX7_readPlain_47 (by decide) ?_
          refine va_calli (va_runV (As := [.ref (A (36 + 20 * 0)), .int 0]) (rest := []) ⟨hx, hb, hml, hown, hts⟩ (y_takeNamem0 l dC dI ad E hEE A C nb _ hN st sl so B g m p c nm hG.1 hO.1 (CBt.fr hB hF) hT hR) (cwV 2 hts gX7_readPlain_X8_takeNamed rfl rfl rfl (by decide +kernel) ⟨Nat.le_of_ble_eq_true rfl, Nat.le_of_ble_eq_true rfl⟩) ⟨fun a U g mk q => ⟨q.1, xPre.blind hEE q.2⟩, va_recv hK hP (ci := 9) (q0 := 1) rfl (xw_is (r := 1) (by omega) (xc_fix (r := 1) (by omega))), fun U hU hW => ⟨rfl, xPre.of hEE hP hK hE hS hU hW⟩⟩ rfl rfl hl.1 rfl (lv_room (Nat.le_of_ble_eq_true rfl)) dX7_readPlain_51 ⟨Nat.le_of_ble_eq_true rfl, Nat.le_of_ble_eq_true rfl⟩) hS (fun q _ h => XA.le hS.1 q h) (XA.le hS.1) (fun r159 x t H locs ht hvm hw hB9 _ _ hS => ?_)
          have hP := xB.at ht hB9
          clear hB9 ht hvm
          obtain ⟨st160, sl161, so162⟩ := x
          obtain ⟨hGst160, hOst160, hFst160, hw⟩ := hw
          dsimp only at hGst160 hOst160 hFst160 hw
          have hO : OG ad [2, 4] so so162 := hO.tr hOst160 (by decide)
          have hP : va_P (dC, dI) vwCl (xw A C nb st160 sl161 so162) _ := hP
          have hG : XG [1, 2, 3, 4, 5, 6, 7, 12, 13, 14, 15] st st160 := hG.tr hGst160 (by decide)
          have hF : FX 5 st sl so st160 sl161 so162 := hF.tr hFst160 (by omega) (by omega)
          have hR : CN c nm st160 sl161 0 := hR.fr0 hFst160
          rcases hw with ⟨n163, rfl, hf164, hf165, hT, hf166, hf167⟩ | ⟨n168, n169, rfl, hf170, hf171, hf172, hf173⟩
          · have hp9 := hT.2.2.2.2.2.2
            have hk1 := tkd_lt (B := B) (g := g) (m := m) (p := (tkx B g m p))
            have hk2 := tkx_le (B := B) (g := g) (m := m) (p := (tkx B g m p)) hp9
            have hk3 := tka_le (B := B) (g := g) (m := m) (p := (tkx B g m p)) hp9 hB.2.2.1
            have hk4 := tkv_ltc (p := (tkx B g m p)) hB hp9
            have hk5 := tkw_lt (B := B) (g := g) (m := m) (p := (tkx B g m p))
            refine lv_istore (lv' := [(4, .int 1), (0, .ref (A (20 + 4 * 1))), (1, .ref (A 1)), (2, .ref (A (36 + 20 * 0))), (3, .ref (ad vj))]) hx hb dX7_readPlain_54 hl (by decide) rfl (fun ls hl => ?_)
            refine lv_aload_n hx hb dX7_readPlain_56 rfl (lv_at hl 1 rfl) ?_
            refine lv_aload_n hx hb dX7_readPlain_57 rfl (lv_at hl 4 rfl) ?_
            refine lv_iconst (v := 0) hx hb dX7_readPlain_58 (by decide) ?_
            refine lv_aload_n hx hb dX7_readPlain_59 rfl (lv_at hl 2 rfl) ?_
            refine va_getN (host := "OffTheLead") (D := (dC, dI)) (ci := 9) (v := .int (st160 1 9)) (C := RX8) (T := TX8) (N := 15) hx hb hts ii_X7_readPlain_X8 hown hK hP 1 (xw_is (r := 1) (by omega) (xc_fix (r := 1) (by omega))) rfl 9 (by decide) (va_Nw.use rfl (nf_X7_97 hEv)) (fun _ hh => hh) rfl dX7_readPlain_60 ?_
            refine zz_top (v := (nI n163)) (by show st160 1 9 = _; rw [hf165]) ?_
            refine va_callv (va_runV (As := [.ref (ad vj), .int 0, .int (nI n163)]) (rest := []) ⟨hx, hb, hml, hown, hts⟩ (y_addT l dC dI ad E hEE A C nb _ hN st160 sl161 so162 vj 0 (nI n163) B g m (tkx B g m p) (by omega) hG.1 hO.1 (CBt.fr hB hF) hT) (cwV 3 hts gX7_readPlain_X7_add rfl rfl rfl (by decide +kernel) ⟨Nat.le_of_ble_eq_true rfl, Nat.le_of_ble_eq_true rfl⟩) ⟨fun a U g mk q => ⟨q.1, xPre.blind hEE q.2⟩, va_recv hK hP (ci := 8) (q0 := (20 + 4 * 1)) rfl (xw_is (r := (20 + 4 * 1)) (by omega) (xc_sn (q := 1) (o := 0) (by omega) (by omega))), fun U hU hW => ⟨rfl, xPre.of hEE hP hK hE hS hU hW⟩⟩ rfl rfl hl.1 rfl (lv_room (Nat.le_of_ble_eq_true rfl)) dX7_readPlain_63 ⟨Nat.le_of_ble_eq_true rfl, Nat.le_of_ble_eq_true rfl⟩) hS (fun q _ h => XA.le hS.1 q h) (XA.le hS.1) (fun x t H locs ht hvm hw hB9 _ _ hS => ?_)
            have hP := xB.at ht hB9
            clear hB9 ht hvm
            obtain ⟨st175, sl176, so177⟩ := x
            obtain ⟨hGst175, hOst175, hFst175, hw⟩ := hw
            dsimp only at hGst175 hOst175 hFst175 hw
            have hO : OG ad [2, 4] so so177 := hO.tr hOst175 (by decide)
            have hP : va_P (dC, dI) vwCl (xw A C nb st175 sl176 so177) _ := hP
            have hG : XG [1, 2, 3, 4, 5, 6, 7, 12, 13, 14, 15] st st175 := hG.tr hGst175 (by decide)
            have hF : FX 5 st sl so st175 sl176 so177 := hF.tr hFst175 (by omega) (by omega)
            have hR : CN c nm st175 sl176 0 := hR.fr0 hFst175
            obtain ⟨hf178, hf179, hf180, hT⟩ := hw
            have hp9 := hT.2.2.2.2.2.2
            have hk1 := tkd_lt (B := B) (g := g) (m := m) (p := (tkx B g m p))
            have hk2 := tkx_le (B := B) (g := g) (m := m) (p := (tkx B g m p)) hp9
            have hk3 := tka_le (B := B) (g := g) (m := m) (p := (tkx B g m p)) hp9 hB.2.2.1
            have hk4 := tkv_ltc (p := (tkx B g m p)) hB hp9
            have hk5 := tkw_lt (B := B) (g := g) (m := m) (p := (tkx B g m p))
            refine lv_iload hx hb dX7_readPlain_66 (lv_at hl 0 rfl) ?_
            exact W.zret (v := 1) hx hb hr rfl (fun t ht hW => ⟨⟨1, (st175, sl176, so177), rfl, ⟨hG, hO, hF, Or.inl (⟨(tkx B g m p), rfl, hT, by show st175 1 13 = st 1 13; rw [hf178, hf166], by show st175 (20 + 4 * 1) 4 = st (20 + 4 * 1) 4; rw [hf180, (hFst160 (20 + 4 * 1) 4 (by decide)).1], fun o => (sPl_a (by omega)).trans (sNam_y hf167)⟩)⟩, xB.of ht hP⟩, hS.F ht⟩) hS.2.2 dX7_readPlain_68
          · refine lv_istore (lv' := [(4, .int 0), (0, .ref (A (20 + 4 * 1))), (1, .ref (A 1)), (2, .ref (A (36 + 20 * 0))), (3, .ref (ad vj))]) hx hb dX7_readPlain_54 hl (by decide) rfl (fun ls hl => ?_)
            refine lv_aload_n hx hb dX7_readPlain_56 rfl (lv_at hl 1 rfl) ?_
            refine lv_aload_n hx hb dX7_readPlain_57 rfl (lv_at hl 4 rfl) ?_
            refine lv_iconst (v := 0) hx hb dX7_readPlain_58 (by decide) ?_
            refine lv_aload_n hx hb dX7_readPlain_59 rfl (lv_at hl 2 rfl) ?_
            refine va_getN (host := "OffTheLead") (D := (dC, dI)) (ci := 9) (v := .int (st160 1 9)) (C := RX8) (T := TX8) (N := 15) hx hb hts ii_X7_readPlain_X8 hown hK hP 1 (xw_is (r := 1) (by omega) (xc_fix (r := 1) (by omega))) rfl 9 (by decide) (va_Nw.use rfl (nf_X7_97 hEv)) (fun _ hh => hh) rfl dX7_readPlain_60 ?_
            obtain ⟨z181, ez181⟩ : ∃ y : Int32, st160 1 9 = y := ⟨_, rfl⟩
            refine zz_top (v := z181) (by exact ez181) ?_
            refine va_callv (va_runV (As := [.ref (ad vj), .int 0, .int z181]) (rest := []) ⟨hx, hb, hml, hown, hts⟩ (y_addN l dC dI ad E hEE A C nb _ hN st160 sl161 so162 vj 0 z181 (by omega) hG.1 hO.1 ) (cwV 3 hts gX7_readPlain_X7_add rfl rfl rfl (by decide +kernel) ⟨Nat.le_of_ble_eq_true rfl, Nat.le_of_ble_eq_true rfl⟩) ⟨fun a U g mk q => ⟨q.1, xPre.blind hEE q.2⟩, va_recv hK hP (ci := 8) (q0 := (20 + 4 * 1)) rfl (xw_is (r := (20 + 4 * 1)) (by omega) (xc_sn (q := 1) (o := 0) (by omega) (by omega))), fun U hU hW => ⟨rfl, xPre.of hEE hP hK hE hS hU hW⟩⟩ rfl rfl hl.1 rfl (lv_room (Nat.le_of_ble_eq_true rfl)) dX7_readPlain_63 ⟨Nat.le_of_ble_eq_true rfl, Nat.le_of_ble_eq_true rfl⟩) hS (fun q _ h => XA.le hS.1 q h) (XA.le hS.1) (fun x t H locs ht hvm hw hB9 _ _ hS => ?_)
            have hP := xB.at ht hB9
            clear hB9 ht hvm
            obtain ⟨st183, sl184, so185⟩ := x
            obtain ⟨hGst183, hOst183, hFst183, hw⟩ := hw
            dsimp only at hGst183 hOst183 hFst183 hw
            have hO : OG ad [2, 4] so so185 := hO.tr hOst183 (by decide)
            have hP : va_P (dC, dI) vwCl (xw A C nb st183 sl184 so185) _ := hP
            have hG : XG [1, 2, 3, 4, 5, 6, 7, 12, 13, 14, 15] st st183 := hG.tr hGst183 (by decide)
            have hF : FX 5 st sl so st183 sl184 so185 := hF.tr hFst183 (by omega) (by omega)
            have hR : CN c nm st183 sl184 0 := hR.fr0 hFst183
            obtain ⟨hf186, hf187, hf188⟩ := hw
            refine lv_iload hx hb dX7_readPlain_66 (lv_at hl 0 rfl) ?_
            exact W.zret (v := 0) hx hb hr rfl (fun t ht hW => ⟨⟨0, (st183, sl184, so185), rfl, ⟨hG, hO, hF, Or.inr (⟨n168, n169, rfl, by show st183 1 13 = _; rw [hf186, hf170], by show st183 1 14 = _; rw [hf187, hf171], hf172, fun o => (sPl_a (by omega)).trans (sNam_f hf173 (by omega))⟩)⟩, xB.of ht hP⟩, hS.F ht⟩) hS.2.2 dX7_readPlain_68
    · have c2 : vj = 17 := (EV.eqw hEv (i := vj) (j := 17) (by omega) (by omega)).mp c2
      refine lv_aload_n hx hb dX7_readPlain_14 rfl (lv_at hl 0 rfl) ?_
      refine lv_aload_n hx hb dX7_readPlain_15 rfl (lv_at hl 3 rfl) ?_
      refine lv_iconst (v := 0) hx hb dX7_readPlain_16 (by decide) ?_
      refine lv_iconst (v := 0) hx hb dX7_readPlain_17 (by decide) ?_
      refine va_callv (va_runV (As := [.ref (ad vj), .int 0, .int 0]) (rest := []) ⟨hx, hb, hml, hown, hts⟩ (y_addT l dC dI ad E hEE A C nb _ hN st sl so vj 0 0 B g m p (by omega) hG.1 hO.1 (CBt.fr hB hF) hT) (cwV 3 hts gX7_readPlain_X7_add rfl rfl rfl (by decide +kernel) ⟨Nat.le_of_ble_eq_true rfl, Nat.le_of_ble_eq_true rfl⟩) ⟨fun a U g mk q => ⟨q.1, xPre.blind hEE q.2⟩, va_recv hK hP (ci := 8) (q0 := (20 + 4 * 1)) rfl (xw_is (r := (20 + 4 * 1)) (by omega) (xc_sn (q := 1) (o := 0) (by omega) (by omega))), fun U hU hW => ⟨rfl, xPre.of hEE hP hK hE hS hU hW⟩⟩ rfl rfl hl.1 rfl (lv_room (Nat.le_of_ble_eq_true rfl)) dX7_readPlain_18 ⟨Nat.le_of_ble_eq_true rfl, Nat.le_of_ble_eq_true rfl⟩) hS (fun q _ h => XA.le hS.1 q h) (XA.le hS.1) (fun x t H locs ht hvm hw hB9 _ _ hS => ?_)
      have hP := xB.at ht hB9
      clear hB9 ht hvm
      obtain ⟨st190, sl191, so192⟩ := x
      obtain ⟨hGst190, hOst190, hFst190, hw⟩ := hw
      dsimp only at hGst190 hOst190 hFst190 hw
      have hO : OG ad [2, 4] so so192 := hO.tr hOst190 (by decide)
      have hP : va_P (dC, dI) vwCl (xw A C nb st190 sl191 so192) _ := hP
      have hG : XG [1, 2, 3, 4, 5, 6, 7, 12, 13, 14, 15] st st190 := hG.tr hGst190 (by decide)
      have hF : FX 5 st sl so st190 sl191 so192 := hF.tr hFst190 (by omega) (by omega)
      have hR : CN c nm st190 sl191 0 := hR.fr0 hFst190
      obtain ⟨hf193, hf194, hf195, hT⟩ := hw
      have hp9 := hT.2.2.2.2.2.2
      have hk1 := tkd_lt (B := B) (g := g) (m := m) (p := p)
      have hk2 := tkx_le (B := B) (g := g) (m := m) (p := p) hp9
      have hk3 := tka_le (B := B) (g := g) (m := m) (p := p) hp9 hB.2.2.1
      have hk4 := tkv_ltc (p := p) hB hp9
      have hk5 := tkw_lt (B := B) (g := g) (m := m) (p := p)
      refine lv_iconst (v := 1) hx hb dX7_readPlain_21 (by decide) ?_
      exact W.zret (v := 1) hx hb hr rfl (fun t ht hW => ⟨⟨1, (st190, sl191, so192), rfl, ⟨hG, hO, hF, Or.inl (⟨p, rfl, hT, by show st190 1 13 = st 1 13; rw [hf193], by show st190 (20 + 4 * 1) 4 = st (20 + 4 * 1) 4; rw [hf195], fun o => sPl_o (by omega)⟩)⟩, xB.of ht hP⟩, hS.F ht⟩) hS.2.2 dX7_readPlain_22
set_option maxHeartbeats 4000000 in
set_option maxRecDepth 100000 in
theorem y_readOne_9 (l : Launch) (dC : Nat → ClassId) (dI : Nat → Nat → Nat) (ad : Nat → Nat) (E : EP) (hEE : EC ad E) (A : Nat → Nat) (C : Nat → ClassId) (nb sz : Nat) (hN : XN A) (st : Nat → Nat → Int32) (sl : Nat → Nat → Int64) (so : Nat → XR) (B : Nat → Nat) (g m : Nat) (p : Nat) (c : Nat → Nat) (nm : Nat → Nat → Nat) (go : Nat) (hI : XI st) (hOI : OI ad so) (hB : CBt B g m st) (hT : TC B g m p ad st sl so) (hR : CN c nm st sl 0) (h4 : st (20 + 4 * 1) 4 = nI go) (hgo : go ≤ 20) : Met l yX7_readOne wsX7_readOne ({ frames := 1, cells := 0, slots := 0, locals := 21 }) (va_Pc [.ref (A (20 + 4 * 1)), .ref (A 1), .ref (A (36 + 20 * 0)), .int 9] (xPre E dC dI A C nb sz st sl so)) (va_Qi (fun (r : Int32) (x : XT) => XG [1, 2, 3, 4, 5, 6, 7, 12, 13, 14, 15] st x.1 ∧ OG ad [2, 4] so x.2.2 ∧ FX 5 st sl so x.1 x.2.1 x.2.2 ∧ ((∃ q : Nat, ∃ o1 : Nat, r = 1 ∧ TC B g m q ad x.1 x.2.1 x.2.2 ∧ x.1 1 13 = st 1 13 ∧ x.1 (20 + 4 * 1) 4 = nI o1 ∧ go + 1 ≤ o1 ∧ o1 ≤ 20 ∧ sOne B g m c nm 0 p go = (0, q, o1)) ∨ (∃ f : Nat, ∃ a : Nat, r = 0 ∧ x.1 1 13 = nI f ∧ x.1 1 14 = nI a ∧ (1 ≤ f ∧ f < 9) ∧ sOne B g m c nm 0 p go = sf f a))) (xB dC dI A C nb) (XA A sz)) 0 0 (XA A sz) := by
  refine Met.ofW (cc := cX7_readOne) (maxL := 7) (ret := (some .boolean)) (by decide) rfl ?_
  intro p9 e s m9 args below meth c9 s₁ B9 hml hv
  obtain ⟨rfl, hsz, hP, hK, hE⟩ := hv
  have hx := B9.exec
  have hb := B9.bytes
  have hr := B9.returns
  have hts := atoms_spec (ws := wsX7_readOne) B9.pre
  have hown : s.vm.findClass RX7 = some m9.cls := findClass_of_methodNamed B9.named
  subst hsz
  have hEv := hEE.1 _ _ _ hE
  have hS : va_S (XA A s.heap.size) s.heap s.heap [] := va_S.rf
  have hG : XG [1, 2, 3, 4, 5, 6, 7, 12, 13, 14, 15] st st := XG.rf hI
  have hO : OG ad [2, 4] so so := OG.rf hOI
  have hl := lv_entry ([.ref (A (20 + 4 * 1)), .ref (A 1), .ref (A (36 + 20 * 0)), .int 9]) (n := 7) (Nat.le_of_ble_eq_true rfl)
  rw [lg_entry_eq]
  generalize (lg_sl ([.ref (A (20 + 4 * 1)), .ref (A 1), .ref (A (36 + 20 * 0)), .int 9]) ++ List.replicate (7 - (lg_sl ([.ref (A (20 + 4 * 1)), .ref (A 1), .ref (A (36 + 20 * 0)), .int 9])).length) Slot.unset).toArray = ls at hl ⊢
  have hl : lv_has ls 7 [(0, .ref (A (20 + 4 * 1))), (1, .ref (A 1)), (2, .ref (A (36 + 20 * 0))), (3, .int 9)] := hl
  have hB1 := hB.2.2.1
  have hB2 := hB.2.2.2.1
  have hF : FX 5 st sl so st sl so := FX.rf
  have hp9 := hT.2.2.2.2.2.2
  have hk1 := tkd_lt (B := B) (g := g) (m := m) (p := p)
  have hk2 := tkx_le (B := B) (g := g) (m := m) (p := p) hp9
  have hk3 := tka_le (B := B) (g := g) (m := m) (p := p) hp9 hB.2.2.1
  have hk4 := tkv_ltc (p := p) hB hp9
  have hk5 := tkw_lt (B := B) (g := g) (m := m) (p := p)
  have hR9 := hR.2.1
  refine lv_aload_n hx hb dX7_readOne_0 rfl (lv_at hl 1 rfl) ?_
  refine va_getN (host := "OffTheLead") (D := (dC, dI)) (ci := 9) (v := va_rf (so 1 7)) (C := RX8) (T := TX8) (N := 15) hx hb hts ii_X7_readOne_X8 hown hK hP 1 (xw_is (r := 1) (by omega) (xc_fix (r := 1) (by omega))) rfl 7 (by decide) (va_Nw.use rfl (nf_X7_35 hEv)) (fun _ hh => hh) rfl dX7_readOne_1 ?_
  refine zz_topq (r := some (ad (tkw B g m p))) (by rw [hT.2.2.2.2.2.1]) ?_
  refine lv_astore (lv' := [(4, .ref (ad (tkw B g m p))), (0, .ref (A (20 + 4 * 1))), (1, .ref (A 1)), (2, .ref (A (36 + 20 * 0))), (3, .int 9)]) hx hb dX7_readOne_4 hl (by decide) rfl (fun ls hl => ?_)
  refine lv_aload_n hx hb dX7_readOne_6 rfl (lv_at hl 2 rfl) ?_
  refine lv_bipush (v := 40) hx hb dX7_readOne_7 (by decide) ?_
  refine va_calli (va_runV (As := [.int 40]) (rest := []) ⟨hx, hb, hml, hown, hts⟩ (y_looksAtMark40 l dC dI ad E hEE A C nb _ hN st sl so B g m p hG.1 (CBt.fr hB hF) hT) (cwV 1 hts gX7_readOne_X8_looksAtMark rfl rfl rfl (by decide +kernel) ⟨Nat.le_of_ble_eq_true rfl, Nat.le_of_ble_eq_true rfl⟩) ⟨fun a U g mk q => ⟨q.1, xPre.blind hEE q.2⟩, va_recv hK hP (ci := 9) (q0 := 1) rfl (xw_is (r := 1) (by omega) (xc_fix (r := 1) (by omega))), fun U hU hW => ⟨rfl, xPre.of hEE hP hK hE hS hU hW⟩⟩ rfl rfl hl.1 rfl (lv_room (Nat.le_of_ble_eq_true rfl)) dX7_readOne_9 ⟨Nat.le_of_ble_eq_true rfl, Nat.le_of_ble_eq_true rfl⟩) hS (fun q _ h => XA.le hS.1 q h) (XA.le hS.1) (fun r1 x t H locs ht hvm hw hB9 _ _ hS => ?_)
  have hP := xB.at ht hB9
  clear hB9 ht hvm
  obtain ⟨rfl, hw⟩ := hw
  have hP : va_P (dC, dI) vwCl (xw A C nb st sl so) _ := hP
  rcases hw with ⟨rfl, hf2, hf3⟩ | ⟨rfl, hf4⟩
  · refine lv_istore (lv' := [(5, .int 1), (4, .ref (ad (tkw B g m p))), (0, .ref (A (20 + 4 * 1))), (1, .ref (A 1)), (2, .ref (A (36 + 20 * 0))), (3, .int 9)]) hx hb dX7_readOne_12 hl (by decide) rfl (fun ls hl => ?_)
    refine lv_iload hx hb dX7_readOne_14 (lv_at hl 0 rfl) ?_
    refine lv_if_ne (tgt := 33) hx hb dX7_readOne_16 (by decide) (fun _ => ?_) (fun cc => absurd cc (by decide))
    refine lv_aload_n hx hb dX7_readOne_33 rfl (lv_at hl 2 rfl) ?_
    refine va_get (D := (dC, dI)) (ci := 8) (v := .int (st (20 + 4 * 1) 4)) (C := RX7) (T := TX7) (N := 5) hx hb hts ii_X7_readOne_X7 hown hK hP (20 + 4 * 1) (xw_is (r := (20 + 4 * 1)) (by omega) (xc_sn (q := 1) (o := 0) (by omega) (by omega))) rfl 4 (by decide) (hts _ mm_X7_readOne_1) (fun _ hh => hh) rfl dX7_readOne_34 ?_
    refine zz_top (v := (nI go)) (by show st (20 + 4 * 1) 4 = _; rw [h4]) ?_
    refine lv_bipush (v := 20) hx hb dX7_readOne_37 (by decide) ?_
    refine lv_icmp_ge (tgt := 48) hx hb dX7_readOne_39 (by decide) (fun c2 => ?_) (fun c2 => ?_)
    · have c2 : 20 ≤ go := (nI_leI (a := 20) (b := go) (by omega) (by omega)).mp c2
      refine lv_aload_n hx hb dX7_readOne_48 rfl (lv_at hl 3 rfl) ?_
      refine lv_iconst (v := 4) hx hb dX7_readOne_49 (by decide) ?_
      refine va_calli (va_runV (As := [.int 4]) (rest := []) ⟨hx, hb, hml, hown, hts⟩ (y_X8_refuse l dC dI ad E hEE A C nb _ hN st sl so 4 B g m p (by omega) hG.1 hO.1 (CBt.fr hB hF) hT) (cwV 1 hts gX7_readOne_X8_refuse rfl rfl rfl (by decide +kernel) ⟨Nat.le_of_ble_eq_true rfl, Nat.le_of_ble_eq_true rfl⟩) ⟨fun a U g mk q => ⟨q.1, xPre.blind hEE q.2⟩, va_recv hK hP (ci := 9) (q0 := 1) rfl (xw_is (r := 1) (by omega) (xc_fix (r := 1) (by omega))), fun U hU hW => ⟨rfl, xPre.of hEE hP hK hE hS hU hW⟩⟩ rfl rfl hl.1 rfl (lv_room (Nat.le_of_ble_eq_true rfl)) dX7_readOne_50 ⟨Nat.le_of_ble_eq_true rfl, Nat.le_of_ble_eq_true rfl⟩) hS (fun q _ h => XA.le hS.1 q h) (XA.le hS.1) (fun r5 x t H locs ht hvm hw hB9 _ _ hS => ?_)
      have hP := xB.at ht hB9
      clear hB9 ht hvm
      obtain ⟨st6, sl7, so8⟩ := x
      obtain ⟨hGst6, hOst6, hFst6, hw⟩ := hw
      dsimp only at hGst6 hOst6 hFst6 hw
      have hO : OG ad [2, 4] so so8 := hO.tr hOst6 (by decide)
      have hP : va_P (dC, dI) vwCl (xw A C nb st6 sl7 so8) _ := hP
      have hG : XG [1, 2, 3, 4, 5, 6, 7, 12, 13, 14, 15] st st6 := hG.tr hGst6 (by decide)
      have hF : FX 5 st sl so st6 sl7 so8 := hF.tr hFst6 (by omega) (by omega)
      have hR : CN c nm st6 sl7 0 := hR.fr0 hFst6
      obtain ⟨rfl, hf9, hf10, hT⟩ := hw
      have hp9 := hT.2.2.2.2.2.2
      have hk1 := tkd_lt (B := B) (g := g) (m := m) (p := p)
      have hk2 := tkx_le (B := B) (g := g) (m := m) (p := p) hp9
      have hk3 := tka_le (B := B) (g := g) (m := m) (p := p) hp9 hB.2.2.1
      have hk4 := tkv_ltc (p := p) hB hp9
      have hk5 := tkw_lt (B := B) (g := g) (m := m) (p := p)
      exact W.zret (v := 0) hx hb hr rfl (fun t ht hW => ⟨⟨0, (st6, sl7, so8), rfl, ⟨hG, hO, hF, Or.inr (⟨4, (tka B g m p), rfl, by show st6 1 13 = _; rw [hf9], by show st6 1 14 = _; rw [hf10], by omega, sO_4 (Or.inl ⟨hf2, hf3⟩) (Or.inl rfl)⟩)⟩, xB.of ht hP⟩, hS.F ht⟩) hS.2.2 dX7_readOne_53
    · have c2 : ¬ 20 ≤ go := fun hh => c2 ((nI_leI (a := 20) (b := go) (by omega) (by omega)).mpr hh)
      refine lv_iload_n hx hb dX7_readOne_42 rfl (lv_at hl 5 rfl) ?_
      refine lv_bipush (v := 8) hx hb dX7_readOne_43 (by decide) ?_
      refine lv_icmp_le (tgt := 54) hx hb dX7_readOne_45 (by decide) (fun cc => absurd cc (by decide)) (fun _ => ?_)
      refine lv_aload_n hx hb dX7_readOne_48 rfl (lv_at hl 3 rfl) ?_
      refine lv_iconst (v := 4) hx hb dX7_readOne_49 (by decide) ?_
      refine va_calli (va_runV (As := [.int 4]) (rest := []) ⟨hx, hb, hml, hown, hts⟩ (y_X8_refuse l dC dI ad E hEE A C nb _ hN st sl so 4 B g m p (by omega) hG.1 hO.1 (CBt.fr hB hF) hT) (cwV 1 hts gX7_readOne_X8_refuse rfl rfl rfl (by decide +kernel) ⟨Nat.le_of_ble_eq_true rfl, Nat.le_of_ble_eq_true rfl⟩) ⟨fun a U g mk q => ⟨q.1, xPre.blind hEE q.2⟩, va_recv hK hP (ci := 9) (q0 := 1) rfl (xw_is (r := 1) (by omega) (xc_fix (r := 1) (by omega))), fun U hU hW => ⟨rfl, xPre.of hEE hP hK hE hS hU hW⟩⟩ rfl rfl hl.1 rfl (lv_room (Nat.le_of_ble_eq_true rfl)) dX7_readOne_50 ⟨Nat.le_of_ble_eq_true rfl, Nat.le_of_ble_eq_true rfl⟩) hS (fun q _ h => XA.le hS.1 q h) (XA.le hS.1) (fun r11 x t H locs ht hvm hw hB9 _ _ hS => ?_)
      have hP := xB.at ht hB9
      clear hB9 ht hvm
      obtain ⟨st12, sl13, so14⟩ := x
      obtain ⟨hGst12, hOst12, hFst12, hw⟩ := hw
      dsimp only at hGst12 hOst12 hFst12 hw
      have hO : OG ad [2, 4] so so14 := hO.tr hOst12 (by decide)
      have hP : va_P (dC, dI) vwCl (xw A C nb st12 sl13 so14) _ := hP
      have hG : XG [1, 2, 3, 4, 5, 6, 7, 12, 13, 14, 15] st st12 := hG.tr hGst12 (by decide)
      have hF : FX 5 st sl so st12 sl13 so14 := hF.tr hFst12 (by omega) (by omega)
      have hR : CN c nm st12 sl13 0 := hR.fr0 hFst12
      obtain ⟨rfl, hf15, hf16, hT⟩ := hw
      have hp9 := hT.2.2.2.2.2.2
      have hk1 := tkd_lt (B := B) (g := g) (m := m) (p := p)
      have hk2 := tkx_le (B := B) (g := g) (m := m) (p := p) hp9
      have hk3 := tka_le (B := B) (g := g) (m := m) (p := p) hp9 hB.2.2.1
      have hk4 := tkv_ltc (p := p) hB hp9
      have hk5 := tkw_lt (B := B) (g := g) (m := m) (p := p)
      exact W.zret (v := 0) hx hb hr rfl (fun t ht hW => ⟨⟨0, (st12, sl13, so14), rfl, ⟨hG, hO, hF, Or.inr (⟨4, (tka B g m p), rfl, by show st12 1 13 = _; rw [hf15], by show st12 1 14 = _; rw [hf16], by omega, sO_4 (Or.inl ⟨hf2, hf3⟩) (Or.inl rfl)⟩)⟩, xB.of ht hP⟩, hS.F ht⟩) hS.2.2 dX7_readOne_53
  · refine lv_istore (lv' := [(5, .int 0), (4, .ref (ad (tkw B g m p))), (0, .ref (A (20 + 4 * 1))), (1, .ref (A 1)), (2, .ref (A (36 + 20 * 0))), (3, .int 9)]) hx hb dX7_readOne_12 hl (by decide) rfl (fun ls hl => ?_)
    refine lv_iload hx hb dX7_readOne_14 (lv_at hl 0 rfl) ?_
    refine lv_if_ne (tgt := 33) hx hb dX7_readOne_16 (by decide) (fun cc => absurd (by decide) cc) (fun _ => ?_)
    refine lv_aload hx hb dX7_readOne_19 (lv_at hl 1 rfl) ?_
    refine va_calli (va_runS (As := [.ref (ad (tkw B g m p))]) (rest := []) ⟨hx, hb, hml, hown, hts⟩ (y_X7_beginsOne l dC dI ad E hEE A C nb _ hN st sl so (tkw B g m p) (by omega) hG.1 ) (va_cwS 1 hts gX7_readOne_X7_beginsOne rfl rfl rfl (by decide +kernel) ⟨Nat.le_of_ble_eq_true rfl, Nat.le_of_ble_eq_true rfl⟩) ⟨fun a U g mk q => ⟨q.1, xPre.blind hEE q.2⟩, fun U hU hW => ⟨rfl, xPre.of hEE hP hK hE hS hU hW⟩⟩ rfl rfl hl.1 rfl (lv_room (Nat.le_of_ble_eq_true rfl)) dX7_readOne_21 ⟨Nat.le_of_ble_eq_true rfl, Nat.le_of_ble_eq_true rfl⟩) hS (fun q _ h => XA.le hS.1 q h) (XA.le hS.1) (fun r17 x t H locs ht hvm hw hB9 _ _ hS => ?_)
    have hP := xB.at ht hB9
    clear hB9 ht hvm
    obtain ⟨rfl, hw⟩ := hw
    have hP : va_P (dC, dI) vwCl (xw A C nb st sl so) _ := hP
    rcases hw with ⟨rfl, hf18⟩ | ⟨rfl, hf19⟩
    · refine lv_if_ne (tgt := 33) hx hb dX7_readOne_24 (by decide) (fun _ => ?_) (fun cc => absurd cc (by decide))
      refine lv_aload_n hx hb dX7_readOne_33 rfl (lv_at hl 2 rfl) ?_
      refine va_get (D := (dC, dI)) (ci := 8) (v := .int (st (20 + 4 * 1) 4)) (C := RX7) (T := TX7) (N := 5) hx hb hts ii_X7_readOne_X7 hown hK hP (20 + 4 * 1) (xw_is (r := (20 + 4 * 1)) (by omega) (xc_sn (q := 1) (o := 0) (by omega) (by omega))) rfl 4 (by decide) (hts _ mm_X7_readOne_1) (fun _ hh => hh) rfl dX7_readOne_34 ?_
      refine zz_top (v := (nI go)) (by show st (20 + 4 * 1) 4 = _; rw [h4]) ?_
      refine lv_bipush (v := 20) hx hb dX7_readOne_37 (by decide) ?_
      refine lv_icmp_ge (tgt := 48) hx hb dX7_readOne_39 (by decide) (fun c6 => ?_) (fun c6 => ?_)
      · have c6 : 20 ≤ go := (nI_leI (a := 20) (b := go) (by omega) (by omega)).mp c6
        refine lv_aload_n hx hb dX7_readOne_48 rfl (lv_at hl 3 rfl) ?_
        refine lv_iconst (v := 4) hx hb dX7_readOne_49 (by decide) ?_
        refine va_calli (va_runV (As := [.int 4]) (rest := []) ⟨hx, hb, hml, hown, hts⟩ (y_X8_refuse l dC dI ad E hEE A C nb _ hN st sl so 4 B g m p (by omega) hG.1 hO.1 (CBt.fr hB hF) hT) (cwV 1 hts gX7_readOne_X8_refuse rfl rfl rfl (by decide +kernel) ⟨Nat.le_of_ble_eq_true rfl, Nat.le_of_ble_eq_true rfl⟩) ⟨fun a U g mk q => ⟨q.1, xPre.blind hEE q.2⟩, va_recv hK hP (ci := 9) (q0 := 1) rfl (xw_is (r := 1) (by omega) (xc_fix (r := 1) (by omega))), fun U hU hW => ⟨rfl, xPre.of hEE hP hK hE hS hU hW⟩⟩ rfl rfl hl.1 rfl (lv_room (Nat.le_of_ble_eq_true rfl)) dX7_readOne_50 ⟨Nat.le_of_ble_eq_true rfl, Nat.le_of_ble_eq_true rfl⟩) hS (fun q _ h => XA.le hS.1 q h) (XA.le hS.1) (fun r20 x t H locs ht hvm hw hB9 _ _ hS => ?_)
        have hP := xB.at ht hB9
        clear hB9 ht hvm
        obtain ⟨st21, sl22, so23⟩ := x
        obtain ⟨hGst21, hOst21, hFst21, hw⟩ := hw
        dsimp only at hGst21 hOst21 hFst21 hw
        have hO : OG ad [2, 4] so so23 := hO.tr hOst21 (by decide)
        have hP : va_P (dC, dI) vwCl (xw A C nb st21 sl22 so23) _ := hP
        have hG : XG [1, 2, 3, 4, 5, 6, 7, 12, 13, 14, 15] st st21 := hG.tr hGst21 (by decide)
        have hF : FX 5 st sl so st21 sl22 so23 := hF.tr hFst21 (by omega) (by omega)
        have hR : CN c nm st21 sl22 0 := hR.fr0 hFst21
        obtain ⟨rfl, hf24, hf25, hT⟩ := hw
        have hp9 := hT.2.2.2.2.2.2
        have hk1 := tkd_lt (B := B) (g := g) (m := m) (p := p)
        have hk2 := tkx_le (B := B) (g := g) (m := m) (p := p) hp9
        have hk3 := tka_le (B := B) (g := g) (m := m) (p := p) hp9 hB.2.2.1
        have hk4 := tkv_ltc (p := p) hB hp9
        have hk5 := tkw_lt (B := B) (g := g) (m := m) (p := p)
        exact W.zret (v := 0) hx hb hr rfl (fun t ht hW => ⟨⟨0, (st21, sl22, so23), rfl, ⟨hG, hO, hF, Or.inr (⟨4, (tka B g m p), rfl, by show st21 1 13 = _; rw [hf24], by show st21 1 14 = _; rw [hf25], by omega, sO_4 (Or.inr hf18) (Or.inl rfl)⟩)⟩, xB.of ht hP⟩, hS.F ht⟩) hS.2.2 dX7_readOne_53
      · have c6 : ¬ 20 ≤ go := fun hh => c6 ((nI_leI (a := 20) (b := go) (by omega) (by omega)).mpr hh)
        refine lv_iload_n hx hb dX7_readOne_42 rfl (lv_at hl 5 rfl) ?_
        refine lv_bipush (v := 8) hx hb dX7_readOne_43 (by decide) ?_
        refine lv_icmp_le (tgt := 54) hx hb dX7_readOne_45 (by decide) (fun cc => absurd cc (by decide)) (fun _ => ?_)
        refine lv_aload_n hx hb dX7_readOne_48 rfl (lv_at hl 3 rfl) ?_
        refine lv_iconst (v := 4) hx hb dX7_readOne_49 (by decide) ?_
        refine va_calli (va_runV (As := [.int 4]) (rest := []) ⟨hx, hb, hml, hown, hts⟩ (y_X8_refuse l dC dI ad E hEE A C nb _ hN st sl so 4 B g m p (by omega) hG.1 hO.1 (CBt.fr hB hF) hT) (cwV 1 hts gX7_readOne_X8_refuse rfl rfl rfl (by decide +kernel) ⟨Nat.le_of_ble_eq_true rfl, Nat.le_of_ble_eq_true rfl⟩) ⟨fun a U g mk q => ⟨q.1, xPre.blind hEE q.2⟩, va_recv hK hP (ci := 9) (q0 := 1) rfl (xw_is (r := 1) (by omega) (xc_fix (r := 1) (by omega))), fun U hU hW => ⟨rfl, xPre.of hEE hP hK hE hS hU hW⟩⟩ rfl rfl hl.1 rfl (lv_room (Nat.le_of_ble_eq_true rfl)) dX7_readOne_50 ⟨Nat.le_of_ble_eq_true rfl, Nat.le_of_ble_eq_true rfl⟩) hS (fun q _ h => XA.le hS.1 q h) (XA.le hS.1) (fun r26 x t H locs ht hvm hw hB9 _ _ hS => ?_)
        have hP := xB.at ht hB9
        clear hB9 ht hvm
        obtain ⟨st27, sl28, so29⟩ := x
        obtain ⟨hGst27, hOst27, hFst27, hw⟩ := hw
        dsimp only at hGst27 hOst27 hFst27 hw
        have hO : OG ad [2, 4] so so29 := hO.tr hOst27 (by decide)
        have hP : va_P (dC, dI) vwCl (xw A C nb st27 sl28 so29) _ := hP
        have hG : XG [1, 2, 3, 4, 5, 6, 7, 12, 13, 14, 15] st st27 := hG.tr hGst27 (by decide)
        have hF : FX 5 st sl so st27 sl28 so29 := hF.tr hFst27 (by omega) (by omega)
        have hR : CN c nm st27 sl28 0 := hR.fr0 hFst27
        obtain ⟨rfl, hf30, hf31, hT⟩ := hw
        have hp9 := hT.2.2.2.2.2.2
        have hk1 := tkd_lt (B := B) (g := g) (m := m) (p := p)
        have hk2 := tkx_le (B := B) (g := g) (m := m) (p := p) hp9
        have hk3 := tka_le (B := B) (g := g) (m := m) (p := p) hp9 hB.2.2.1
        have hk4 := tkv_ltc (p := p) hB hp9
        have hk5 := tkw_lt (B := B) (g := g) (m := m) (p := p)
        exact W.zret (v := 0) hx hb hr rfl (fun t ht hW => ⟨⟨0, (st27, sl28, so29), rfl, ⟨hG, hO, hF, Or.inr (⟨4, (tka B g m p), rfl, by show st27 1 13 = _; rw [hf30], by show st27 1 14 = _; rw [hf31], by omega, sO_4 (Or.inr hf18) (Or.inl rfl)⟩)⟩, xB.of ht hP⟩, hS.F ht⟩) hS.2.2 dX7_readOne_53
    · refine lv_if_ne (tgt := 33) hx hb dX7_readOne_24 (by decide) (fun cc => absurd (by decide) cc) (fun _ => ?_)
      refine lv_aload_n hx hb dX7_readOne_27 rfl (lv_at hl 3 rfl) ?_
      refine lv_iconst (v := 1) hx hb dX7_readOne_28 (by decide) ?_
      refine va_calli (va_runV (As := [.int 1]) (rest := []) ⟨hx, hb, hml, hown, hts⟩ (y_X8_refuse l dC dI ad E hEE A C nb _ hN st sl so 1 B g m p (by omega) hG.1 hO.1 (CBt.fr hB hF) hT) (cwV 1 hts gX7_readOne_X8_refuse rfl rfl rfl (by decide +kernel) ⟨Nat.le_of_ble_eq_true rfl, Nat.le_of_ble_eq_true rfl⟩) ⟨fun a U g mk q => ⟨q.1, xPre.blind hEE q.2⟩, va_recv hK hP (ci := 9) (q0 := 1) rfl (xw_is (r := 1) (by omega) (xc_fix (r := 1) (by omega))), fun U hU hW => ⟨rfl, xPre.of hEE hP hK hE hS hU hW⟩⟩ rfl rfl hl.1 rfl (lv_room (Nat.le_of_ble_eq_true rfl)) dX7_readOne_29 ⟨Nat.le_of_ble_eq_true rfl, Nat.le_of_ble_eq_true rfl⟩) hS (fun q _ h => XA.le hS.1 q h) (XA.le hS.1) (fun r32 x t H locs ht hvm hw hB9 _ _ hS => ?_)
      have hP := xB.at ht hB9
      clear hB9 ht hvm
      obtain ⟨st33, sl34, so35⟩ := x
      obtain ⟨hGst33, hOst33, hFst33, hw⟩ := hw
      dsimp only at hGst33 hOst33 hFst33 hw
      have hO : OG ad [2, 4] so so35 := hO.tr hOst33 (by decide)
      have hP : va_P (dC, dI) vwCl (xw A C nb st33 sl34 so35) _ := hP
      have hG : XG [1, 2, 3, 4, 5, 6, 7, 12, 13, 14, 15] st st33 := hG.tr hGst33 (by decide)
      have hF : FX 5 st sl so st33 sl34 so35 := hF.tr hFst33 (by omega) (by omega)
      have hR : CN c nm st33 sl34 0 := hR.fr0 hFst33
      obtain ⟨rfl, hf36, hf37, hT⟩ := hw
      have hp9 := hT.2.2.2.2.2.2
      have hk1 := tkd_lt (B := B) (g := g) (m := m) (p := p)
      have hk2 := tkx_le (B := B) (g := g) (m := m) (p := p) hp9
      have hk3 := tka_le (B := B) (g := g) (m := m) (p := p) hp9 hB.2.2.1
      have hk4 := tkv_ltc (p := p) hB hp9
      have hk5 := tkw_lt (B := B) (g := g) (m := m) (p := p)
      exact W.zret (v := 0) hx hb hr rfl (fun t ht hW => ⟨⟨0, (st33, sl34, so35), rfl, ⟨hG, hO, hF, Or.inr (⟨1, (tka B g m p), rfl, by show st33 1 13 = _; rw [hf36], by show st33 1 14 = _; rw [hf37], by omega, sO_1 (fun z9 => z9.elim hf4 hf19)⟩)⟩, xB.of ht hP⟩, hS.F ht⟩) hS.2.2 dX7_readOne_32
