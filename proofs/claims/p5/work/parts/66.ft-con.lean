set_option maxHeartbeats 4000000 in
set_option maxRecDepth 100000 in
theorem y_open200 (l : Launch) (dC : Nat → ClassId) (dI : Nat → Nat → Nat) (ad : Nat → Nat) (E : EP) (hEE : EC ad E) (A : Nat → Nat) (C : Nat → ClassId) (nb sz : Nat) (hN : XN A) (st : Nat → Nat → Int32) (sl : Nat → Nat → Int64) (so : Nat → XR) (B : Nat → Nat) (g : Nat) (hI : XI st) (hOI : OI ad so) (ht : st 1 1 = nI g) (hg : g < 941) (hbt : ∀ j, j < g → st 2 j = sbt (B j) ∧ B j < 256) : Met l yX8_open wsX8_open ({ frames := 6, cells := 0, slots := 0, locals := 130 }) (va_Pc [.ref (A 1), .int 200] (xPre E dC dI A C nb sz st sl so)) (va_Qv (fun (x : XT) => XG [1, 2, 3, 4, 5, 6, 7, 8, 9, 12, 13, 14, 15] st x.1 ∧ OG ad [2, 3, 4] so x.2.2 ∧ (CBt B g 200 x.1 ∧ TC B g 200 0 ad x.1 x.2.1 x.2.2 ∧ x.1 1 13 = 0 ∧ (∀ r k, 36 ≤ r → x.1 r k = st r k ∧ x.2.1 r k = sl r k))) (xB dC dI A C nb) (XA A sz)) 0 0 (XA A sz) := by
  refine Met.ofW (cc := cX8_open) (maxL := 2) (ret := none) (by decide) rfl ?_
  intro p9 e s m9 args below meth c9 s₁ B9 hml hv
  obtain ⟨rfl, hsz, hP, hK, hE⟩ := hv
  have hx := B9.exec
  have hb := B9.bytes
  have hr := B9.returns
  have hts := atoms_spec (ws := wsX8_open) B9.pre
  have hown : s.vm.findClass RX8 = some m9.cls := findClass_of_methodNamed B9.named
  subst hsz
  have hEv := hEE.1 _ _ _ hE
  have hS : va_S (XA A s.heap.size) s.heap s.heap [] := va_S.rf
  have hG : XG [1, 2, 3, 4, 5, 6, 7, 8, 9, 12, 13, 14, 15] st st := XG.rf hI
  have hO : OG ad [2, 3, 4] so so := OG.rf hOI
  have hl := lv_entry ([.ref (A 1), .int 200]) (n := 2) (Nat.le_of_ble_eq_true rfl)
  rw [lg_entry_eq]
  generalize (lg_sl ([.ref (A 1), .int 200]) ++ List.replicate (2 - (lg_sl ([.ref (A 1), .int 200])).length) Slot.unset).toArray = ls at hl ⊢
  have hl : lv_has ls 2 [(0, .ref (A 1)), (1, .int 200)] := hl
  obtain ⟨m, hm⟩ : ∃ m : Nat, m = 200 := ⟨_, rfl⟩
  refine lv_aload_n hx hb dX8_open_0 rfl (lv_at hl 0 rfl) ?_
  refine lv_iload_n hx hb dX8_open_1 rfl (lv_at hl 1 rfl) ?_
  refine va_put (D := (dC, dI)) (ci := 9) (v := .int 200) (ty := .int) (C := RX8) (T := TX8) (N := 15) hx hb hts ii_X8_open_X8 tyX8 tyX8_ok nmX8 hown hK hP (xD hN _ _ _ _ _ _) hS 1 (xw_is (r := 1) (by omega) (xc_fix (r := 1) (by omega))) rfl 2 (by decide) (hts _ mm_X8_open_1) (fun _ hh => hh) rfl (by decide +kernel) rfl rfl (Nat.le_of_ble_eq_true rfl) dX8_open_2 (fun H locs hP _ hS => ?_)
  have hP : va_P (dC, dI) vwCl (xw A C nb (up2 st 1 2 200) sl so) H := by rw [← xset (r := 1) (k := 2) (v := 200) (xc_fix (r := 1) (by omega))]; exact hP
  obtain ⟨st1, est1⟩ : ∃ y, y = up2 st 1 2 200 := ⟨_, rfl⟩
  have hG : XG [1, 2, 3, 4, 5, 6, 7, 8, 9, 12, 13, 14, 15] st st1 := by rw [est1]; exact hG.up (xn (n := 200) (b := 941) (by decide : xrg 1 2 = 941) (by omega)) (xpn (c := 0) (by decide : xcl 1 2 = 0) (by decide))
  rw [← est1] at hP
  refine lv_aload_n hx hb dX8_open_5 rfl (lv_at hl 0 rfl) ?_
  refine lv_iconst (v := 0) hx hb dX8_open_6 (by decide) ?_
  refine va_put (D := (dC, dI)) (ci := 9) (v := .int 0) (ty := .int) (C := RX8) (T := TX8) (N := 15) hx hb hts ii_X8_open_X8 tyX8 tyX8_ok nmX8 hown hK hP (xD hN _ _ _ _ _ _) hS 1 (xw_is (r := 1) (by omega) (xc_fix (r := 1) (by omega))) rfl 3 (by decide) (hts _ mm_X8_open_2) (fun _ hh => hh) rfl (by decide +kernel) rfl rfl (Nat.le_of_ble_eq_true rfl) dX8_open_7 (fun H locs hP _ hS => ?_)
  have hP : va_P (dC, dI) vwCl (xw A C nb (up2 st1 1 3 0) sl so) H := by rw [← xset (r := 1) (k := 3) (v := 0) (xc_fix (r := 1) (by omega))]; exact hP
  obtain ⟨st2, est2⟩ : ∃ y, y = up2 st1 1 3 0 := ⟨_, rfl⟩
  have hG : XG [1, 2, 3, 4, 5, 6, 7, 8, 9, 12, 13, 14, 15] st st2 := by rw [est2]; exact hG.up (xn (n := 0) (b := 941) (by decide : xrg 1 3 = 941) (by omega)) (xpn (c := 0) (by decide : xcl 1 3 = 0) (by decide))
  rw [← est2] at hP
  refine lv_aload_n hx hb dX8_open_10 rfl (lv_at hl 0 rfl) ?_
  refine lv_iconst (v := 0) hx hb dX8_open_11 (by decide) ?_
  refine va_put (D := (dC, dI)) (ci := 9) (v := .int 0) (ty := .int) (C := RX8) (T := TX8) (N := 15) hx hb hts ii_X8_open_X8 tyX8 tyX8_ok nmX8 hown hK hP (xD hN _ _ _ _ _ _) hS 1 (xw_is (r := 1) (by omega) (xc_fix (r := 1) (by omega))) rfl 13 (by decide) (hts _ mm_X8_open_3) (fun _ hh => hh) rfl (by decide +kernel) rfl rfl (Nat.le_of_ble_eq_true rfl) dX8_open_12 (fun H locs hP _ hS => ?_)
  have hP : va_P (dC, dI) vwCl (xw A C nb (up2 st2 1 13 0) sl so) H := by rw [← xset (r := 1) (k := 13) (v := 0) (xc_fix (r := 1) (by omega))]; exact hP
  obtain ⟨st3, est3⟩ : ∃ y, y = up2 st2 1 13 0 := ⟨_, rfl⟩
  have hG : XG [1, 2, 3, 4, 5, 6, 7, 8, 9, 12, 13, 14, 15] st st3 := by rw [est3]; exact hG.up (xz (r := 1) (k := 13) (by decide : xrg 1 13 = 0)) (xpn (c := 10) (by decide : xcl 1 13 = 10) (by decide))
  rw [← est3] at hP
  refine lv_aload_n hx hb dX8_open_15 rfl (lv_at hl 0 rfl) ?_
  refine lv_iconst (v := 0) hx hb dX8_open_16 (by decide) ?_
  refine va_put (D := (dC, dI)) (ci := 9) (v := .int 0) (ty := .int) (C := RX8) (T := TX8) (N := 15) hx hb hts ii_X8_open_X8 tyX8 tyX8_ok nmX8 hown hK hP (xD hN _ _ _ _ _ _) hS 1 (xw_is (r := 1) (by omega) (xc_fix (r := 1) (by omega))) rfl 14 (by decide) (hts _ mm_X8_open_4) (fun _ hh => hh) rfl (by decide +kernel) rfl rfl (Nat.le_of_ble_eq_true rfl) dX8_open_17 (fun H locs hP _ hS => ?_)
  have hP : va_P (dC, dI) vwCl (xw A C nb (up2 st3 1 14 0) sl so) H := by rw [← xset (r := 1) (k := 14) (v := 0) (xc_fix (r := 1) (by omega))]; exact hP
  obtain ⟨st4, est4⟩ : ∃ y, y = up2 st3 1 14 0 := ⟨_, rfl⟩
  have hG : XG [1, 2, 3, 4, 5, 6, 7, 8, 9, 12, 13, 14, 15] st st4 := by rw [est4]; exact hG.up (xz (r := 1) (k := 14) (by decide : xrg 1 14 = 0)) (xpn (c := 0) (by decide : xcl 1 14 = 0) (by decide))
  rw [← est4] at hP
  have hB : CBt B g m st4 := ⟨by show st4 1 1 = _; rw [est4, up2_ne (r := 1) (k := 14) (a := 1) (j := 1) _ _ (by omega), est3, up2_ne (r := 1) (k := 13) (a := 1) (j := 1) _ _ (by omega), est2, up2_ne (r := 1) (k := 3) (a := 1) (j := 1) _ _ (by omega), est1, up2_ne (r := 1) (k := 2) (a := 1) (j := 1) _ _ (by omega), ht], by show st4 1 2 = _; rw [est4, up2_ne (r := 1) (k := 14) (a := 1) (j := 2) _ _ (by omega), est3, up2_ne (r := 1) (k := 13) (a := 1) (j := 2) _ _ (by omega), est2, up2_ne (r := 1) (k := 3) (a := 1) (j := 2) _ _ (by omega), est1, up2_same, hm]; rfl, hg, by omega, fun j hj => ⟨by show st4 2 j = _; rw [est4, up2_ne (r := 1) (k := 14) (a := 2) (j := j) _ _ (by omega), est3, up2_ne (r := 1) (k := 13) (a := 2) (j := j) _ _ (by omega), est2, up2_ne (r := 1) (k := 3) (a := 2) (j := j) _ _ (by omega), est1, up2_ne (r := 1) (k := 2) (a := 2) (j := j) _ _ (by omega)]; exact (hbt j hj).1, (hbt j hj).2⟩⟩
  refine lv_aload_n hx hb dX8_open_20 rfl (lv_at hl 0 rfl) ?_
  refine va_callv (va_runV (As := []) (rest := []) ⟨hx, hb, hml, hown, hts⟩ (y_X8_step l dC dI ad E hEE A C nb _ hN st4 sl so B g m 0 hG.1 hO.1 hB (by show st4 1 3 = _; rw [est4, up2_ne (r := 1) (k := 14) (a := 1) (j := 3) _ _ (by omega), est3, up2_ne (r := 1) (k := 13) (a := 1) (j := 3) _ _ (by omega), est2, up2_same]; rfl) (Nat.zero_le _)) (cwV 0 hts gX8_open_X8_step rfl rfl rfl (by decide +kernel) ⟨Nat.le_of_ble_eq_true rfl, Nat.le_of_ble_eq_true rfl⟩) ⟨fun a U g mk q => ⟨q.1, xPre.blind hEE q.2⟩, va_recv hK hP (ci := 9) (q0 := 1) rfl (xw_is (r := 1) (by omega) (xc_fix (r := 1) (by omega))), fun U hU hW => ⟨rfl, xPre.of hEE hP hK hE hS hU hW⟩⟩ rfl rfl hl.1 rfl (lv_room (Nat.le_of_ble_eq_true rfl)) dX8_open_21 ⟨Nat.le_of_ble_eq_true rfl, Nat.le_of_ble_eq_true rfl⟩) hS (fun q _ h => XA.le hS.1 q h) (XA.le hS.1) (fun x t H locs ht hvm hw hB9 _ _ hS => ?_)
  have hP := xB.at ht hB9
  clear hB9 ht hvm
  obtain ⟨st6, sl7, so8⟩ := x
  obtain ⟨hGst6, hOst6, hFst6, hw⟩ := hw
  dsimp only at hGst6 hOst6 hFst6 hw
  have hO : OG ad [2, 3, 4] so so8 := hO.tr hOst6 (by decide)
  have hP : va_P (dC, dI) vwCl (xw A C nb st6 sl7 so8) _ := hP
  have hG : XG [1, 2, 3, 4, 5, 6, 7, 8, 9, 12, 13, 14, 15] st st6 := hG.tr hGst6 (by decide)
  have hT := hw
  have hp9 := hT.2.2.2.2.2.2
  have hk1 := tkd_lt (B := B) (g := g) (m := m) (p := 0)
  have hk2 := tkx_le (B := B) (g := g) (m := m) (p := 0) hp9
  have hk3 := tka_le (B := B) (g := g) (m := m) (p := 0) hp9 hB.2.2.1
  have hk4 := tkv_ltc (p := 0) hB hp9
  have hk5 := tkw_lt (B := B) (g := g) (m := m) (p := 0)
  have hhi : ∀ r k, 36 ≤ r → st6 r k = st r k ∧ sl7 r k = sl r k := fun r k hr => ⟨((FX.hi hFst6 (by omega) r k hr).1).trans (by rw [est4, up2_ne (r := 1) (k := 14) (a := r) (j := k) _ _ (by omega), est3, up2_ne (r := 1) (k := 13) (a := r) (j := k) _ _ (by omega), est2, up2_ne (r := 1) (k := 3) (a := r) (j := k) _ _ (by omega), est1, up2_ne (r := 1) (k := 2) (a := r) (j := k) _ _ (by omega)]), (FX.hi hFst6 (by omega) r k hr).2⟩
  have hB7 := CBt.fr hB hFst6
  have h13 : st6 1 13 = 0 := by rw [(hFst6 1 13 (by decide)).1, est4, up2_ne (r := 1) (k := 14) (a := 1) (j := 13) _ _ (by omega), est3, up2_same]
  subst hm
  exact W.vret hx hb hr (fun t ht hW => ⟨⟨(st6, sl7, so8), rfl, ⟨hG, hO, ⟨hB7, hT, h13, hhi⟩⟩, xB.of ht hP⟩, hS.F ht⟩) hS.2.2 dX8_open_24
set_option maxHeartbeats 4000000 in
set_option maxRecDepth 100000 in
theorem y_clear1y (l : Launch) (dC : Nat → ClassId) (dI : Nat → Nat → Nat) (ad : Nat → Nat) (E : EP) (hEE : EC ad E) (A : Nat → Nat) (C : Nat → ClassId) (nb sz : Nat) (hN : XN A) (st : Nat → Nat → Int32) (sl : Nat → Nat → Int64) (so : Nat → XR) (B : Nat → Nat) (g m : Nat) (p : Nat) (hI : XI st) (hOI : OI ad so) (hB : CBt B g m st) (hT : TC B g m p ad st sl so) : Met l yX7_clear wsX7_clear ({ frames := 0, cells := 0, slots := 0, locals := 0 }) (va_Pc [.ref (A (20 + 4 * 1))] (xPre E dC dI A C nb sz st sl so)) (va_Qv (fun (x : XT) => XG [1, 2, 3, 4, 5, 6, 7, 12, 13, 14, 15] st x.1 ∧ OG ad [2, 4] so x.2.2 ∧ FX 5 st sl so x.1 x.2.1 x.2.2 ∧ (x.1 (20 + 4 * 1) 4 = 0 ∧ TC B g m p ad x.1 x.2.1 x.2.2 ∧ x.1 1 13 = st 1 13)) (xB dC dI A C nb) (XA A sz)) 0 0 (XA A sz) := by
  refine Met.ofW (cc := cX7_clear) (maxL := 1) (ret := none) (by decide) rfl ?_
  intro p9 e s m9 args below meth c9 s₁ B9 hml hv
  obtain ⟨rfl, hsz, hP, hK, hE⟩ := hv
  have hx := B9.exec
  have hb := B9.bytes
  have hr := B9.returns
  have hts := atoms_spec (ws := wsX7_clear) B9.pre
  have hown : s.vm.findClass RX7 = some m9.cls := findClass_of_methodNamed B9.named
  subst hsz
  have hEv := hEE.1 _ _ _ hE
  have hS : va_S (XA A s.heap.size) s.heap s.heap [] := va_S.rf
  have hG : XG [1, 2, 3, 4, 5, 6, 7, 12, 13, 14, 15] st st := XG.rf hI
  have hO : OG ad [2, 4] so so := OG.rf hOI
  have hl := lv_entry ([.ref (A (20 + 4 * 1))]) (n := 1) (Nat.le_of_ble_eq_true rfl)
  rw [lg_entry_eq]
  generalize (lg_sl ([.ref (A (20 + 4 * 1))]) ++ List.replicate (1 - (lg_sl ([.ref (A (20 + 4 * 1))])).length) Slot.unset).toArray = ls at hl ⊢
  have hl : lv_has ls 1 [(0, .ref (A (20 + 4 * 1)))] := hl
  have hB1 := hB.2.2.1
  have hB2 := hB.2.2.2.1
  have hF : FX 5 st sl so st sl so := FX.rf
  have hp9 := hT.2.2.2.2.2.2
  have hk1 := tkd_lt (B := B) (g := g) (m := m) (p := p)
  have hk2 := tkx_le (B := B) (g := g) (m := m) (p := p) hp9
  have hk3 := tka_le (B := B) (g := g) (m := m) (p := p) hp9 hB.2.2.1
  have hk4 := tkv_ltc (p := p) hB hp9
  have hk5 := tkw_lt (B := B) (g := g) (m := m) (p := p)
  refine lv_aload_n hx hb dX7_clear_0 rfl (lv_at hl 0 rfl) ?_
  refine lv_iconst (v := 0) hx hb dX7_clear_1 (by decide) ?_
  refine va_put (D := (dC, dI)) (ci := 8) (v := .int 0) (ty := .int) (C := RX7) (T := TX7) (N := 5) hx hb hts ii_X7_clear_X7 tyX7 tyX7_ok nmX7 hown hK hP (xD hN _ _ _ _ _ _) hS (20 + 4 * 1) (xw_is (r := (20 + 4 * 1)) (by omega) (xc_sn (q := 1) (o := 0) (by omega) (by omega))) rfl 3 (by decide) (hts _ mm_X7_clear_1) (fun _ hh => hh) rfl (by decide +kernel) rfl rfl (Nat.le_of_ble_eq_true rfl) dX7_clear_2 (fun H locs hP _ hS => ?_)
  have hP : va_P (dC, dI) vwCl (xw A C nb (up2 st (20 + 4 * 1) 3 0) sl so) H := by rw [← xset (r := (20 + 4 * 1)) (k := 3) (v := 0) (xc_sn (q := 1) (o := 0) (by omega) (by omega))]; exact hP
  obtain ⟨st1, est1⟩ : ∃ y, y = up2 st (20 + 4 * 1) 3 0 := ⟨_, rfl⟩
  have hG : XG [1, 2, 3, 4, 5, 6, 7, 12, 13, 14, 15] st st1 := by rw [est1]; exact hG.up (xn (n := 0) (b := 41) ((xrg_sn (q := 1) (o := 0) (by omega) (by omega)).trans (by first | rfl | decide)) (by omega)) (xpn (c := 9) ((xcl_sn (q := 1) (o := 0) (k := 3) (by omega) (by omega)).trans (by first | rfl | decide)) (by decide))
  rw [← est1] at hP
  have hF : FX 5 st sl so st1 sl so := by rw [est1]; exact hF.up (dc_sn (o := 0) (by omega))
  have hT : TC B g m p ad st1 sl so := by rw [est1]; exact hT.up (by omega)
  refine lv_aload_n hx hb dX7_clear_5 rfl (lv_at hl 0 rfl) ?_
  refine lv_iconst (v := 0) hx hb dX7_clear_6 (by decide) ?_
  refine va_put (D := (dC, dI)) (ci := 8) (v := .int 0) (ty := .int) (C := RX7) (T := TX7) (N := 5) hx hb hts ii_X7_clear_X7 tyX7 tyX7_ok nmX7 hown hK hP (xD hN _ _ _ _ _ _) hS (20 + 4 * 1) (xw_is (r := (20 + 4 * 1)) (by omega) (xc_sn (q := 1) (o := 0) (by omega) (by omega))) rfl 4 (by decide) (hts _ mm_X7_clear_2) (fun _ hh => hh) rfl (by decide +kernel) rfl rfl (Nat.le_of_ble_eq_true rfl) dX7_clear_7 (fun H locs hP _ hS => ?_)
  have hP : va_P (dC, dI) vwCl (xw A C nb (up2 st1 (20 + 4 * 1) 4 0) sl so) H := by rw [← xset (r := (20 + 4 * 1)) (k := 4) (v := 0) (xc_sn (q := 1) (o := 0) (by omega) (by omega))]; exact hP
  obtain ⟨st2, est2⟩ : ∃ y, y = up2 st1 (20 + 4 * 1) 4 0 := ⟨_, rfl⟩
  have hG : XG [1, 2, 3, 4, 5, 6, 7, 12, 13, 14, 15] st st2 := by rw [est2]; exact hG.up (xz (r := (20 + 4 * 1)) (k := 4) ((xrg_sn (q := 1) (o := 0) (by omega) (by omega)).trans (by first | rfl | decide))) (xpn (c := 0) ((xcl_sn (q := 1) (o := 0) (k := 4) (by omega) (by omega)).trans (by first | rfl | decide)) (by decide))
  rw [← est2] at hP
  have hF : FX 5 st sl so st2 sl so := by rw [est2]; exact hF.up (dc_sn (o := 0) (by omega))
  have hT : TC B g m p ad st2 sl so := by rw [est2]; exact hT.up (by omega)
  exact W.vret hx hb hr (fun t ht hW => ⟨⟨(st2, sl, so), rfl, ⟨hG, hO, hF, ⟨by show st2 (20 + 4 * 1) 4 = _; rw [est2, up2_same], hT, by show st2 1 13 = st 1 13; rw [est2, up2_ne (r := (20 + 4 * 1)) (k := 4) (a := 1) (j := 13) _ _ (by omega), est1, up2_ne (r := (20 + 4 * 1)) (k := 3) (a := 1) (j := 13) _ _ (by omega)]⟩⟩, xB.of ht hP⟩, hS.F ht⟩) hS.2.2 dX7_clear_10
set_option maxHeartbeats 4000000 in
set_option maxRecDepth 100000 in
theorem y_closeTy (l : Launch) (dC : Nat → ClassId) (dI : Nat → Nat → Nat) (ad : Nat → Nat) (E : EP) (hEE : EC ad E) (A : Nat → Nat) (C : Nat → ClassId) (nb sz : Nat) (hN : XN A) (st : Nat → Nat → Int32) (sl : Nat → Nat → Int64) (so : Nat → XR) (hI : XI st) (hOI : OI ad so) : Met l yX11_closeTape wsX11_closeTape ({ frames := 0, cells := 0, slots := 0, locals := 0 }) (va_Pc [.ref (A 0)] (xPre E dC dI A C nb sz st sl so)) (va_Qv (fun (x : XT) => XG [2, 3, 4, 5, 6, 7, 8, 9, 10, 11, 13, 14, 15] st x.1 ∧ OG ad [1, 2, 3, 4] so x.2.2 ∧ (x.1 0 16 = st 1 13 ∧ x.1 1 14 = st 1 14 ∧ x.1 (20 + 4 * 1) 4 = st (20 + 4 * 1) 4)) (xB dC dI A C nb) (XA A sz)) 0 0 (XA A sz) := by
  refine Met.ofW (cc := cX11_closeTape) (maxL := 1) (ret := none) (by decide) rfl ?_
  intro p9 e s m9 args below meth c9 s₁ B9 hml hv
  obtain ⟨rfl, hsz, hP, hK, hE⟩ := hv
  have hx := B9.exec
  have hb := B9.bytes
  have hr := B9.returns
  have hts := atoms_spec (ws := wsX11_closeTape) B9.pre
  have hown : s.vm.findClass RX11 = some m9.cls := findClass_of_methodNamed B9.named
  subst hsz
  have hEv := hEE.1 _ _ _ hE
  have hS : va_S (XA A s.heap.size) s.heap s.heap [] := va_S.rf
  have hG : XG [2, 3, 4, 5, 6, 7, 8, 9, 10, 11, 13, 14, 15] st st := XG.rf hI
  have hO : OG ad [1, 2, 3, 4] so so := OG.rf hOI
  have hl := lv_entry ([.ref (A 0)]) (n := 1) (Nat.le_of_ble_eq_true rfl)
  rw [lg_entry_eq]
  generalize (lg_sl ([.ref (A 0)]) ++ List.replicate (1 - (lg_sl ([.ref (A 0)])).length) Slot.unset).toArray = ls at hl ⊢
  have hl : lv_has ls 1 [(0, .ref (A 0))] := hl
  refine lv_aload_n hx hb dX11_closeTape_0 rfl (lv_at hl 0 rfl) ?_
  refine lv_aload_n hx hb dX11_closeTape_1 rfl (lv_at hl 0 rfl) ?_
  refine va_get (D := (dC, dI)) (ci := 10) (v := .ref (A 1)) (C := RX11) (T := TX11) (N := 19) hx hb hts ii_X11_closeTape_X11 hown hK hP 0 (xw_is (r := 0) (by omega) (xc_fix (r := 0) (by omega))) rfl 0 (by decide) (hts _ mm_X11_closeTape_1) (fun _ hh => hh) rfl dX11_closeTape_2 ?_
  refine va_getN (host := "OffTheLead") (D := (dC, dI)) (ci := 9) (v := .int (st 1 13)) (C := RX8) (T := TX8) (N := 15) hx hb hts ii_X11_closeTape_X8 hown hK hP 1 (xw_is (r := 1) (by omega) (xc_fix (r := 1) (by omega))) rfl 13 (by decide) (va_Nw.use rfl (nf_X11_380 hEv)) (fun _ hh => hh) rfl dX11_closeTape_5 ?_
  obtain ⟨z1, ez1⟩ : ∃ y : Int32, st 1 13 = y := ⟨_, rfl⟩
  refine zz_top (v := z1) (by exact ez1) ?_
  refine va_put (D := (dC, dI)) (ci := 10) (v := .int z1) (ty := .int) (C := RX11) (T := TX11) (N := 19) hx hb hts ii_X11_closeTape_X11 tyX11 tyX11_ok nmX11 hown hK hP (xD hN _ _ _ _ _ _) hS 0 (xw_is (r := 0) (by omega) (xc_fix (r := 0) (by omega))) rfl 16 (by decide) (hts _ mm_X11_closeTape_2) (fun _ hh => hh) rfl (by decide +kernel) rfl rfl (Nat.le_of_ble_eq_true rfl) dX11_closeTape_8 (fun H locs hP _ hS => ?_)
  have hP : va_P (dC, dI) vwCl (xw A C nb (up2 st 0 16 z1) sl so) H := by rw [← xset (r := 0) (k := 16) (v := z1) (xc_fix (r := 0) (by omega))]; exact hP
  obtain ⟨st2, est2⟩ : ∃ y, y = up2 st 0 16 z1 := ⟨_, rfl⟩
  have hG : XG [2, 3, 4, 5, 6, 7, 8, 9, 10, 11, 13, 14, 15] st st2 := by rw [est2]; exact hG.up (xz (r := 0) (k := 16) (by decide : xrg 0 16 = 0)) (xpn (c := 12) (by decide : xcl 0 16 = 12) (by decide))
  rw [← est2] at hP
  refine lv_aload_n hx hb dX11_closeTape_11 rfl (lv_at hl 0 rfl) ?_
  refine va_get (D := (dC, dI)) (ci := 10) (v := .ref (A 1)) (C := RX11) (T := TX11) (N := 19) hx hb hts ii_X11_closeTape_X11 hown hK hP 0 (xw_is (r := 0) (by omega) (xc_fix (r := 0) (by omega))) rfl 0 (by decide) (hts _ mm_X11_closeTape_1) (fun _ hh => hh) rfl dX11_closeTape_12 ?_
  refine lv_iconst (v := 0) hx hb dX11_closeTape_15 (by decide) ?_
  refine va_putN (host := "OffTheLead") (D := (dC, dI)) (ci := 9) (v := .int 0) (ty := .int) (C := RX8) (T := TX8) (N := 15) hx hb hts ii_X11_closeTape_X8 tyX8 tyX8_ok nmX8 hown hK hP (xD hN _ _ _ _ _ _) hS 1 (xw_is (r := 1) (by omega) (xc_fix (r := 1) (by omega))) rfl 1 (by decide) (va_Nw.use rfl (nf_X11_100 hEv)) (fun _ hh => hh) rfl (by decide +kernel) rfl rfl (Nat.le_of_ble_eq_true rfl) dX11_closeTape_16 (fun H locs hP _ hS => ?_)
  have hP : va_P (dC, dI) vwCl (xw A C nb (up2 st2 1 1 0) sl so) H := by rw [← xset (r := 1) (k := 1) (v := 0) (xc_fix (r := 1) (by omega))]; exact hP
  obtain ⟨st3, est3⟩ : ∃ y, y = up2 st2 1 1 0 := ⟨_, rfl⟩
  have hG : XG [2, 3, 4, 5, 6, 7, 8, 9, 10, 11, 13, 14, 15] st st3 := by rw [est3]; exact hG.up (xn (n := 0) (b := 941) (by decide : xrg 1 1 = 941) (by omega)) (xpn (c := 1) (by decide : xcl 1 1 = 1) (by decide))
  rw [← est3] at hP
  exact W.vret hx hb hr (fun t ht hW => ⟨⟨(st3, sl, so), rfl, ⟨hG, hO, ⟨by show st3 0 16 = st 1 13; rw [est3, up2_ne (r := 1) (k := 1) (a := 0) (j := 16) _ _ (by omega), est2, up2_same]; exact ez1.symm, by show st3 1 14 = st 1 14; rw [est3, up2_ne (r := 1) (k := 1) (a := 1) (j := 14) _ _ (by omega), est2, up2_ne (r := 0) (k := 16) (a := 1) (j := 14) _ _ (by omega)], by show st3 (20 + 4 * 1) 4 = st (20 + 4 * 1) 4; rw [est3, up2_ne (r := 1) (k := 1) (a := (20 + 4 * 1)) (j := 4) _ _ (by omega), est2, up2_ne (r := 0) (k := 16) (a := (20 + 4 * 1)) (j := 4) _ _ (by omega)]⟩⟩, xB.of ht hP⟩, hS.F ht⟩) hS.2.2 dX11_closeTape_19
set_option maxHeartbeats 4000000 in
set_option maxRecDepth 100000 in
theorem y_copy01y (l : Launch) (dC : Nat → ClassId) (dI : Nat → Nat → Nat) (ad : Nat → Nat) (E : EP) (hEE : EC ad E) (A : Nat → Nat) (C : Nat → ClassId) (nb sz : Nat) (hN : XN A) (st : Nat → Nat → Int32) (sl : Nat → Nat → Int64) (so : Nat → XR) (go : Nat) (hI : XI st) (hOI : OI ad so) (h4 : st (20 + 4 * 1) 4 = nI go) (hgo : go ≤ 20) : Met l yX7_copyFrom wsX7_copyFrom ({ frames := 0, cells := 0, slots := 0, locals := 0 }) (va_Pc [.ref (A (20 + 4 * 0)), .ref (A (20 + 4 * 1))] (xPre E dC dI A C nb sz st sl so)) (va_Qv (fun (x : XT) => XG [1, 2, 3, 6, 7, 8, 9, 10, 11, 12, 13, 14, 15] st x.1 ∧ OG ad [1, 2, 3] so x.2.2 ∧ (x.1 (20 + 4 * 0) 4 = nI go ∧ x.1 0 16 = st 0 16)) (xB dC dI A C nb) (XA A sz)) 0 0 (XA A sz) := by
  refine Met.ofW (cc := cX7_copyFrom) (maxL := 3) (ret := none) (by decide) rfl ?_
  intro p9 e s m9 args below meth c9 s₁ B9 hml hv
  obtain ⟨rfl, hsz, hP, hK, hE⟩ := hv
  have hx := B9.exec
  have hb := B9.bytes
  have hr := B9.returns
  have hts := atoms_spec (ws := wsX7_copyFrom) B9.pre
  have hown : s.vm.findClass RX7 = some m9.cls := findClass_of_methodNamed B9.named
  subst hsz
  have hEv := hEE.1 _ _ _ hE
  have hS : va_S (XA A s.heap.size) s.heap s.heap [] := va_S.rf
  have hG : XG [1, 2, 3, 6, 7, 8, 9, 10, 11, 12, 13, 14, 15] st st := XG.rf hI
  have hO : OG ad [1, 2, 3] so so := OG.rf hOI
  have hl := lv_entry ([.ref (A (20 + 4 * 0)), .ref (A (20 + 4 * 1))]) (n := 3) (Nat.le_of_ble_eq_true rfl)
  rw [lg_entry_eq]
  generalize (lg_sl ([.ref (A (20 + 4 * 0)), .ref (A (20 + 4 * 1))]) ++ List.replicate (3 - (lg_sl ([.ref (A (20 + 4 * 0)), .ref (A (20 + 4 * 1))])).length) Slot.unset).toArray = ls at hl ⊢
  have hl : lv_has ls 3 [(0, .ref (A (20 + 4 * 0))), (1, .ref (A (20 + 4 * 1)))] := hl
  refine lv_aload_n hx hb dX7_copyFrom_0 rfl (lv_at hl 0 rfl) ?_
  refine lv_aload_n hx hb dX7_copyFrom_1 rfl (lv_at hl 1 rfl) ?_
  refine va_get (D := (dC, dI)) (ci := 8) (v := .int (st (20 + 4 * 1) 3)) (C := RX7) (T := TX7) (N := 5) hx hb hts ii_X7_copyFrom_X7 hown hK hP (20 + 4 * 1) (xw_is (r := (20 + 4 * 1)) (by omega) (xc_sn (q := 1) (o := 0) (by omega) (by omega))) rfl 3 (by decide) (hts _ mm_X7_copyFrom_1) (fun _ hh => hh) rfl dX7_copyFrom_2 ?_
  obtain ⟨n1, hn1, en1⟩ := hG.1.at (r := (20 + 4 * 1)) (k := 3) (b := 41) ((xrg_sn (q := 1) (o := 0) (by omega) (by omega)).trans (by first | rfl | decide)) (by decide)
  refine zz_top (v := nI n1) (by exact en1) ?_
  refine va_put (D := (dC, dI)) (ci := 8) (v := .int (nI n1)) (ty := .int) (C := RX7) (T := TX7) (N := 5) hx hb hts ii_X7_copyFrom_X7 tyX7 tyX7_ok nmX7 hown hK hP (xD hN _ _ _ _ _ _) hS (20 + 4 * 0) (xw_is (r := (20 + 4 * 0)) (by omega) (xc_sn (q := 0) (o := 0) (by omega) (by omega))) rfl 3 (by decide) (hts _ mm_X7_copyFrom_1) (fun _ hh => hh) rfl (by decide +kernel) rfl rfl (Nat.le_of_ble_eq_true rfl) dX7_copyFrom_5 (fun H locs hP _ hS => ?_)
  have hP : va_P (dC, dI) vwCl (xw A C nb (up2 st (20 + 4 * 0) 3 (nI n1)) sl so) H := by rw [← xset (r := (20 + 4 * 0)) (k := 3) (v := (nI n1)) (xc_sn (q := 0) (o := 0) (by omega) (by omega))]; exact hP
  obtain ⟨st2, est2⟩ : ∃ y, y = up2 st (20 + 4 * 0) 3 (nI n1) := ⟨_, rfl⟩
  have hG : XG [1, 2, 3, 6, 7, 8, 9, 10, 11, 12, 13, 14, 15] st st2 := by rw [est2]; exact hG.up (xn (n := n1) (b := 41) ((xrg_sn (q := 0) (o := 0) (by omega) (by omega)).trans (by first | rfl | decide)) (by omega)) (xpn (c := 5) ((xcl_sn (q := 0) (o := 0) (k := 3) (by omega) (by omega)).trans (by first | rfl | decide)) (by decide))
  rw [← est2] at hP
  refine lv_aload_n hx hb dX7_copyFrom_8 rfl (lv_at hl 0 rfl) ?_
  refine lv_aload_n hx hb dX7_copyFrom_9 rfl (lv_at hl 1 rfl) ?_
  refine va_get (D := (dC, dI)) (ci := 8) (v := .int (st2 (20 + 4 * 1) 4)) (C := RX7) (T := TX7) (N := 5) hx hb hts ii_X7_copyFrom_X7 hown hK hP (20 + 4 * 1) (xw_is (r := (20 + 4 * 1)) (by omega) (xc_sn (q := 1) (o := 0) (by omega) (by omega))) rfl 4 (by decide) (hts _ mm_X7_copyFrom_2) (fun _ hh => hh) rfl dX7_copyFrom_10 ?_
  refine zz_top (v := (nI go)) (by show st2 (20 + 4 * 1) 4 = _; rw [est2, up2_ne (r := (20 + 4 * 0)) (k := 3) (a := (20 + 4 * 1)) (j := 4) _ _ (by omega), h4]) ?_
  refine va_put (D := (dC, dI)) (ci := 8) (v := .int (nI go)) (ty := .int) (C := RX7) (T := TX7) (N := 5) hx hb hts ii_X7_copyFrom_X7 tyX7 tyX7_ok nmX7 hown hK hP (xD hN _ _ _ _ _ _) hS (20 + 4 * 0) (xw_is (r := (20 + 4 * 0)) (by omega) (xc_sn (q := 0) (o := 0) (by omega) (by omega))) rfl 4 (by decide) (hts _ mm_X7_copyFrom_2) (fun _ hh => hh) rfl (by decide +kernel) rfl rfl (Nat.le_of_ble_eq_true rfl) dX7_copyFrom_13 (fun H locs hP _ hS => ?_)
  have hP : va_P (dC, dI) vwCl (xw A C nb (up2 st2 (20 + 4 * 0) 4 (nI go)) sl so) H := by rw [← xset (r := (20 + 4 * 0)) (k := 4) (v := (nI go)) (xc_sn (q := 0) (o := 0) (by omega) (by omega))]; exact hP
  obtain ⟨st3, est3⟩ : ∃ y, y = up2 st2 (20 + 4 * 0) 4 (nI go) := ⟨_, rfl⟩
  have hG : XG [1, 2, 3, 6, 7, 8, 9, 10, 11, 12, 13, 14, 15] st st3 := by rw [est3]; exact hG.up (xz (r := (20 + 4 * 0)) (k := 4) ((xrg_sn (q := 0) (o := 0) (by omega) (by omega)).trans (by first | rfl | decide))) (xpn (c := 0) ((xcl_sn (q := 0) (o := 0) (k := 4) (by omega) (by omega)).trans (by first | rfl | decide)) (by decide))
  rw [← est3] at hP
  refine lv_iconst (v := 0) hx hb dX7_copyFrom_16 (by decide) ?_
  refine lv_istore_n (lv' := [(2, .int 0), (0, .ref (A (20 + 4 * 0))), (1, .ref (A (20 + 4 * 1)))]) hx hb dX7_copyFrom_17 rfl hl (by decide) rfl (fun ls hl => ?_)
  refine zz_wf (fun n stk H locs ls => ∃ k4 : Nat, ∃ st5 : Nat → Nat → Int32, ∃ sl6 : Nat → Nat → Int64, ∃ so7 : Nat → XR, n = 41 - k4 ∧ 0 ≤ k4 ∧ k4 < 41 ∧ st5 0 16 = st 0 16 ∧ st5 (20 + 4 * 0) 4 = nI go ∧ va_P (dC, dI) vwCl (xw A C nb st5 sl6 so7) H ∧ XG [1, 2, 3, 6, 7, 8, 9, 10, 11, 12, 13, 14, 15] st st5 ∧ OG ad [1, 2, 3] so so7 ∧ va_S (XA A s.heap.size) s.heap H locs ∧ lv_has ls 3 [(2, .int (nI k4)), (0, .ref (A (20 + 4 * 0))), (1, .ref (A (20 + 4 * 1)))] ∧ stk = []) ?_ (41 - 0) _ _ _ _ ⟨0, st3, sl, so, rfl, by omega, by omega, by show st3 0 16 = st 0 16; rw [est3, up2_ne (r := (20 + 4 * 0)) (k := 4) (a := 0) (j := 16) _ _ (by omega), est2, up2_ne (r := (20 + 4 * 0)) (k := 3) (a := 0) (j := 16) _ _ (by omega)], by show st3 (20 + 4 * 0) 4 = _; rw [est3, up2_same], hP, hG, hO, hS, lv_sub hl [0, 1, 2] rfl, rfl⟩
  rintro nn stk H locs ls ⟨k4, st5, sl6, so7, hm11, hv8_0, hv9_1, hv10_0, hv11_1, hP, hG, hO, hS, hl, rfl⟩ ih12
  refine lv_iload_n hx hb dX7_copyFrom_18 rfl (lv_at hl 0 rfl) ?_
  refine lv_aload_n hx hb dX7_copyFrom_19 rfl (lv_at hl 1 rfl) ?_
  refine va_get (D := (dC, dI)) (ci := 8) (v := .int (st5 (20 + 4 * 0) 3)) (C := RX7) (T := TX7) (N := 5) hx hb hts ii_X7_copyFrom_X7 hown hK hP (20 + 4 * 0) (xw_is (r := (20 + 4 * 0)) (by omega) (xc_sn (q := 0) (o := 0) (by omega) (by omega))) rfl 3 (by decide) (hts _ mm_X7_copyFrom_1) (fun _ hh => hh) rfl dX7_copyFrom_20 ?_
  obtain ⟨n13, hn13, en13⟩ := hG.1.at (r := (20 + 4 * 0)) (k := 3) (b := 41) ((xrg_sn (q := 0) (o := 0) (by omega) (by omega)).trans (by first | rfl | decide)) (by decide)
  refine zz_top (v := nI n13) (by exact en13) ?_
  refine lv_icmp_ge (tgt := 68) hx hb dX7_copyFrom_23 (by decide) (fun c1 => ?_) (fun c1 => ?_)
  · have c1 : n13 ≤ k4 := (nI_leI (a := n13) (b := k4) (by omega) (by omega)).mp c1
    exact W.vret hx hb hr (fun t ht hW => ⟨⟨(st5, sl6, so7), rfl, ⟨hG, hO, ⟨by show st5 (20 + 4 * 0) 4 = _; rw [hv11_1], hv10_0⟩⟩, xB.of ht hP⟩, hS.F ht⟩) hS.2.2 dX7_copyFrom_68
  · have c1 : ¬ n13 ≤ k4 := fun hh => c1 ((nI_leI (a := n13) (b := k4) (by omega) (by omega)).mpr hh)
    refine lv_aload_n hx hb dX7_copyFrom_26 rfl (lv_at hl 1 rfl) ?_
    refine va_get (D := (dC, dI)) (ci := 8) (v := .ref (A (20 + 4 * 0 + 1))) (C := RX7) (T := TX7) (N := 5) hx hb hts ii_X7_copyFrom_X7 hown hK hP (20 + 4 * 0) (xw_is (r := (20 + 4 * 0)) (by omega) (xc_sn (q := 0) (o := 0) (by omega) (by omega))) rfl 0 (by decide) (hts _ mm_X7_copyFrom_3) (fun _ hh => hh) rfl dX7_copyFrom_27 ?_
    refine lv_iload_n hx hb dX7_copyFrom_30 rfl (lv_at hl 0 rfl) ?_
    refine lv_aload_n hx hb dX7_copyFrom_31 rfl (lv_at hl 2 rfl) ?_
    refine va_get (D := (dC, dI)) (ci := 8) (v := .ref (A (20 + 4 * 1 + 1))) (C := RX7) (T := TX7) (N := 5) hx hb hts ii_X7_copyFrom_X7 hown hK hP (20 + 4 * 1) (xw_is (r := (20 + 4 * 1)) (by omega) (xc_sn (q := 1) (o := 0) (by omega) (by omega))) rfl 0 (by decide) (hts _ mm_X7_copyFrom_3) (fun _ hh => hh) rfl dX7_copyFrom_32 ?_
    refine lv_iload_n hx hb dX7_copyFrom_35 rfl (lv_at hl 0 rfl) ?_
    refine va_aldq hx hb hK hP (20 + 4 * 1 + 1) (20 + 4 * 1 + 1) (xw_is (r := (20 + 4 * 1 + 1)) (by omega) (xc_sn (q := 1) (o := 1) (by omega) (by omega))) (xt_is (r := (20 + 4 * 1 + 1)) (by omega) ((xty_sn (q := 1) (o := 1) (by omega) (by omega)).trans rfl)) (i := (nI k4)) (vp_in_nI (by omega) (by decide)) dX7_copyFrom_36 ?_
    refine zz_topq (r := so7 (20 + 4 * 1 + 1) k4) (by rw [nI_clamp (by omega)]) ?_
    rcases hO.1.1 (20 + 4 * 1 + 1) k4 with ej14 | ⟨j14, hj14, ej14⟩
    · refine zz_topq (r := none) (by exact ej14) ?_
      refine zz_astw (x := none) hx hb hEv hK hP (xD hN _ _ _ _ _ _) hS (20 + 4 * 0 + 1) (20 + 4 * 0 + 1) (xw_is (r := (20 + 4 * 0 + 1)) (by omega) (xc_sn (q := 0) (o := 1) (by omega) (by omega))) (xt_is (r := (20 + 4 * 0 + 1)) (by omega) ((xty_sn (q := 0) (o := 1) (by omega) (by omega)).trans rfl)) (Or.inl rfl) (i := (nI k4)) (vp_in_nI (by omega) (by decide)) dX7_copyFrom_37 (fun H locs hP _ hS => ?_)
      rw [nI_clamp (by omega)] at hP
      have hP : va_P (dC, dI) vwCl (xw A C nb st5 sl6 (upO so7 (20 + 4 * 0 + 1) k4 none)) H := by rw [← xsetO (r := (20 + 4 * 0 + 1)) (k := k4) (v := none) (xc_sn (q := 0) (o := 1) (by omega) (by omega))]; exact hP
      obtain ⟨so15, eso15⟩ : ∃ y, y = upO so7 (20 + 4 * 0 + 1) k4 none := ⟨_, rfl⟩
      have hO : OG ad [1, 2, 3] so so15 := by rw [eso15]; exact hO.up (Or.inl rfl) (fun hh => absurd hh (by omega)) (by decide)
      rw [← eso15] at hP
      refine lv_aload_n hx hb dX7_copyFrom_38 rfl (lv_at hl 1 rfl) ?_
      refine va_get (D := (dC, dI)) (ci := 8) (v := .ref (A (20 + 4 * 0 + 2))) (C := RX7) (T := TX7) (N := 5) hx hb hts ii_X7_copyFrom_X7 hown hK hP (20 + 4 * 0) (xw_is (r := (20 + 4 * 0)) (by omega) (xc_sn (q := 0) (o := 0) (by omega) (by omega))) rfl 1 (by decide) (hts _ mm_X7_copyFrom_4) (fun _ hh => hh) rfl dX7_copyFrom_39 ?_
      refine lv_iload_n hx hb dX7_copyFrom_42 rfl (lv_at hl 0 rfl) ?_
      refine lv_aload_n hx hb dX7_copyFrom_43 rfl (lv_at hl 2 rfl) ?_
      refine va_get (D := (dC, dI)) (ci := 8) (v := .ref (A (20 + 4 * 1 + 2))) (C := RX7) (T := TX7) (N := 5) hx hb hts ii_X7_copyFrom_X7 hown hK hP (20 + 4 * 1) (xw_is (r := (20 + 4 * 1)) (by omega) (xc_sn (q := 1) (o := 0) (by omega) (by omega))) rfl 1 (by decide) (hts _ mm_X7_copyFrom_4) (fun _ hh => hh) rfl dX7_copyFrom_44 ?_
      refine lv_iload_n hx hb dX7_copyFrom_47 rfl (lv_at hl 0 rfl) ?_
      refine va_iald hx hb hK hP (20 + 4 * 1 + 2) (20 + 4 * 1 + 2) (xw_is (r := (20 + 4 * 1 + 2)) (by omega) (xc_sn (q := 1) (o := 2) (by omega) (by omega))) (xt_is (r := (20 + 4 * 1 + 2)) (by omega) ((xty_sn (q := 1) (o := 2) (by omega) (by omega)).trans rfl)) (i := (nI k4)) (vp_in_nI (by omega) (by decide)) dX7_copyFrom_48 ?_
      obtain ⟨z16, ez16⟩ : ∃ y : Int32, st5 (20 + 4 * 1 + 2) k4 = y := ⟨_, rfl⟩
      refine zz_top (v := z16) (by rw [nI_clamp (by omega)]; exact ez16) ?_
      refine va_iast hx hb hK hP (xD hN _ _ _ _ _ _) hS (20 + 4 * 0 + 2) (20 + 4 * 0 + 2) (xw_is (r := (20 + 4 * 0 + 2)) (by omega) (xc_sn (q := 0) (o := 2) (by omega) (by omega))) (xt_is (r := (20 + 4 * 0 + 2)) (by omega) ((xty_sn (q := 0) (o := 2) (by omega) (by omega)).trans rfl)) (i := (nI k4)) (vp_in_nI (by omega) (by decide)) dX7_copyFrom_49 (fun H locs hP _ hS => ?_)
      rw [nI_clamp (by omega)] at hP
      have hP : va_P (dC, dI) vwCl (xw A C nb (up2 st5 (20 + 4 * 0 + 2) k4 z16) sl6 so15) H := by rw [← xset (r := (20 + 4 * 0 + 2)) (k := k4) (v := z16) (xc_sn (q := 0) (o := 2) (by omega) (by omega))]; exact hP
      obtain ⟨st17, est17⟩ : ∃ y, y = up2 st5 (20 + 4 * 0 + 2) k4 z16 := ⟨_, rfl⟩
      have hG : XG [1, 2, 3, 6, 7, 8, 9, 10, 11, 12, 13, 14, 15] st st17 := by rw [est17]; exact hG.up (xz (r := (20 + 4 * 0 + 2)) (k := k4) ((xrg_sn (q := 0) (o := 2) (by omega) (by omega)).trans (by first | rfl | decide))) (xpn (c := 0) ((xcl_sn (q := 0) (o := 2) (k := k4) (by omega) (by omega)).trans (by first | rfl | decide)) (by decide))
      rw [← est17] at hP
      refine lv_aload_n hx hb dX7_copyFrom_50 rfl (lv_at hl 1 rfl) ?_
      refine va_get (D := (dC, dI)) (ci := 8) (v := .ref (A (20 + 4 * 0 + 3))) (C := RX7) (T := TX7) (N := 5) hx hb hts ii_X7_copyFrom_X7 hown hK hP (20 + 4 * 0) (xw_is (r := (20 + 4 * 0)) (by omega) (xc_sn (q := 0) (o := 0) (by omega) (by omega))) rfl 2 (by decide) (hts _ mm_X7_copyFrom_5) (fun _ hh => hh) rfl dX7_copyFrom_51 ?_
      refine lv_iload_n hx hb dX7_copyFrom_54 rfl (lv_at hl 0 rfl) ?_
      refine lv_aload_n hx hb dX7_copyFrom_55 rfl (lv_at hl 2 rfl) ?_
      refine va_get (D := (dC, dI)) (ci := 8) (v := .ref (A (20 + 4 * 1 + 3))) (C := RX7) (T := TX7) (N := 5) hx hb hts ii_X7_copyFrom_X7 hown hK hP (20 + 4 * 1) (xw_is (r := (20 + 4 * 1)) (by omega) (xc_sn (q := 1) (o := 0) (by omega) (by omega))) rfl 2 (by decide) (hts _ mm_X7_copyFrom_5) (fun _ hh => hh) rfl dX7_copyFrom_56 ?_
      refine lv_iload_n hx hb dX7_copyFrom_59 rfl (lv_at hl 0 rfl) ?_
      refine va_iald hx hb hK hP (20 + 4 * 1 + 3) (20 + 4 * 1 + 3) (xw_is (r := (20 + 4 * 1 + 3)) (by omega) (xc_sn (q := 1) (o := 3) (by omega) (by omega))) (xt_is (r := (20 + 4 * 1 + 3)) (by omega) ((xty_sn (q := 1) (o := 3) (by omega) (by omega)).trans rfl)) (i := (nI k4)) (vp_in_nI (by omega) (by decide)) dX7_copyFrom_60 ?_
      obtain ⟨z18, ez18⟩ : ∃ y : Int32, st17 (20 + 4 * 1 + 3) k4 = y := ⟨_, rfl⟩
      refine zz_top (v := z18) (by rw [nI_clamp (by omega)]; exact ez18) ?_
      refine va_iast hx hb hK hP (xD hN _ _ _ _ _ _) hS (20 + 4 * 0 + 3) (20 + 4 * 0 + 3) (xw_is (r := (20 + 4 * 0 + 3)) (by omega) (xc_sn (q := 0) (o := 3) (by omega) (by omega))) (xt_is (r := (20 + 4 * 0 + 3)) (by omega) ((xty_sn (q := 0) (o := 3) (by omega) (by omega)).trans rfl)) (i := (nI k4)) (vp_in_nI (by omega) (by decide)) dX7_copyFrom_61 (fun H locs hP _ hS => ?_)
      rw [nI_clamp (by omega)] at hP
      have hP : va_P (dC, dI) vwCl (xw A C nb (up2 st17 (20 + 4 * 0 + 3) k4 z18) sl6 so15) H := by rw [← xset (r := (20 + 4 * 0 + 3)) (k := k4) (v := z18) (xc_sn (q := 0) (o := 3) (by omega) (by omega))]; exact hP
      obtain ⟨st19, est19⟩ : ∃ y, y = up2 st17 (20 + 4 * 0 + 3) k4 z18 := ⟨_, rfl⟩
      have hG : XG [1, 2, 3, 6, 7, 8, 9, 10, 11, 12, 13, 14, 15] st st19 := by rw [est19]; exact hG.up (xz (r := (20 + 4 * 0 + 3)) (k := k4) ((xrg_sn (q := 0) (o := 3) (by omega) (by omega)).trans (by first | rfl | decide))) (xpn (c := 4) ((xcl_sn (q := 0) (o := 3) (k := k4) (by omega) (by omega)).trans (by first | rfl | decide)) (by decide))
      rw [← est19] at hP
      refine lv_iinc (v := (nI (k4 + 1))) (lv' := [(2, .int (nI (k4 + 1))), (0, .ref (A (20 + 4 * 0))), (1, .ref (A (20 + 4 * 1)))]) hx hb dX7_copyFrom_62 hl (k := 0) rfl (nI_add k4 1) (by decide) rfl (fun ls hl => ?_)
      refine lv_goto (tgt := 18) hx hb dX7_copyFrom_65 (by decide) ?_
      exact ih12 (41 - (k4 + 1)) _ _ _ _ (by omega) ⟨(k4 + 1), st19, sl6, so15, rfl, by omega, by omega, by show st19 0 16 = st 0 16; rw [est19, up2_ne (r := (20 + 4 * 0 + 3)) (k := k4) (a := 0) (j := 16) _ _ (by omega), est17, up2_ne (r := (20 + 4 * 0 + 2)) (k := k4) (a := 0) (j := 16) _ _ (by omega)]; exact hv10_0, by show st19 (20 + 4 * 0) 4 = _; rw [est19, up2_ne (r := (20 + 4 * 0 + 3)) (k := k4) (a := (20 + 4 * 0)) (j := 4) _ _ (by omega), est17, up2_ne (r := (20 + 4 * 0 + 2)) (k := k4) (a := (20 + 4 * 0)) (j := 4) _ _ (by omega), hv11_1], hP, hG, hO, hS, lv_sub hl [0, 1, 2] rfl, rfl⟩
    · refine zz_topq (r := (some (ad j14))) (by exact ej14) ?_
      refine zz_astw (x := (some (ad j14))) hx hb hEv hK hP (xD hN _ _ _ _ _ _) hS (20 + 4 * 0 + 1) (20 + 4 * 0 + 1) (xw_is (r := (20 + 4 * 0 + 1)) (by omega) (xc_sn (q := 0) (o := 1) (by omega) (by omega))) (xt_is (r := (20 + 4 * 0 + 1)) (by omega) ((xty_sn (q := 0) (o := 1) (by omega) (by omega)).trans rfl)) (isW.of (by omega)) (i := (nI k4)) (vp_in_nI (by omega) (by decide)) dX7_copyFrom_37 (fun H locs hP _ hS => ?_)
      rw [nI_clamp (by omega)] at hP
      have hP : va_P (dC, dI) vwCl (xw A C nb st5 sl6 (upO so7 (20 + 4 * 0 + 1) k4 (some (ad j14)))) H := by rw [← xsetO (r := (20 + 4 * 0 + 1)) (k := k4) (v := (some (ad j14))) (xc_sn (q := 0) (o := 1) (by omega) (by omega))]; exact hP
      obtain ⟨so20, eso20⟩ : ∃ y, y = upO so7 (20 + 4 * 0 + 1) k4 (some (ad j14)) := ⟨_, rfl⟩
      have hO : OG ad [1, 2, 3] so so20 := by rw [eso20]; exact hO.up (isW.of (by omega)) (fun hh => absurd hh (by omega)) (by decide)
      rw [← eso20] at hP
      refine lv_aload_n hx hb dX7_copyFrom_38 rfl (lv_at hl 1 rfl) ?_
      refine va_get (D := (dC, dI)) (ci := 8) (v := .ref (A (20 + 4 * 0 + 2))) (C := RX7) (T := TX7) (N := 5) hx hb hts ii_X7_copyFrom_X7 hown hK hP (20 + 4 * 0) (xw_is (r := (20 + 4 * 0)) (by omega) (xc_sn (q := 0) (o := 0) (by omega) (by omega))) rfl 1 (by decide) (hts _ mm_X7_copyFrom_4) (fun _ hh => hh) rfl dX7_copyFrom_39 ?_
      refine lv_iload_n hx hb dX7_copyFrom_42 rfl (lv_at hl 0 rfl) ?_
      refine lv_aload_n hx hb dX7_copyFrom_43 rfl (lv_at hl 2 rfl) ?_
      refine va_get (D := (dC, dI)) (ci := 8) (v := .ref (A (20 + 4 * 1 + 2))) (C := RX7) (T := TX7) (N := 5) hx hb hts ii_X7_copyFrom_X7 hown hK hP (20 + 4 * 1) (xw_is (r := (20 + 4 * 1)) (by omega) (xc_sn (q := 1) (o := 0) (by omega) (by omega))) rfl 1 (by decide) (hts _ mm_X7_copyFrom_4) (fun _ hh => hh) rfl dX7_copyFrom_44 ?_
      refine lv_iload_n hx hb dX7_copyFrom_47 rfl (lv_at hl 0 rfl) ?_
      refine va_iald hx hb hK hP (20 + 4 * 1 + 2) (20 + 4 * 1 + 2) (xw_is (r := (20 + 4 * 1 + 2)) (by omega) (xc_sn (q := 1) (o := 2) (by omega) (by omega))) (xt_is (r := (20 + 4 * 1 + 2)) (by omega) ((xty_sn (q := 1) (o := 2) (by omega) (by omega)).trans rfl)) (i := (nI k4)) (vp_in_nI (by omega) (by decide)) dX7_copyFrom_48 ?_
      obtain ⟨z21, ez21⟩ : ∃ y : Int32, st5 (20 + 4 * 1 + 2) k4 = y := ⟨_, rfl⟩
      refine zz_top (v := z21) (by rw [nI_clamp (by omega)]; exact ez21) ?_
      refine va_iast hx hb hK hP (xD hN _ _ _ _ _ _) hS (20 + 4 * 0 + 2) (20 + 4 * 0 + 2) (xw_is (r := (20 + 4 * 0 + 2)) (by omega) (xc_sn (q := 0) (o := 2) (by omega) (by omega))) (xt_is (r := (20 + 4 * 0 + 2)) (by omega) ((xty_sn (q := 0) (o := 2) (by omega) (by omega)).trans rfl)) (i := (nI k4)) (vp_in_nI (by omega) (by decide)) dX7_copyFrom_49 (fun H locs hP _ hS => ?_)
      rw [nI_clamp (by omega)] at hP
      have hP : va_P (dC, dI) vwCl (xw A C nb (up2 st5 (20 + 4 * 0 + 2) k4 z21) sl6 so20) H := by rw [← xset (r := (20 + 4 * 0 + 2)) (k := k4) (v := z21) (xc_sn (q := 0) (o := 2) (by omega) (by omega))]; exact hP
      obtain ⟨st22, est22⟩ : ∃ y, y = up2 st5 (20 + 4 * 0 + 2) k4 z21 := ⟨_, rfl⟩
      have hG : XG [1, 2, 3, 6, 7, 8, 9, 10, 11, 12, 13, 14, 15] st st22 := by rw [est22]; exact hG.up (xz (r := (20 + 4 * 0 + 2)) (k := k4) ((xrg_sn (q := 0) (o := 2) (by omega) (by omega)).trans (by first | rfl | decide))) (xpn (c := 0) ((xcl_sn (q := 0) (o := 2) (k := k4) (by omega) (by omega)).trans (by first | rfl | decide)) (by decide))
      rw [← est22] at hP
      refine lv_aload_n hx hb dX7_copyFrom_50 rfl (lv_at hl 1 rfl) ?_
      refine va_get (D := (dC, dI)) (ci := 8) (v := .ref (A (20 + 4 * 0 + 3))) (C := RX7) (T := TX7) (N := 5) hx hb hts ii_X7_copyFrom_X7 hown hK hP (20 + 4 * 0) (xw_is (r := (20 + 4 * 0)) (by omega) (xc_sn (q := 0) (o := 0) (by omega) (by omega))) rfl 2 (by decide) (hts _ mm_X7_copyFrom_5) (fun _ hh => hh) rfl dX7_copyFrom_51 ?_
      refine lv_iload_n hx hb dX7_copyFrom_54 rfl (lv_at hl 0 rfl) ?_
      refine lv_aload_n hx hb dX7_copyFrom_55 rfl (lv_at hl 2 rfl) ?_
      refine va_get (D := (dC, dI)) (ci := 8) (v := .ref (A (20 + 4 * 1 + 3))) (C := RX7) (T := TX7) (N := 5) hx hb hts ii_X7_copyFrom_X7 hown hK hP (20 + 4 * 1) (xw_is (r := (20 + 4 * 1)) (by omega) (xc_sn (q := 1) (o := 0) (by omega) (by omega))) rfl 2 (by decide) (hts _ mm_X7_copyFrom_5) (fun _ hh => hh) rfl dX7_copyFrom_56 ?_
      refine lv_iload_n hx hb dX7_copyFrom_59 rfl (lv_at hl 0 rfl) ?_
      refine va_iald hx hb hK hP (20 + 4 * 1 + 3) (20 + 4 * 1 + 3) (xw_is (r := (20 + 4 * 1 + 3)) (by omega) (xc_sn (q := 1) (o := 3) (by omega) (by omega))) (xt_is (r := (20 + 4 * 1 + 3)) (by omega) ((xty_sn (q := 1) (o := 3) (by omega) (by omega)).trans rfl)) (i := (nI k4)) (vp_in_nI (by omega) (by decide)) dX7_copyFrom_60 ?_
      obtain ⟨z23, ez23⟩ : ∃ y : Int32, st22 (20 + 4 * 1 + 3) k4 = y := ⟨_, rfl⟩
      refine zz_top (v := z23) (by rw [nI_clamp (by omega)]; exact ez23) ?_
      refine va_iast hx hb hK hP (xD hN _ _ _ _ _ _) hS (20 + 4 * 0 + 3) (20 + 4 * 0 + 3) (xw_is (r := (20 + 4 * 0 + 3)) (by omega) (xc_sn (q := 0) (o := 3) (by omega) (by omega))) (xt_is (r := (20 + 4 * 0 + 3)) (by omega) ((xty_sn (q := 0) (o := 3) (by omega) (by omega)).trans rfl)) (i := (nI k4)) (vp_in_nI (by omega) (by decide)) dX7_copyFrom_61 (fun H locs hP _ hS => ?_)
      rw [nI_clamp (by omega)] at hP
      have hP : va_P (dC, dI) vwCl (xw A C nb (up2 st22 (20 + 4 * 0 + 3) k4 z23) sl6 so20) H := by rw [← xset (r := (20 + 4 * 0 + 3)) (k := k4) (v := z23) (xc_sn (q := 0) (o := 3) (by omega) (by omega))]; exact hP
      obtain ⟨st24, est24⟩ : ∃ y, y = up2 st22 (20 + 4 * 0 + 3) k4 z23 := ⟨_, rfl⟩
      have hG : XG [1, 2, 3, 6, 7, 8, 9, 10, 11, 12, 13, 14, 15] st st24 := by rw [est24]; exact hG.up (xz (r := (20 + 4 * 0 + 3)) (k := k4) ((xrg_sn (q := 0) (o := 3) (by omega) (by omega)).trans (by first | rfl | decide))) (xpn (c := 4) ((xcl_sn (q := 0) (o := 3) (k := k4) (by omega) (by omega)).trans (by first | rfl | decide)) (by decide))
      rw [← est24] at hP
      refine lv_iinc (v := (nI (k4 + 1))) (lv' := [(2, .int (nI (k4 + 1))), (0, .ref (A (20 + 4 * 0))), (1, .ref (A (20 + 4 * 1)))]) hx hb dX7_copyFrom_62 hl (k := 0) rfl (nI_add k4 1) (by decide) rfl (fun ls hl => ?_)
      refine lv_goto (tgt := 18) hx hb dX7_copyFrom_65 (by decide) ?_
      exact ih12 (41 - (k4 + 1)) _ _ _ _ (by omega) ⟨(k4 + 1), st24, sl6, so20, rfl, by omega, by omega, by show st24 0 16 = st 0 16; rw [est24, up2_ne (r := (20 + 4 * 0 + 3)) (k := k4) (a := 0) (j := 16) _ _ (by omega), est22, up2_ne (r := (20 + 4 * 0 + 2)) (k := k4) (a := 0) (j := 16) _ _ (by omega)]; exact hv10_0, by show st24 (20 + 4 * 0) 4 = _; rw [est24, up2_ne (r := (20 + 4 * 0 + 3)) (k := k4) (a := (20 + 4 * 0)) (j := 4) _ _ (by omega), est22, up2_ne (r := (20 + 4 * 0 + 2)) (k := k4) (a := (20 + 4 * 0)) (j := 4) _ _ (by omega), hv11_1], hP, hG, hO, hS, lv_sub hl [0, 1, 2] rfl, rfl⟩
set_option maxHeartbeats 4000000 in
set_option maxRecDepth 100000 in
theorem y_X11_sentence (l : Launch) (dC : Nat → ClassId) (dI : Nat → Nat → Nat) (ad : Nat → Nat) (E : EP) (hEE : EC ad E) (A : Nat → Nat) (C : Nat → ClassId) (nb sz : Nat) (hN : XN A) (st : Nat → Nat → Int32) (sl : Nat → Nat → Int64) (so : Nat → XR) (B : Nat → Nat) (g : Nat) (c : Nat → Nat) (nm : Nat → Nat → Nat) (hI : XI st) (hOI : OI ad so) (ht : st 1 1 = nI g) (hg : g < 941) (hbt : ∀ j, j < g → st 2 j = sbt (B j) ∧ B j < 256) (hRN : CN c nm st sl 0) : Met l yX11_sentence wsX11_sentence ({ frames := 24, cells := 0, slots := 0, locals := 593 }) (va_Pc [.ref (A 0)] (xPre E dC dI A C nb sz st sl so)) (va_Qi (fun (r : Int32) (x : XT) => XG [2, 3, 6, 7, 13, 14, 15] st x.1 ∧ OG ad [2] so x.2.2 ∧ ((r = sAns (sAll B g 200 c nm)) ∧ x.1 0 16 = nI (sAll B g 200 c nm).1)) (xB dC dI A C nb) (XA A sz)) 0 0 (XA A sz) := by
  refine Met.ofW (cc := cX11_sentence) (maxL := 1) (ret := (some .int)) (by decide) rfl ?_
  intro p9 e s m9 args below meth c9 s₁ B9 hml hv
  obtain ⟨rfl, hsz, hP, hK, hE⟩ := hv
  have hx := B9.exec
  have hb := B9.bytes
  have hr := B9.returns
  have hts := atoms_spec (ws := wsX11_sentence) B9.pre
  have hown : s.vm.findClass RX11 = some m9.cls := findClass_of_methodNamed B9.named
  subst hsz
  have hEv := hEE.1 _ _ _ hE
  have hS : va_S (XA A s.heap.size) s.heap s.heap [] := va_S.rf
  have hG : XG [2, 3, 6, 7, 13, 14, 15] st st := XG.rf hI
  have hO : OG ad [2] so so := OG.rf hOI
  have hl := lv_entry ([.ref (A 0)]) (n := 1) (Nat.le_of_ble_eq_true rfl)
  rw [lg_entry_eq]
  generalize (lg_sl ([.ref (A 0)]) ++ List.replicate (1 - (lg_sl ([.ref (A 0)])).length) Slot.unset).toArray = ls at hl ⊢
  have hl : lv_has ls 1 [(0, .ref (A 0))] := hl
  refine lv_aload_n hx hb dX11_sentence_0 rfl (lv_at hl 0 rfl) ?_
  refine va_get (D := (dC, dI)) (ci := 10) (v := .ref (A 1)) (C := RX11) (T := TX11) (N := 19) hx hb hts ii_X11_sentence_X11 hown hK hP 0 (xw_is (r := 0) (by omega) (xc_fix (r := 0) (by omega))) rfl 0 (by decide) (hts _ mm_X11_sentence_1) (fun _ hh => hh) rfl dX11_sentence_1 ?_
  refine lv_sipush (v := 200) hx hb dX11_sentence_4 (by decide) ?_
  refine va_callv (va_runV (As := [.int 200]) (rest := []) ⟨hx, hb, hml, hown, hts⟩ (y_open200 l dC dI ad E hEE A C nb _ hN st sl so B g hG.1 hO.1 (ht) (hg) (hbt)) (cwV 1 hts gX11_sentence_X8_open rfl rfl rfl (by decide +kernel) ⟨Nat.le_of_ble_eq_true rfl, Nat.le_of_ble_eq_true rfl⟩) ⟨fun a U g mk q => ⟨q.1, xPre.blind hEE q.2⟩, va_recv hK hP (ci := 9) (q0 := 1) rfl (xw_is (r := 1) (by omega) (xc_fix (r := 1) (by omega))), fun U hU hW => ⟨rfl, xPre.of hEE hP hK hE hS hU hW⟩⟩ rfl rfl hl.1 rfl (lv_room (Nat.le_of_ble_eq_true rfl)) dX11_sentence_7 ⟨Nat.le_of_ble_eq_true rfl, Nat.le_of_ble_eq_true rfl⟩) hS (fun q _ h => XA.le hS.1 q h) (XA.le hS.1) (fun x t H locs ht hvm hw hB9 _ _ hS => ?_)
  have hP := xB.at ht hB9
  clear hB9 ht hvm
  obtain ⟨st2, sl3, so4⟩ := x
  obtain ⟨hGst2, hOst2, hw⟩ := hw
  dsimp only at hGst2 hOst2 hw
  have hO : OG ad [2] so so4 := hO.tr hOst2 (by decide)
  have hP : va_P (dC, dI) vwCl (xw A C nb st2 sl3 so4) _ := hP
  have hG : XG [2, 3, 6, 7, 13, 14, 15] st st2 := hG.tr hGst2 (by decide)
  obtain ⟨hf5, hT, hf6, hf7⟩ := hw
  obtain ⟨m, hm⟩ : ∃ m : Nat, m = 200 := ⟨_, rfl⟩
  have hB : CBt B g m st2 := by rw [hm]; exact hf5
  have hT : TC B g m 0 ad st2 sl3 so4 := by rw [hm]; exact hT
  have hB1 := hB.2.2.1
  have hB2 := hB.2.2.2.1
  have hR : CN c nm st2 sl3 0 := CN.eq hRN hf7
  have hR9 := hR.2.1
  have hp9 := hT.2.2.2.2.2.2
  have hk1 := tkd_lt (B := B) (g := g) (m := m) (p := 0)
  have hk2 := tkx_le (B := B) (g := g) (m := m) (p := 0) hp9
  have hk3 := tka_le (B := B) (g := g) (m := m) (p := 0) hp9 hB.2.2.1
  have hk4 := tkv_ltc (p := 0) hB hp9
  have hk5 := tkw_lt (B := B) (g := g) (m := m) (p := 0)
  refine lv_aload_n hx hb dX11_sentence_10 rfl (lv_at hl 0 rfl) ?_
  refine va_get (D := (dC, dI)) (ci := 10) (v := .ref (A (20 + 4 * 1))) (C := RX11) (T := TX11) (N := 19) hx hb hts ii_X11_sentence_X11 hown hK hP 0 (xw_is (r := 0) (by omega) (xc_fix (r := 0) (by omega))) rfl 6 (by decide) (hts _ mm_X11_sentence_2) (fun _ hh => hh) rfl dX11_sentence_11 ?_
  refine va_callv (va_runV (As := []) (rest := []) ⟨hx, hb, hml, hown, hts⟩ (y_clear1y l dC dI ad E hEE A C nb _ hN st2 sl3 so4 B g m 0 hG.1 hO.1 hB hT) (cwV 0 hts gX11_sentence_X7_clear rfl rfl rfl (by decide +kernel) ⟨Nat.le_of_ble_eq_true rfl, Nat.le_of_ble_eq_true rfl⟩) ⟨fun a U g mk q => ⟨q.1, xPre.blind hEE q.2⟩, va_recv hK hP (ci := 8) (q0 := (20 + 4 * 1)) rfl (xw_is (r := (20 + 4 * 1)) (by omega) (xc_sn (q := 1) (o := 0) (by omega) (by omega))), fun U hU hW => ⟨rfl, xPre.of hEE hP hK hE hS hU hW⟩⟩ rfl rfl hl.1 rfl (lv_room (Nat.le_of_ble_eq_true rfl)) dX11_sentence_14 ⟨Nat.le_of_ble_eq_true rfl, Nat.le_of_ble_eq_true rfl⟩) hS (fun q _ h => XA.le hS.1 q h) (XA.le hS.1) (fun x t H locs ht hvm hw hB9 _ _ hS => ?_)
  have hP := xB.at ht hB9
  clear hB9 ht hvm
  obtain ⟨st9, sl10, so11⟩ := x
  obtain ⟨hGst9, hOst9, hFst9, hw⟩ := hw
  dsimp only at hGst9 hOst9 hFst9 hw
  have hO : OG ad [2] so so11 := hO.tr hOst9 (by decide)
  have hP : va_P (dC, dI) vwCl (xw A C nb st9 sl10 so11) _ := hP
  have hG : XG [2, 3, 6, 7, 13, 14, 15] st st9 := hG.tr hGst9 (by decide)
  have hR : CN c nm st9 sl10 0 := hR.fr0 hFst9
  obtain ⟨hf12, hT, hf13⟩ := hw
  have hp9 := hT.2.2.2.2.2.2
  have hk1 := tkd_lt (B := B) (g := g) (m := m) (p := 0)
  have hk2 := tkx_le (B := B) (g := g) (m := m) (p := 0) hp9
  have hk3 := tka_le (B := B) (g := g) (m := m) (p := 0) hp9 hB.2.2.1
  have hk4 := tkv_ltc (p := 0) hB hp9
  have hk5 := tkw_lt (B := B) (g := g) (m := m) (p := 0)
  have hB := CBt.fr hB hFst9
  refine lv_aload_n hx hb dX11_sentence_17 rfl (lv_at hl 0 rfl) ?_
  refine va_get (D := (dC, dI)) (ci := 10) (v := .ref (A (20 + 4 * 1))) (C := RX11) (T := TX11) (N := 19) hx hb hts ii_X11_sentence_X11 hown hK hP 0 (xw_is (r := 0) (by omega) (xc_fix (r := 0) (by omega))) rfl 6 (by decide) (hts _ mm_X11_sentence_2) (fun _ hh => hh) rfl dX11_sentence_18 ?_
  refine lv_aload_n hx hb dX11_sentence_21 rfl (lv_at hl 0 rfl) ?_
  refine va_get (D := (dC, dI)) (ci := 10) (v := .ref (A 1)) (C := RX11) (T := TX11) (N := 19) hx hb hts ii_X11_sentence_X11 hown hK hP 0 (xw_is (r := 0) (by omega) (xc_fix (r := 0) (by omega))) rfl 0 (by decide) (hts _ mm_X11_sentence_1) (fun _ hh => hh) rfl dX11_sentence_22 ?_
  refine lv_aload_n hx hb dX11_sentence_25 rfl (lv_at hl 0 rfl) ?_
  refine va_get (D := (dC, dI)) (ci := 10) (v := .ref (A (36 + 20 * 0))) (C := RX11) (T := TX11) (N := 19) hx hb hts ii_X11_sentence_X11 hown hK hP 0 (xw_is (r := 0) (by omega) (xc_fix (r := 0) (by omega))) rfl 1 (by decide) (hts _ mm_X11_sentence_3) (fun _ hh => hh) rfl dX11_sentence_26 ?_
  refine lv_iconst (v := 1) hx hb dX11_sentence_29 (by decide) ?_
  refine va_calli (va_runVN (As := [.ref (A 1), .ref (A (36 + 20 * 0)), .int 1]) (rest := []) ⟨hx, hb, hml, hown, hts⟩ (y_readCond_1 l dC dI ad E hEE A C nb _ hN st9 sl10 so11 B g m 0 c nm 0 hG.1 hO.1 hB hT hR (by rw [hf12]; rfl) (by omega)) (⟨va_cnB 3 hts gX11_sentence_X7_readCond_n357 rfl rfl rfl (nm_X11_357 hEv) (hts _ mm_X11_sentence_99) (by decide +kernel) ⟨Nat.le_of_ble_eq_true rfl, Nat.le_of_ble_eq_true rfl⟩, (hts _ mm_X11_sentence_103), (hts _ mm_X11_sentence_104)⟩) ⟨fun a U g mk q => ⟨q.1, xPre.blind hEE q.2⟩, va_recv hK hP (ci := 8) (q0 := (20 + 4 * 1)) rfl (xw_is (r := (20 + 4 * 1)) (by omega) (xc_sn (q := 1) (o := 0) (by omega) (by omega))), fun U hU hW => ⟨rfl, xPre.of hEE hP hK hE hS hU hW⟩⟩ rfl rfl hl.1 rfl (lv_room (Nat.le_of_ble_eq_true rfl)) dX11_sentence_30 ⟨Nat.le_of_ble_eq_true rfl, Nat.le_of_ble_eq_true rfl⟩) hS (fun q _ h => XA.le hS.1 q h) (XA.le hS.1) (fun r14 x t H locs ht hvm hw hB9 _ _ hS => ?_)
  have hP := xB.at ht hB9
  clear hB9 ht hvm
  obtain ⟨st15, sl16, so17⟩ := x
  obtain ⟨hGst15, hOst15, hFst15, hw⟩ := hw
  dsimp only at hGst15 hOst15 hFst15 hw
  have hO : OG ad [2] so so17 := hO.tr hOst15 (by decide)
  have hP : va_P (dC, dI) vwCl (xw A C nb st15 sl16 so17) _ := hP
  have hG : XG [2, 3, 6, 7, 13, 14, 15] st st15 := hG.tr hGst15 (by decide)
  have hR : CN c nm st15 sl16 0 := hR.fr0 hFst15
  rcases hw with ⟨n18, n19, rfl, hT, hf20, hf21, hf22, hf23, hf24, hf25⟩ | ⟨n26, n27, rfl, hf28, hf29, hf30, hf31⟩
  · have hp9 := hT.2.2.2.2.2.2
    have hk1 := tkd_lt (B := B) (g := g) (m := m) (p := n18)
    have hk2 := tkx_le (B := B) (g := g) (m := m) (p := n18) hp9
    have hk3 := tka_le (B := B) (g := g) (m := m) (p := n18) hp9 hB.2.2.1
    have hk4 := tkv_ltc (p := n18) hB hp9
    have hk5 := tkw_lt (B := B) (g := g) (m := m) (p := n18)
    refine lv_pop hx hb dX11_sentence_33 rfl ?_
    refine lv_aload_n hx hb dX11_sentence_34 rfl (lv_at hl 0 rfl) ?_
    refine va_callv (va_runV (As := []) (rest := []) ⟨hx, hb, hml, hown, hts⟩ (y_closeTy l dC dI ad E hEE A C nb _ hN st15 sl16 so17 hG.1 hO.1 ) (cwV 0 hts gX11_sentence_X11_closeTape rfl rfl rfl (by decide +kernel) ⟨Nat.le_of_ble_eq_true rfl, Nat.le_of_ble_eq_true rfl⟩) ⟨fun a U g mk q => ⟨q.1, xPre.blind hEE q.2⟩, va_recv hK hP (ci := 10) (q0 := 0) rfl (xw_is (r := 0) (by omega) (xc_fix (r := 0) (by omega))), fun U hU hW => ⟨rfl, xPre.of hEE hP hK hE hS hU hW⟩⟩ rfl rfl hl.1 rfl (lv_room (Nat.le_of_ble_eq_true rfl)) dX11_sentence_35 ⟨Nat.le_of_ble_eq_true rfl, Nat.le_of_ble_eq_true rfl⟩) hS (fun q _ h => XA.le hS.1 q h) (XA.le hS.1) (fun x t H locs ht hvm hw hB9 _ _ hS => ?_)
    have hP := xB.at ht hB9
    clear hB9 ht hvm
    obtain ⟨st33, sl34, so35⟩ := x
    obtain ⟨hGst33, hOst33, hw⟩ := hw
    dsimp only at hGst33 hOst33 hw
    have hO : OG ad [2] so so35 := hO.tr hOst33 (by decide)
    have hP : va_P (dC, dI) vwCl (xw A C nb st33 sl34 so35) _ := hP
    have hG : XG [2, 3, 6, 7, 13, 14, 15] st st33 := hG.tr hGst33 (by decide)
    obtain ⟨hf36, hf37, hf38⟩ := hw
    have h16 : st33 0 16 = 0 := hf36.trans (by rw [hf20, hf13, hf6])
    refine lv_aload_n hx hb dX11_sentence_38 rfl (lv_at hl 0 rfl) ?_
    refine va_get (D := (dC, dI)) (ci := 10) (v := .int (st33 0 16)) (C := RX11) (T := TX11) (N := 19) hx hb hts ii_X11_sentence_X11 hown hK hP 0 (xw_is (r := 0) (by omega) (xc_fix (r := 0) (by omega))) rfl 16 (by decide) (hts _ mm_X11_sentence_4) (fun _ hh => hh) rfl dX11_sentence_39 ?_
    refine zz_top (v := 0) (by show st33 0 16 = _; rw [h16]) ?_
    refine lv_if_eq (tgt := 55) hx hb dX11_sentence_42 (by decide) (fun _ => ?_) (fun cc => absurd (by decide) cc)
    refine lv_aload_n hx hb dX11_sentence_55 rfl (lv_at hl 0 rfl) ?_
    refine va_get (D := (dC, dI)) (ci := 10) (v := .ref (A (20 + 4 * 0))) (C := RX11) (T := TX11) (N := 19) hx hb hts ii_X11_sentence_X11 hown hK hP 0 (xw_is (r := 0) (by omega) (xc_fix (r := 0) (by omega))) rfl 5 (by decide) (hts _ mm_X11_sentence_5) (fun _ hh => hh) rfl dX11_sentence_56 ?_
    refine lv_aload_n hx hb dX11_sentence_59 rfl (lv_at hl 0 rfl) ?_
    refine va_get (D := (dC, dI)) (ci := 10) (v := .ref (A (20 + 4 * 1))) (C := RX11) (T := TX11) (N := 19) hx hb hts ii_X11_sentence_X11 hown hK hP 0 (xw_is (r := 0) (by omega) (xc_fix (r := 0) (by omega))) rfl 6 (by decide) (hts _ mm_X11_sentence_2) (fun _ hh => hh) rfl dX11_sentence_60 ?_
    refine va_callv (va_runV (As := [.ref (A (20 + 4 * 1))]) (rest := []) ⟨hx, hb, hml, hown, hts⟩ (y_copy01y l dC dI ad E hEE A C nb _ hN st33 sl34 so35 n19 hG.1 hO.1 (by rw [hf38, hf21]) (by omega)) (cwV 1 hts gX11_sentence_X7_copyFrom rfl rfl rfl (by decide +kernel) ⟨Nat.le_of_ble_eq_true rfl, Nat.le_of_ble_eq_true rfl⟩) ⟨fun a U g mk q => ⟨q.1, xPre.blind hEE q.2⟩, va_recv hK hP (ci := 8) (q0 := (20 + 4 * 0)) rfl (xw_is (r := (20 + 4 * 0)) (by omega) (xc_sn (q := 0) (o := 0) (by omega) (by omega))), fun U hU hW => ⟨rfl, xPre.of hEE hP hK hE hS hU hW⟩⟩ rfl rfl hl.1 rfl (lv_room (Nat.le_of_ble_eq_true rfl)) dX11_sentence_63 ⟨Nat.le_of_ble_eq_true rfl, Nat.le_of_ble_eq_true rfl⟩) hS (fun q _ h => XA.le hS.1 q h) (XA.le hS.1) (fun x t H locs ht hvm hw hB9 _ _ hS => ?_)
    have hP := xB.at ht hB9
    clear hB9 ht hvm
    obtain ⟨st40, sl41, so42⟩ := x
    obtain ⟨hGst40, hOst40, hw⟩ := hw
    dsimp only at hGst40 hOst40 hw
    have hO : OG ad [2] so so42 := hO.tr hOst40 (by decide)
    have hP : va_P (dC, dI) vwCl (xw A C nb st40 sl41 so42) _ := hP
    have hG : XG [2, 3, 6, 7, 13, 14, 15] st st40 := hG.tr hGst40 (by decide)
    obtain ⟨hf43, hf44⟩ := hw
    refine lv_aload_n hx hb dX11_sentence_66 rfl (lv_at hl 0 rfl) ?_
    refine va_get (D := (dC, dI)) (ci := 10) (v := .ref (A (20 + 4 * 0))) (C := RX11) (T := TX11) (N := 19) hx hb hts ii_X11_sentence_X11 hown hK hP 0 (xw_is (r := 0) (by omega) (xc_fix (r := 0) (by omega))) rfl 5 (by decide) (hts _ mm_X11_sentence_5) (fun _ hh => hh) rfl dX11_sentence_67 ?_
    refine va_getN (host := "OffTheLead") (D := (dC, dI)) (ci := 8) (v := .int (st40 (20 + 4 * 0) 4)) (C := RX7) (T := TX7) (N := 5) hx hb hts ii_X11_sentence_X7 hown hK hP (20 + 4 * 0) (xw_is (r := (20 + 4 * 0)) (by omega) (xc_sn (q := 0) (o := 0) (by omega) (by omega))) rfl 4 (by decide) (va_Nw.use rfl (nf_X11_364 hEv)) (fun _ hh => hh) rfl dX11_sentence_70 ?_
    refine zz_top (v := (nI n19)) (by show st40 (20 + 4 * 0) 4 = _; rw [hf43]) ?_
    have hres : sAll B g m c nm = (0, n18, n19) := sA_y hf24 hf25
    have hr9 : (nI n19) = sAns (sAll B g m c nm) := by rw [hres, sAns_0]
    have hft9 : st40 0 16 = nI (sAll B g m c nm).1 := by rw [hres]; exact (show st40 0 16 = 0 by rw [hf44, h16])
    subst hm
    exact W.iret (v := (nI n19)) hx hb hr (fun t ht hW => ⟨⟨(nI n19), (st40, sl41, so42), rfl, ⟨hG, hO, ⟨hr9, hft9⟩⟩, xB.of ht hP⟩, hS.F ht⟩) hS.2.2 dX11_sentence_73
  · refine lv_pop hx hb dX11_sentence_33 rfl ?_
    refine lv_aload_n hx hb dX11_sentence_34 rfl (lv_at hl 0 rfl) ?_
    refine va_callv (va_runV (As := []) (rest := []) ⟨hx, hb, hml, hown, hts⟩ (y_closeTy l dC dI ad E hEE A C nb _ hN st15 sl16 so17 hG.1 hO.1 ) (cwV 0 hts gX11_sentence_X11_closeTape rfl rfl rfl (by decide +kernel) ⟨Nat.le_of_ble_eq_true rfl, Nat.le_of_ble_eq_true rfl⟩) ⟨fun a U g mk q => ⟨q.1, xPre.blind hEE q.2⟩, va_recv hK hP (ci := 10) (q0 := 0) rfl (xw_is (r := 0) (by omega) (xc_fix (r := 0) (by omega))), fun U hU hW => ⟨rfl, xPre.of hEE hP hK hE hS hU hW⟩⟩ rfl rfl hl.1 rfl (lv_room (Nat.le_of_ble_eq_true rfl)) dX11_sentence_35 ⟨Nat.le_of_ble_eq_true rfl, Nat.le_of_ble_eq_true rfl⟩) hS (fun q _ h => XA.le hS.1 q h) (XA.le hS.1) (fun x t H locs ht hvm hw hB9 _ _ hS => ?_)
    have hP := xB.at ht hB9
    clear hB9 ht hvm
    obtain ⟨st46, sl47, so48⟩ := x
    obtain ⟨hGst46, hOst46, hw⟩ := hw
    dsimp only at hGst46 hOst46 hw
    have hO : OG ad [2] so so48 := hO.tr hOst46 (by decide)
    have hP : va_P (dC, dI) vwCl (xw A C nb st46 sl47 so48) _ := hP
    have hG : XG [2, 3, 6, 7, 13, 14, 15] st st46 := hG.tr hGst46 (by decide)
    obtain ⟨hf49, hf50, hf51⟩ := hw
    have h16 : st46 0 16 = (nI n26) := hf49.trans (by rw [hf28])
    refine lv_aload_n hx hb dX11_sentence_38 rfl (lv_at hl 0 rfl) ?_
    refine va_get (D := (dC, dI)) (ci := 10) (v := .int (st46 0 16)) (C := RX11) (T := TX11) (N := 19) hx hb hts ii_X11_sentence_X11 hown hK hP 0 (xw_is (r := 0) (by omega) (xc_fix (r := 0) (by omega))) rfl 16 (by decide) (hts _ mm_X11_sentence_4) (fun _ hh => hh) rfl dX11_sentence_39 ?_
    refine zz_top (v := (nI n26)) (by show st46 0 16 = _; rw [h16]) ?_
    refine lv_if_eq (tgt := 55) hx hb dX11_sentence_42 (by decide) (fun cc => absurd ((nI_eq (a := n26) (b := 0) (by omega) (by omega)).mp cc) (by omega)) (fun _ => ?_)
    refine lv_iconst (v := (-1)) hx hb dX11_sentence_45 (by decide) ?_
    refine lv_aload_n hx hb dX11_sentence_46 rfl (lv_at hl 0 rfl) ?_
    refine va_get (D := (dC, dI)) (ci := 10) (v := .ref (A 1)) (C := RX11) (T := TX11) (N := 19) hx hb hts ii_X11_sentence_X11 hown hK hP 0 (xw_is (r := 0) (by omega) (xc_fix (r := 0) (by omega))) rfl 0 (by decide) (hts _ mm_X11_sentence_1) (fun _ hh => hh) rfl dX11_sentence_47 ?_
    refine va_getN (host := "OffTheLead") (D := (dC, dI)) (ci := 9) (v := .int (st46 1 14)) (C := RX8) (T := TX8) (N := 15) hx hb hts ii_X11_sentence_X8 hown hK hP 1 (xw_is (r := 1) (by omega) (xc_fix (r := 1) (by omega))) rfl 14 (by decide) (va_Nw.use rfl (nf_X11_120 hEv)) (fun _ hh => hh) rfl dX11_sentence_50 ?_
    refine zz_top (v := (nI n27)) (by show st46 1 14 = _; rw [hf50, hf29]) ?_
    refine lv_isub hx hb dX11_sentence_53 ?_
    refine lv_topi (fun z52 ez52 => ?_)
    have hres : sAll B g m c nm = sf n26 n27 := sA_or (by omega) hf31
    have hr9 : z52 = sAns (sAll B g m c nm) := by rw [ez52, hres, sAns_f (by omega)]
    have hft9 : st46 0 16 = nI (sAll B g m c nm).1 := by rw [hres]; exact (show st46 0 16 = (nI n26) by rw [h16])
    subst hm
    exact W.iret (v := z52) hx hb hr (fun t ht hW => ⟨⟨z52, (st46, sl47, so48), rfl, ⟨hG, hO, ⟨hr9, hft9⟩⟩, xB.of ht hP⟩, hS.F ht⟩) hS.2.2 dX11_sentence_54
