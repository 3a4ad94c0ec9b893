set_option maxHeartbeats 4000000 in
set_option maxRecDepth 100000 in
theorem x_X11_count (l : Launch) (dC : Nat → ClassId) (dI : Nat → Nat → Nat) (ad : Nat → Nat) (E : EP) (hEE : EC ad E) (A : Nat → Nat) (C : Nat → ClassId) (nb sz : Nat) (hN : XN A) (st : Nat → Nat → Int32) (sl : Nat → Nat → Int64) (so : Nat → XR) (va : Int32) (hI : XI st) : Met l yX11_count wsX11_count ({ frames := 0, cells := 0, slots := 0, locals := 0 }) (va_Pc [.ref (A 0), .int va] (xPre E dC dI A C nb sz st sl so)) (va_Qi (fun (r : Int32) (x : XT) => XG [1, 2, 4, 5, 13, 15, 7, 12, 14] st x.1 ∧ LGq sl x.2.1 ∧ x.2.2 = so ∧ ((va = 0 → r = st (36 + 20 * 0) 5) ∧ (va = 1 → r = st (36 + 20 * 0) 6) ∧ (va = 2 → r = st (36 + 20 * 0) 7) ∧ (va = 3 → r = st 1 1) ∧ (¬ (va = 0 ∨ va = 1 ∨ va = 2 ∨ va = 3) → r = -1))) (xB dC dI A C nb) (XA A sz)) 0 0 (XA A sz) := by
  refine Met.ofW (cc := cX11_count) (maxL := 2) (ret := (some .int)) (by decide) rfl ?_
  intro p e s m args below meth c s₁ B hml hv
  obtain ⟨rfl, hsz, hP, hK, hE⟩ := hv
  have hx := B.exec
  have hb := B.bytes
  have hr := B.returns
  have hts := atoms_spec (ws := wsX11_count) B.pre
  have hown : s.vm.findClass RX11 = some m.cls := findClass_of_methodNamed B.named
  subst hsz
  have hEv := hEE.1 _ _ _ hE
  have hS : va_S (XA A s.heap.size) s.heap s.heap [] := va_S.rf
  have hG : XG [1, 2, 4, 5, 13, 15, 7, 12, 14] st st := XG.rf hI
  have hl := lv_entry ([.ref (A 0), .int va]) (n := 2) (Nat.le_of_ble_eq_true rfl)
  rw [lg_entry_eq]
  generalize (lg_sl ([.ref (A 0), .int va]) ++ List.replicate (2 - (lg_sl ([.ref (A 0), .int va])).length) Slot.unset).toArray = ls at hl ⊢
  have hl : lv_has ls 2 [(0, .ref (A 0)), (1, .int va)] := hl
  have hL : LGq sl sl := LGq.rf
  refine lv_iload_n hx hb dX11_count_0 rfl (lv_at hl 1 rfl) ?_
  by_cases cw1 : va = 0
  · subst cw1
    refine lv_tableIn (tgt := 32) hx hb dX11_count_1 (by decide) (by decide) rfl (by decide) ?_
    refine lv_aload_n hx hb dX11_count_32 rfl (lv_at hl 0 rfl) ?_
    refine va_get (D := (dC, dI)) (ci := 10) (v := .ref (A (36 + 20 * 0))) (C := RX11) (T := TX11) (N := 19) hx hb hts ii_X11_count_X11 hown hK hP 0 (xw_is (r := 0) (by omega) (xc_fix (r := 0) (by omega))) rfl 1 (by decide) (hts _ mm_X11_count_1) (fun _ hh => hh) rfl dX11_count_33 ?_
    refine va_getN (host := "OffTheLead") (D := (dC, dI)) (ci := 5) (v := .int (st (36 + 20 * 0) 5)) (C := RX4) (T := TX4) (N := 12) hx hb hts ii_X11_count_X4 hown hK hP (36 + 20 * 0) (xw_is (r := (36 + 20 * 0)) (by omega) (xc_pk (i := 0) (o := 0) (by omega) (by omega))) rfl 5 (by decide) (va_Nw.use rfl (nf_X11_374 hEv)) (fun _ hh => hh) rfl dX11_count_36 ?_
    obtain ⟨n2, hn2, en2⟩ := hG.1.at (r := (36 + 20 * 0)) (k := 5) (b := 6) ((xrg_pk (i := 0) (o := 0) (k := 5) (by omega)).trans (by first | rfl | decide)) (by decide)
    refine zz_top (v := nI n2) (by exact en2) ?_
    exact W.iret (v := (nI n2)) hx hb hr (fun t ht hW => ⟨⟨(nI n2), (st, sl, so), rfl, ⟨hG, hL, rfl, ⟨fun _ => (by show _ = st (36 + 20 * 0) 5; rw [en2]), fun h9 => absurd h9 (by decide), fun h9 => absurd h9 (by decide), fun h9 => absurd h9 (by decide), fun h9 => absurd (by decide) h9⟩⟩, xB.of ht hP⟩, hS.F ht⟩) hS.2.2 dX11_count_39
  by_cases cw3 : va = 1
  · subst cw3
    refine lv_tableIn (tgt := 40) hx hb dX11_count_1 (by decide) (by decide) rfl (by decide) ?_
    refine lv_aload_n hx hb dX11_count_40 rfl (lv_at hl 0 rfl) ?_
    refine va_get (D := (dC, dI)) (ci := 10) (v := .ref (A (36 + 20 * 0))) (C := RX11) (T := TX11) (N := 19) hx hb hts ii_X11_count_X11 hown hK hP 0 (xw_is (r := 0) (by omega) (xc_fix (r := 0) (by omega))) rfl 1 (by decide) (hts _ mm_X11_count_1) (fun _ hh => hh) rfl dX11_count_41 ?_
    refine va_getN (host := "OffTheLead") (D := (dC, dI)) (ci := 5) (v := .int (st (36 + 20 * 0) 6)) (C := RX4) (T := TX4) (N := 12) hx hb hts ii_X11_count_X4 hown hK hP (36 + 20 * 0) (xw_is (r := (36 + 20 * 0)) (by omega) (xc_pk (i := 0) (o := 0) (by omega) (by omega))) rfl 6 (by decide) (va_Nw.use rfl (nf_X11_367 hEv)) (fun _ hh => hh) rfl dX11_count_44 ?_
    obtain ⟨n4, hn4, en4⟩ := hG.1.at (r := (36 + 20 * 0)) (k := 6) (b := 9) ((xrg_pk (i := 0) (o := 0) (k := 6) (by omega)).trans (by first | rfl | decide)) (by decide)
    refine zz_top (v := nI n4) (by exact en4) ?_
    exact W.iret (v := (nI n4)) hx hb hr (fun t ht hW => ⟨⟨(nI n4), (st, sl, so), rfl, ⟨hG, hL, rfl, ⟨fun h9 => absurd h9 (by decide), fun _ => (by show _ = st (36 + 20 * 0) 6; rw [en4]), fun h9 => absurd h9 (by decide), fun h9 => absurd h9 (by decide), fun h9 => absurd (by decide) h9⟩⟩, xB.of ht hP⟩, hS.F ht⟩) hS.2.2 dX11_count_47
  by_cases cw5 : va = 2
  · subst cw5
    refine lv_tableIn (tgt := 48) hx hb dX11_count_1 (by decide) (by decide) rfl (by decide) ?_
    refine lv_aload_n hx hb dX11_count_48 rfl (lv_at hl 0 rfl) ?_
    refine va_get (D := (dC, dI)) (ci := 10) (v := .ref (A (36 + 20 * 0))) (C := RX11) (T := TX11) (N := 19) hx hb hts ii_X11_count_X11 hown hK hP 0 (xw_is (r := 0) (by omega) (xc_fix (r := 0) (by omega))) rfl 1 (by decide) (hts _ mm_X11_count_1) (fun _ hh => hh) rfl dX11_count_49 ?_
    refine va_getN (host := "OffTheLead") (D := (dC, dI)) (ci := 5) (v := .int (st (36 + 20 * 0) 7)) (C := RX4) (T := TX4) (N := 12) hx hb hts ii_X11_count_X4 hown hK hP (36 + 20 * 0) (xw_is (r := (36 + 20 * 0)) (by omega) (xc_pk (i := 0) (o := 0) (by omega) (by omega))) rfl 7 (by decide) (va_Nw.use rfl (nf_X11_377 hEv)) (fun _ hh => hh) rfl dX11_count_52 ?_
    obtain ⟨n6, hn6, en6⟩ := hG.1.at (r := (36 + 20 * 0)) (k := 7) (b := 7) ((xrg_pk (i := 0) (o := 0) (k := 7) (by omega)).trans (by first | rfl | decide)) (by decide)
    refine zz_top (v := nI n6) (by exact en6) ?_
    exact W.iret (v := (nI n6)) hx hb hr (fun t ht hW => ⟨⟨(nI n6), (st, sl, so), rfl, ⟨hG, hL, rfl, ⟨fun h9 => absurd h9 (by decide), fun h9 => absurd h9 (by decide), fun _ => (by show _ = st (36 + 20 * 0) 7; rw [en6]), fun h9 => absurd h9 (by decide), fun h9 => absurd (by decide) h9⟩⟩, xB.of ht hP⟩, hS.F ht⟩) hS.2.2 dX11_count_55
  by_cases cw7 : va = 3
  · subst cw7
    refine lv_tableIn (tgt := 56) hx hb dX11_count_1 (by decide) (by decide) rfl (by decide) ?_
    refine lv_aload_n hx hb dX11_count_56 rfl (lv_at hl 0 rfl) ?_
    refine va_get (D := (dC, dI)) (ci := 10) (v := .ref (A 1)) (C := RX11) (T := TX11) (N := 19) hx hb hts ii_X11_count_X11 hown hK hP 0 (xw_is (r := 0) (by omega) (xc_fix (r := 0) (by omega))) rfl 0 (by decide) (hts _ mm_X11_count_2) (fun _ hh => hh) rfl dX11_count_57 ?_
    refine va_getN (host := "OffTheLead") (D := (dC, dI)) (ci := 9) (v := .int (st 1 1)) (C := RX8) (T := TX8) (N := 15) hx hb hts ii_X11_count_X8 hown hK hP 1 (xw_is (r := 1) (by omega) (xc_fix (r := 1) (by omega))) rfl 1 (by decide) (va_Nw.use rfl (nf_X11_100 hEv)) (fun _ hh => hh) rfl dX11_count_60 ?_
    obtain ⟨n8, hn8, en8⟩ := hG.1.at (r := 1) (k := 1) (b := 941) (by decide : xrg 1 1 = 941) (by decide)
    refine zz_top (v := nI n8) (by exact en8) ?_
    exact W.iret (v := (nI n8)) hx hb hr (fun t ht hW => ⟨⟨(nI n8), (st, sl, so), rfl, ⟨hG, hL, rfl, ⟨fun h9 => absurd h9 (by decide), fun h9 => absurd h9 (by decide), fun h9 => absurd h9 (by decide), fun _ => (by show _ = st 1 1; rw [en8]), fun h9 => absurd (by decide) h9⟩⟩, xB.of ht hP⟩, hS.F ht⟩) hS.2.2 dX11_count_63
  refine lv_tableOut (tgt := 64) hx hb dX11_count_1 (by clear hP hK hS hG hx hb hr hts hown; simp only [Int32.lt_iff_toInt_lt, ← Int32.toInt_inj, Int32.reduceToInt] at cw1 cw3 cw5 cw7 ⊢; omega) (by decide) ?_
  refine lv_iconst (v := (-1)) hx hb dX11_count_64 (by decide) ?_
  exact W.iret (v := (-1)) hx hb hr (fun t ht hW => ⟨⟨(-1), (st, sl, so), rfl, ⟨hG, hL, rfl, ⟨fun h9 => absurd h9 cw1, fun h9 => absurd h9 cw3, fun h9 => absurd h9 cw5, fun h9 => absurd h9 cw7, fun _ => rfl⟩⟩, xB.of ht hP⟩, hS.F ht⟩) hS.2.2 dX11_count_65
