set_option maxHeartbeats 4000000 in
set_option maxRecDepth 100000 in
theorem y_looksAtMark40 (l : Launch) (dC : Nat → ClassId) (dI : Nat → Nat → Nat) (ad : Nat → Nat) (E : EP) (hEE : EC ad E) (A : Nat → Nat) (C : Nat → ClassId) (nb sz : Nat) (hN : XN A) (st : Nat → Nat → Int32) (sl : Nat → Nat → Int64) (so : Nat → XR) (B : Nat → Nat) (g m : Nat) (p : Nat) (hI : XI st) (hB : CBt B g m st) (hT : TC B g m p ad st sl so) : Met l yX8_looksAtMark wsX8_looksAtMark ({ frames := 0, cells := 0, slots := 0, locals := 0 }) (va_Pc [.ref (A 1), .int 40] (xPre E dC dI A C nb sz st sl so)) (va_Qi (fun (r : Int32) (x : XT) => x = (st, sl, so) ∧ ((r = 1 ∧ tkd B g m p = 4 ∧ tkv B g p = 40) ∨ (r = 0 ∧ ¬ (tkd B g m p = 4 ∧ tkv B g p = 40)))) (xB dC dI A C nb) (XA A sz)) 0 0 (XA A sz) := by
  refine Met.ofW (cc := cX8_looksAtMark) (maxL := 2) (ret := (some .boolean)) (by decide) rfl ?_
  intro p9 e s m9 args below meth c9 s₁ B9 hml hv
  obtain ⟨rfl, hsz, hP, hK, hE⟩ := hv
  have hx := B9.exec
  have hb := B9.bytes
  have hr := B9.returns
  have hts := atoms_spec (ws := wsX8_looksAtMark) B9.pre
  have hown : s.vm.findClass RX8 = some m9.cls := findClass_of_methodNamed B9.named
  subst hsz
  have hEv := hEE.1 _ _ _ hE
  have hS : va_S (XA A s.heap.size) s.heap s.heap [] := va_S.rf
  have hG : XG [1, 2, 3, 4, 5, 6, 7, 8, 9, 10, 11, 12, 13, 14, 15] st st := XG.rf hI
  have hl := lv_entry ([.ref (A 1), .int 40]) (n := 2) (Nat.le_of_ble_eq_true rfl)
  rw [lg_entry_eq]
  generalize (lg_sl ([.ref (A 1), .int 40]) ++ List.replicate (2 - (lg_sl ([.ref (A 1), .int 40])).length) Slot.unset).toArray = ls at hl ⊢
  have hl : lv_has ls 2 [(0, .ref (A 1)), (1, .int 40)] := hl
  have hB1 := hB.2.2.1
  have hB2 := hB.2.2.2.1
  have hF : FX 0 st sl so st sl so := FX.rf
  have hp9 := hT.2.2.2.2.2.2
  have hk1 := tkd_lt (B := B) (g := g) (m := m) (p := p)
  have hk2 := tkx_le (B := B) (g := g) (m := m) (p := p) hp9
  have hk3 := tka_le (B := B) (g := g) (m := m) (p := p) hp9 hB.2.2.1
  have hk4 := tkv_ltc (p := p) hB hp9
  have hk5 := tkw_lt (B := B) (g := g) (m := m) (p := p)
  refine lv_aload_n hx hb dX8_looksAtMark_0 rfl (lv_at hl 0 rfl) ?_
  refine va_get (D := (dC, dI)) (ci := 9) (v := .int (st 1 4)) (C := RX8) (T := TX8) (N := 15) hx hb hts ii_X8_looksAtMark_X8 hown hK hP 1 (xw_is (r := 1) (by omega) (xc_fix (r := 1) (by omega))) rfl 4 (by decide) (hts _ mm_X8_looksAtMark_1) (fun _ hh => hh) rfl dX8_looksAtMark_1 ?_
  refine zz_top (v := (nI ((tkd B g m p + 3) % 5))) (by show st 1 4 = _; rw [hT.2.2.1]) ?_
  refine lv_iconst (v := 2) hx hb dX8_looksAtMark_4 (by decide) ?_
  refine lv_icmp_ne (tgt := 20) hx hb dX8_looksAtMark_5 (by decide) (fun c1 => ?_) (fun c1 => ?_)
  · have c1 : ¬ ((tkd B g m p + 3) % 5) = 2 := fun hh => c1 ((nI_eq (a := ((tkd B g m p + 3) % 5)) (b := 2) (by omega) (by omega)).mpr hh)
    refine lv_iconst (v := 0) hx hb dX8_looksAtMark_20 (by decide) ?_
    exact W.zret (v := 0) hx hb hr rfl (fun t ht hW => ⟨⟨0, (st, sl, so), rfl, ⟨rfl, Or.inr (⟨rfl, by omega⟩)⟩, xB.of ht hP⟩, hS.F ht⟩) hS.2.2 dX8_looksAtMark_21
  · have c1 : ((tkd B g m p + 3) % 5) = 2 := (nI_eq (a := ((tkd B g m p + 3) % 5)) (b := 2) (by omega) (by omega)).mp c1
    refine lv_aload_n hx hb dX8_looksAtMark_8 rfl (lv_at hl 0 rfl) ?_
    refine va_get (D := (dC, dI)) (ci := 9) (v := .int (st 1 6)) (C := RX8) (T := TX8) (N := 15) hx hb hts ii_X8_looksAtMark_X8 hown hK hP 1 (xw_is (r := 1) (by omega) (xc_fix (r := 1) (by omega))) rfl 6 (by decide) (hts _ mm_X8_looksAtMark_2) (fun _ hh => hh) rfl dX8_looksAtMark_9 ?_
    refine zz_top (v := (nI (tkv B g p))) (by show st 1 6 = _; rw [(hT.2.2.2.1 (by omega))]) ?_
    refine lv_iload_n hx hb dX8_looksAtMark_12 rfl (lv_at hl 1 rfl) ?_
    refine lv_icmp_ne (tgt := 20) hx hb dX8_looksAtMark_13 (by decide) (fun c2 => ?_) (fun c2 => ?_)
    · have c2 : ¬ (tkv B g p) = 40 := fun hh => c2 ((nI_eq (a := (tkv B g p)) (b := 40) (by omega) (by omega)).mpr hh)
      refine lv_iconst (v := 0) hx hb dX8_looksAtMark_20 (by decide) ?_
      exact W.zret (v := 0) hx hb hr rfl (fun t ht hW => ⟨⟨0, (st, sl, so), rfl, ⟨rfl, Or.inr (⟨rfl, by omega⟩)⟩, xB.of ht hP⟩, hS.F ht⟩) hS.2.2 dX8_looksAtMark_21
    · have c2 : (tkv B g p) = 40 := (nI_eq (a := (tkv B g p)) (b := 40) (by omega) (by omega)).mp c2
      refine lv_iconst (v := 1) hx hb dX8_looksAtMark_16 (by decide) ?_
      refine lv_goto (tgt := 21) hx hb dX8_looksAtMark_17 (by decide) ?_
      exact W.zret (v := 1) hx hb hr rfl (fun t ht hW => ⟨⟨1, (st, sl, so), rfl, ⟨rfl, Or.inl (⟨rfl, by omega, by omega⟩)⟩, xB.of ht hP⟩, hS.F ht⟩) hS.2.2 dX8_looksAtMark_21
set_option maxHeartbeats 4000000 in
set_option maxRecDepth 100000 in
theorem y_looksAtMark41 (l : Launch) (dC : Nat → ClassId) (dI : Nat → Nat → Nat) (ad : Nat → Nat) (E : EP) (hEE : EC ad E) (A : Nat → Nat) (C : Nat → ClassId) (nb sz : Nat) (hN : XN A) (st : Nat → Nat → Int32) (sl : Nat → Nat → Int64) (so : Nat → XR) (B : Nat → Nat) (g m : Nat) (p : Nat) (hI : XI st) (hB : CBt B g m st) (hT : TC B g m p ad st sl so) : Met l yX8_looksAtMark wsX8_looksAtMark ({ frames := 0, cells := 0, slots := 0, locals := 0 }) (va_Pc [.ref (A 1), .int 41] (xPre E dC dI A C nb sz st sl so)) (va_Qi (fun (r : Int32) (x : XT) => x = (st, sl, so) ∧ ((r = 1 ∧ tkd B g m p = 4 ∧ tkv B g p = 41) ∨ (r = 0 ∧ ¬ (tkd B g m p = 4 ∧ tkv B g p = 41)))) (xB dC dI A C nb) (XA A sz)) 0 0 (XA A sz) := by
  refine Met.ofW (cc := cX8_looksAtMark) (maxL := 2) (ret := (some .boolean)) (by decide) rfl ?_
  intro p9 e s m9 args below meth c9 s₁ B9 hml hv
  obtain ⟨rfl, hsz, hP, hK, hE⟩ := hv
  have hx := B9.exec
  have hb := B9.bytes
  have hr := B9.returns
  have hts := atoms_spec (ws := wsX8_looksAtMark) B9.pre
  have hown : s.vm.findClass RX8 = some m9.cls := findClass_of_methodNamed B9.named
  subst hsz
  have hEv := hEE.1 _ _ _ hE
  have hS : va_S (XA A s.heap.size) s.heap s.heap [] := va_S.rf
  have hG : XG [1, 2, 3, 4, 5, 6, 7, 8, 9, 10, 11, 12, 13, 14, 15] st st := XG.rf hI
  have hl := lv_entry ([.ref (A 1), .int 41]) (n := 2) (Nat.le_of_ble_eq_true rfl)
  rw [lg_entry_eq]
  generalize (lg_sl ([.ref (A 1), .int 41]) ++ List.replicate (2 - (lg_sl ([.ref (A 1), .int 41])).length) Slot.unset).toArray = ls at hl ⊢
  have hl : lv_has ls 2 [(0, .ref (A 1)), (1, .int 41)] := hl
  have hB1 := hB.2.2.1
  have hB2 := hB.2.2.2.1
  have hF : FX 0 st sl so st sl so := FX.rf
  have hp9 := hT.2.2.2.2.2.2
  have hk1 := tkd_lt (B := B) (g := g) (m := m) (p := p)
  have hk2 := tkx_le (B := B) (g := g) (m := m) (p := p) hp9
  have hk3 := tka_le (B := B) (g := g) (m := m) (p := p) hp9 hB.2.2.1
  have hk4 := tkv_ltc (p := p) hB hp9
  have hk5 := tkw_lt (B := B) (g := g) (m := m) (p := p)
  refine lv_aload_n hx hb dX8_looksAtMark_0 rfl (lv_at hl 0 rfl) ?_
  refine va_get (D := (dC, dI)) (ci := 9) (v := .int (st 1 4)) (C := RX8) (T := TX8) (N := 15) hx hb hts ii_X8_looksAtMark_X8 hown hK hP 1 (xw_is (r := 1) (by omega) (xc_fix (r := 1) (by omega))) rfl 4 (by decide) (hts _ mm_X8_looksAtMark_1) (fun _ hh => hh) rfl dX8_looksAtMark_1 ?_
  refine zz_top (v := (nI ((tkd B g m p + 3) % 5))) (by show st 1 4 = _; rw [hT.2.2.1]) ?_
  refine lv_iconst (v := 2) hx hb dX8_looksAtMark_4 (by decide) ?_
  refine lv_icmp_ne (tgt := 20) hx hb dX8_looksAtMark_5 (by decide) (fun c1 => ?_) (fun c1 => ?_)
  · have c1 : ¬ ((tkd B g m p + 3) % 5) = 2 := fun hh => c1 ((nI_eq (a := ((tkd B g m p + 3) % 5)) (b := 2) (by omega) (by omega)).mpr hh)
    refine lv_iconst (v := 0) hx hb dX8_looksAtMark_20 (by decide) ?_
    exact W.zret (v := 0) hx hb hr rfl (fun t ht hW => ⟨⟨0, (st, sl, so), rfl, ⟨rfl, Or.inr (⟨rfl, by omega⟩)⟩, xB.of ht hP⟩, hS.F ht⟩) hS.2.2 dX8_looksAtMark_21
  · have c1 : ((tkd B g m p + 3) % 5) = 2 := (nI_eq (a := ((tkd B g m p + 3) % 5)) (b := 2) (by omega) (by omega)).mp c1
    refine lv_aload_n hx hb dX8_looksAtMark_8 rfl (lv_at hl 0 rfl) ?_
    refine va_get (D := (dC, dI)) (ci := 9) (v := .int (st 1 6)) (C := RX8) (T := TX8) (N := 15) hx hb hts ii_X8_looksAtMark_X8 hown hK hP 1 (xw_is (r := 1) (by omega) (xc_fix (r := 1) (by omega))) rfl 6 (by decide) (hts _ mm_X8_looksAtMark_2) (fun _ hh => hh) rfl dX8_looksAtMark_9 ?_
    refine zz_top (v := (nI (tkv B g p))) (by show st 1 6 = _; rw [(hT.2.2.2.1 (by omega))]) ?_
    refine lv_iload_n hx hb dX8_looksAtMark_12 rfl (lv_at hl 1 rfl) ?_
    refine lv_icmp_ne (tgt := 20) hx hb dX8_looksAtMark_13 (by decide) (fun c2 => ?_) (fun c2 => ?_)
    · have c2 : ¬ (tkv B g p) = 41 := fun hh => c2 ((nI_eq (a := (tkv B g p)) (b := 41) (by omega) (by omega)).mpr hh)
      refine lv_iconst (v := 0) hx hb dX8_looksAtMark_20 (by decide) ?_
      exact W.zret (v := 0) hx hb hr rfl (fun t ht hW => ⟨⟨0, (st, sl, so), rfl, ⟨rfl, Or.inr (⟨rfl, by omega⟩)⟩, xB.of ht hP⟩, hS.F ht⟩) hS.2.2 dX8_looksAtMark_21
    · have c2 : (tkv B g p) = 41 := (nI_eq (a := (tkv B g p)) (b := 41) (by omega) (by omega)).mp c2
      refine lv_iconst (v := 1) hx hb dX8_looksAtMark_16 (by decide) ?_
      refine lv_goto (tgt := 21) hx hb dX8_looksAtMark_17 (by decide) ?_
      exact W.zret (v := 1) hx hb hr rfl (fun t ht hW => ⟨⟨1, (st, sl, so), rfl, ⟨rfl, Or.inl (⟨rfl, by omega, by omega⟩)⟩, xB.of ht hP⟩, hS.F ht⟩) hS.2.2 dX8_looksAtMark_21
set_option maxHeartbeats 4000000 in
set_option maxRecDepth 100000 in
theorem y_looksAtMark60 (l : Launch) (dC : Nat → ClassId) (dI : Nat → Nat → Nat) (ad : Nat → Nat) (E : EP) (hEE : EC ad E) (A : Nat → Nat) (C : Nat → ClassId) (nb sz : Nat) (hN : XN A) (st : Nat → Nat → Int32) (sl : Nat → Nat → Int64) (so : Nat → XR) (B : Nat → Nat) (g m : Nat) (p : Nat) (hI : XI st) (hB : CBt B g m st) (hT : TC B g m p ad st sl so) : Met l yX8_looksAtMark wsX8_looksAtMark ({ frames := 0, cells := 0, slots := 0, locals := 0 }) (va_Pc [.ref (A 1), .int 60] (xPre E dC dI A C nb sz st sl so)) (va_Qi (fun (r : Int32) (x : XT) => x = (st, sl, so) ∧ ((r = 1 ∧ tkd B g m p = 4 ∧ tkv B g p = 60) ∨ (r = 0 ∧ ¬ (tkd B g m p = 4 ∧ tkv B g p = 60)))) (xB dC dI A C nb) (XA A sz)) 0 0 (XA A sz) := by
  refine Met.ofW (cc := cX8_looksAtMark) (maxL := 2) (ret := (some .boolean)) (by decide) rfl ?_
  intro p9 e s m9 args below meth c9 s₁ B9 hml hv
  obtain ⟨rfl, hsz, hP, hK, hE⟩ := hv
  have hx := B9.exec
  have hb := B9.bytes
  have hr := B9.returns
  have hts := atoms_spec (ws := wsX8_looksAtMark) B9.pre
  have hown : s.vm.findClass RX8 = some m9.cls := findClass_of_methodNamed B9.named
  subst hsz
  have hEv := hEE.1 _ _ _ hE
  have hS : va_S (XA A s.heap.size) s.heap s.heap [] := va_S.rf
  have hG : XG [1, 2, 3, 4, 5, 6, 7, 8, 9, 10, 11, 12, 13, 14, 15] st st := XG.rf hI
  have hl := lv_entry ([.ref (A 1), .int 60]) (n := 2) (Nat.le_of_ble_eq_true rfl)
  rw [lg_entry_eq]
  generalize (lg_sl ([.ref (A 1), .int 60]) ++ List.replicate (2 - (lg_sl ([.ref (A 1), .int 60])).length) Slot.unset).toArray = ls at hl ⊢
  have hl : lv_has ls 2 [(0, .ref (A 1)), (1, .int 60)] := hl
  have hB1 := hB.2.2.1
  have hB2 := hB.2.2.2.1
  have hF : FX 0 st sl so st sl so := FX.rf
  have hp9 := hT.2.2.2.2.2.2
  have hk1 := tkd_lt (B := B) (g := g) (m := m) (p := p)
  have hk2 := tkx_le (B := B) (g := g) (m := m) (p := p) hp9
  have hk3 := tka_le (B := B) (g := g) (m := m) (p := p) hp9 hB.2.2.1
  have hk4 := tkv_ltc (p := p) hB hp9
  have hk5 := tkw_lt (B := B) (g := g) (m := m) (p := p)
  refine lv_aload_n hx hb dX8_looksAtMark_0 rfl (lv_at hl 0 rfl) ?_
  refine va_get (D := (dC, dI)) (ci := 9) (v := .int (st 1 4)) (C := RX8) (T := TX8) (N := 15) hx hb hts ii_X8_looksAtMark_X8 hown hK hP 1 (xw_is (r := 1) (by omega) (xc_fix (r := 1) (by omega))) rfl 4 (by decide) (hts _ mm_X8_looksAtMark_1) (fun _ hh => hh) rfl dX8_looksAtMark_1 ?_
  refine zz_top (v := (nI ((tkd B g m p + 3) % 5))) (by show st 1 4 = _; rw [hT.2.2.1]) ?_
  refine lv_iconst (v := 2) hx hb dX8_looksAtMark_4 (by decide) ?_
  refine lv_icmp_ne (tgt := 20) hx hb dX8_looksAtMark_5 (by decide) (fun c1 => ?_) (fun c1 => ?_)
  · have c1 : ¬ ((tkd B g m p + 3) % 5) = 2 := fun hh => c1 ((nI_eq (a := ((tkd B g m p + 3) % 5)) (b := 2) (by omega) (by omega)).mpr hh)
    refine lv_iconst (v := 0) hx hb dX8_looksAtMark_20 (by decide) ?_
    exact W.zret (v := 0) hx hb hr rfl (fun t ht hW => ⟨⟨0, (st, sl, so), rfl, ⟨rfl, Or.inr (⟨rfl, by omega⟩)⟩, xB.of ht hP⟩, hS.F ht⟩) hS.2.2 dX8_looksAtMark_21
  · have c1 : ((tkd B g m p + 3) % 5) = 2 := (nI_eq (a := ((tkd B g m p + 3) % 5)) (b := 2) (by omega) (by omega)).mp c1
    refine lv_aload_n hx hb dX8_looksAtMark_8 rfl (lv_at hl 0 rfl) ?_
    refine va_get (D := (dC, dI)) (ci := 9) (v := .int (st 1 6)) (C := RX8) (T := TX8) (N := 15) hx hb hts ii_X8_looksAtMark_X8 hown hK hP 1 (xw_is (r := 1) (by omega) (xc_fix (r := 1) (by omega))) rfl 6 (by decide) (hts _ mm_X8_looksAtMark_2) (fun _ hh => hh) rfl dX8_looksAtMark_9 ?_
    refine zz_top (v := (nI (tkv B g p))) (by show st 1 6 = _; rw [(hT.2.2.2.1 (by omega))]) ?_
    refine lv_iload_n hx hb dX8_looksAtMark_12 rfl (lv_at hl 1 rfl) ?_
    refine lv_icmp_ne (tgt := 20) hx hb dX8_looksAtMark_13 (by decide) (fun c2 => ?_) (fun c2 => ?_)
    · have c2 : ¬ (tkv B g p) = 60 := fun hh => c2 ((nI_eq (a := (tkv B g p)) (b := 60) (by omega) (by omega)).mpr hh)
      refine lv_iconst (v := 0) hx hb dX8_looksAtMark_20 (by decide) ?_
      exact W.zret (v := 0) hx hb hr rfl (fun t ht hW => ⟨⟨0, (st, sl, so), rfl, ⟨rfl, Or.inr (⟨rfl, by omega⟩)⟩, xB.of ht hP⟩, hS.F ht⟩) hS.2.2 dX8_looksAtMark_21
    · have c2 : (tkv B g p) = 60 := (nI_eq (a := (tkv B g p)) (b := 60) (by omega) (by omega)).mp c2
      refine lv_iconst (v := 1) hx hb dX8_looksAtMark_16 (by decide) ?_
      refine lv_goto (tgt := 21) hx hb dX8_looksAtMark_17 (by decide) ?_
      exact W.zret (v := 1) hx hb hr rfl (fun t ht hW => ⟨⟨1, (st, sl, so), rfl, ⟨rfl, Or.inl (⟨rfl, by omega, by omega⟩)⟩, xB.of ht hP⟩, hS.F ht⟩) hS.2.2 dX8_looksAtMark_21
set_option maxHeartbeats 4000000 in
set_option maxRecDepth 100000 in
theorem y_looksAtMark61 (l : Launch) (dC : Nat → ClassId) (dI : Nat → Nat → Nat) (ad : Nat → Nat) (E : EP) (hEE : EC ad E) (A : Nat → Nat) (C : Nat → ClassId) (nb sz : Nat) (hN : XN A) (st : Nat → Nat → Int32) (sl : Nat → Nat → Int64) (so : Nat → XR) (B : Nat → Nat) (g m : Nat) (p : Nat) (hI : XI st) (hB : CBt B g m st) (hT : TC B g m p ad st sl so) : Met l yX8_looksAtMark wsX8_looksAtMark ({ frames := 0, cells := 0, slots := 0, locals := 0 }) (va_Pc [.ref (A 1), .int 61] (xPre E dC dI A C nb sz st sl so)) (va_Qi (fun (r : Int32) (x : XT) => x = (st, sl, so) ∧ ((r = 1 ∧ tkd B g m p = 4 ∧ tkv B g p = 61) ∨ (r = 0 ∧ ¬ (tkd B g m p = 4 ∧ tkv B g p = 61)))) (xB dC dI A C nb) (XA A sz)) 0 0 (XA A sz) := by
  refine Met.ofW (cc := cX8_looksAtMark) (maxL := 2) (ret := (some .boolean)) (by decide) rfl ?_
  intro p9 e s m9 args below meth c9 s₁ B9 hml hv
  obtain ⟨rfl, hsz, hP, hK, hE⟩ := hv
  have hx := B9.exec
  have hb := B9.bytes
  have hr := B9.returns
  have hts := atoms_spec (ws := wsX8_looksAtMark) B9.pre
  have hown : s.vm.findClass RX8 = some m9.cls := findClass_of_methodNamed B9.named
  subst hsz
  have hEv := hEE.1 _ _ _ hE
  have hS : va_S (XA A s.heap.size) s.heap s.heap [] := va_S.rf
  have hG : XG [1, 2, 3, 4, 5, 6, 7, 8, 9, 10, 11, 12, 13, 14, 15] st st := XG.rf hI
  have hl := lv_entry ([.ref (A 1), .int 61]) (n := 2) (Nat.le_of_ble_eq_true rfl)
  rw [lg_entry_eq]
  generalize (lg_sl ([.ref (A 1), .int 61]) ++ List.replicate (2 - (lg_sl ([.ref (A 1), .int 61])).length) Slot.unset).toArray = ls at hl ⊢
  have hl : lv_has ls 2 [(0, .ref (A 1)), (1, .int 61)] := hl
  have hB1 := hB.2.2.1
  have hB2 := hB.2.2.2.1
  have hF : FX 0 st sl so st sl so := FX.rf
  have hp9 := hT.2.2.2.2.2.2
  have hk1 := tkd_lt (B := B) (g := g) (m := m) (p := p)
  have hk2 := tkx_le (B := B) (g := g) (m := m) (p := p) hp9
  have hk3 := tka_le (B := B) (g := g) (m := m) (p := p) hp9 hB.2.2.1
  have hk4 := tkv_ltc (p := p) hB hp9
  have hk5 := tkw_lt (B := B) (g := g) (m := m) (p := p)
  refine lv_aload_n hx hb dX8_looksAtMark_0 rfl (lv_at hl 0 rfl) ?_
  refine va_get (D := (dC, dI)) (ci := 9) (v := .int (st 1 4)) (C := RX8) (T := TX8) (N := 15) hx hb hts ii_X8_looksAtMark_X8 hown hK hP 1 (xw_is (r := 1) (by omega) (xc_fix (r := 1) (by omega))) rfl 4 (by decide) (hts _ mm_X8_looksAtMark_1) (fun _ hh => hh) rfl dX8_looksAtMark_1 ?_
  refine zz_top (v := (nI ((tkd B g m p + 3) % 5))) (by show st 1 4 = _; rw [hT.2.2.1]) ?_
  refine lv_iconst (v := 2) hx hb dX8_looksAtMark_4 (by decide) ?_
  refine lv_icmp_ne (tgt := 20) hx hb dX8_looksAtMark_5 (by decide) (fun c1 => ?_) (fun c1 => ?_)
  · have c1 : ¬ ((tkd B g m p + 3) % 5) = 2 := fun hh => c1 ((nI_eq (a := ((tkd B g m p + 3) % 5)) (b := 2) (by omega) (by omega)).mpr hh)
    refine lv_iconst (v := 0) hx hb dX8_looksAtMark_20 (by decide) ?_
    exact W.zret (v := 0) hx hb hr rfl (fun t ht hW => ⟨⟨0, (st, sl, so), rfl, ⟨rfl, Or.inr (⟨rfl, by omega⟩)⟩, xB.of ht hP⟩, hS.F ht⟩) hS.2.2 dX8_looksAtMark_21
  · have c1 : ((tkd B g m p + 3) % 5) = 2 := (nI_eq (a := ((tkd B g m p + 3) % 5)) (b := 2) (by omega) (by omega)).mp c1
    refine lv_aload_n hx hb dX8_looksAtMark_8 rfl (lv_at hl 0 rfl) ?_
    refine va_get (D := (dC, dI)) (ci := 9) (v := .int (st 1 6)) (C := RX8) (T := TX8) (N := 15) hx hb hts ii_X8_looksAtMark_X8 hown hK hP 1 (xw_is (r := 1) (by omega) (xc_fix (r := 1) (by omega))) rfl 6 (by decide) (hts _ mm_X8_looksAtMark_2) (fun _ hh => hh) rfl dX8_looksAtMark_9 ?_
    refine zz_top (v := (nI (tkv B g p))) (by show st 1 6 = _; rw [(hT.2.2.2.1 (by omega))]) ?_
    refine lv_iload_n hx hb dX8_looksAtMark_12 rfl (lv_at hl 1 rfl) ?_
    refine lv_icmp_ne (tgt := 20) hx hb dX8_looksAtMark_13 (by decide) (fun c2 => ?_) (fun c2 => ?_)
    · have c2 : ¬ (tkv B g p) = 61 := fun hh => c2 ((nI_eq (a := (tkv B g p)) (b := 61) (by omega) (by omega)).mpr hh)
      refine lv_iconst (v := 0) hx hb dX8_looksAtMark_20 (by decide) ?_
      exact W.zret (v := 0) hx hb hr rfl (fun t ht hW => ⟨⟨0, (st, sl, so), rfl, ⟨rfl, Or.inr (⟨rfl, by omega⟩)⟩, xB.of ht hP⟩, hS.F ht⟩) hS.2.2 dX8_looksAtMark_21
    · have c2 : (tkv B g p) = 61 := (nI_eq (a := (tkv B g p)) (b := 61) (by omega) (by omega)).mp c2
      refine lv_iconst (v := 1) hx hb dX8_looksAtMark_16 (by decide) ?_
      refine lv_goto (tgt := 21) hx hb dX8_looksAtMark_17 (by decide) ?_
      exact W.zret (v := 1) hx hb hr rfl (fun t ht hW => ⟨⟨1, (st, sl, so), rfl, ⟨rfl, Or.inl (⟨rfl, by omega, by omega⟩)⟩, xB.of ht hP⟩, hS.F ht⟩) hS.2.2 dX8_looksAtMark_21
set_option maxHeartbeats 4000000 in
set_option maxRecDepth 100000 in
theorem y_looksAtMark62 (l : Launch) (dC : Nat → ClassId) (dI : Nat → Nat → Nat) (ad : Nat → Nat) (E : EP) (hEE : EC ad E) (A : Nat → Nat) (C : Nat → ClassId) (nb sz : Nat) (hN : XN A) (st : Nat → Nat → Int32) (sl : Nat → Nat → Int64) (so : Nat → XR) (B : Nat → Nat) (g m : Nat) (p : Nat) (hI : XI st) (hB : CBt B g m st) (hT : TC B g m p ad st sl so) : Met l yX8_looksAtMark wsX8_looksAtMark ({ frames := 0, cells := 0, slots := 0, locals := 0 }) (va_Pc [.ref (A 1), .int 62] (xPre E dC dI A C nb sz st sl so)) (va_Qi (fun (r : Int32) (x : XT) => x = (st, sl, so) ∧ ((r = 1 ∧ tkd B g m p = 4 ∧ tkv B g p = 62) ∨ (r = 0 ∧ ¬ (tkd B g m p = 4 ∧ tkv B g p = 62)))) (xB dC dI A C nb) (XA A sz)) 0 0 (XA A sz) := by
  refine Met.ofW (cc := cX8_looksAtMark) (maxL := 2) (ret := (some .boolean)) (by decide) rfl ?_
  intro p9 e s m9 args below meth c9 s₁ B9 hml hv
  obtain ⟨rfl, hsz, hP, hK, hE⟩ := hv
  have hx := B9.exec
  have hb := B9.bytes
  have hr := B9.returns
  have hts := atoms_spec (ws := wsX8_looksAtMark) B9.pre
  have hown : s.vm.findClass RX8 = some m9.cls := findClass_of_methodNamed B9.named
  subst hsz
  have hEv := hEE.1 _ _ _ hE
  have hS : va_S (XA A s.heap.size) s.heap s.heap [] := va_S.rf
  have hG : XG [1, 2, 3, 4, 5, 6, 7, 8, 9, 10, 11, 12, 13, 14, 15] st st := XG.rf hI
  have hl := lv_entry ([.ref (A 1), .int 62]) (n := 2) (Nat.le_of_ble_eq_true rfl)
  rw [lg_entry_eq]
  generalize (lg_sl ([.ref (A 1), .int 62]) ++ List.replicate (2 - (lg_sl ([.ref (A 1), .int 62])).length) Slot.unset).toArray = ls at hl ⊢
  have hl : lv_has ls 2 [(0, .ref (A 1)), (1, .int 62)] := hl
  have hB1 := hB.2.2.1
  have hB2 := hB.2.2.2.1
  have hF : FX 0 st sl so st sl so := FX.rf
  have hp9 := hT.2.2.2.2.2.2
  have hk1 := tkd_lt (B := B) (g := g) (m := m) (p := p)
  have hk2 := tkx_le (B := B) (g := g) (m := m) (p := p) hp9
  have hk3 := tka_le (B := B) (g := g) (m := m) (p := p) hp9 hB.2.2.1
  have hk4 := tkv_ltc (p := p) hB hp9
  have hk5 := tkw_lt (B := B) (g := g) (m := m) (p := p)
  refine lv_aload_n hx hb dX8_looksAtMark_0 rfl (lv_at hl 0 rfl) ?_
  refine va_get (D := (dC, dI)) (ci := 9) (v := .int (st 1 4)) (C := RX8) (T := TX8) (N := 15) hx hb hts ii_X8_looksAtMark_X8 hown hK hP 1 (xw_is (r := 1) (by omega) (xc_fix (r := 1) (by omega))) rfl 4 (by decide) (hts _ mm_X8_looksAtMark_1) (fun _ hh => hh) rfl dX8_looksAtMark_1 ?_
  refine zz_top (v := (nI ((tkd B g m p + 3) % 5))) (by show st 1 4 = _; rw [hT.2.2.1]) ?_
  refine lv_iconst (v := 2) hx hb dX8_looksAtMark_4 (by decide) ?_
  refine lv_icmp_ne (tgt := 20) hx hb dX8_looksAtMark_5 (by decide) (fun c1 => ?_) (fun c1 => ?_)
  · have c1 : ¬ ((tkd B g m p + 3) % 5) = 2 := fun hh => c1 ((nI_eq (a := ((tkd B g m p + 3) % 5)) (b := 2) (by omega) (by omega)).mpr hh)
    refine lv_iconst (v := 0) hx hb dX8_looksAtMark_20 (by decide) ?_
    exact W.zret (v := 0) hx hb hr rfl (fun t ht hW => ⟨⟨0, (st, sl, so), rfl, ⟨rfl, Or.inr (⟨rfl, by omega⟩)⟩, xB.of ht hP⟩, hS.F ht⟩) hS.2.2 dX8_looksAtMark_21
  · have c1 : ((tkd B g m p + 3) % 5) = 2 := (nI_eq (a := ((tkd B g m p + 3) % 5)) (b := 2) (by omega) (by omega)).mp c1
    refine lv_aload_n hx hb dX8_looksAtMark_8 rfl (lv_at hl 0 rfl) ?_
    refine va_get (D := (dC, dI)) (ci := 9) (v := .int (st 1 6)) (C := RX8) (T := TX8) (N := 15) hx hb hts ii_X8_looksAtMark_X8 hown hK hP 1 (xw_is (r := 1) (by omega) (xc_fix (r := 1) (by omega))) rfl 6 (by decide) (hts _ mm_X8_looksAtMark_2) (fun _ hh => hh) rfl dX8_looksAtMark_9 ?_
    refine zz_top (v := (nI (tkv B g p))) (by show st 1 6 = _; rw [(hT.2.2.2.1 (by omega))]) ?_
    refine lv_iload_n hx hb dX8_looksAtMark_12 rfl (lv_at hl 1 rfl) ?_
    refine lv_icmp_ne (tgt := 20) hx hb dX8_looksAtMark_13 (by decide) (fun c2 => ?_) (fun c2 => ?_)
    · have c2 : ¬ (tkv B g p) = 62 := fun hh => c2 ((nI_eq (a := (tkv B g p)) (b := 62) (by omega) (by omega)).mpr hh)
      refine lv_iconst (v := 0) hx hb dX8_looksAtMark_20 (by decide) ?_
      exact W.zret (v := 0) hx hb hr rfl (fun t ht hW => ⟨⟨0, (st, sl, so), rfl, ⟨rfl, Or.inr (⟨rfl, by omega⟩)⟩, xB.of ht hP⟩, hS.F ht⟩) hS.2.2 dX8_looksAtMark_21
    · have c2 : (tkv B g p) = 62 := (nI_eq (a := (tkv B g p)) (b := 62) (by omega) (by omega)).mp c2
      refine lv_iconst (v := 1) hx hb dX8_looksAtMark_16 (by decide) ?_
      refine lv_goto (tgt := 21) hx hb dX8_looksAtMark_17 (by decide) ?_
      exact W.zret (v := 1) hx hb hr rfl (fun t ht hW => ⟨⟨1, (st, sl, so), rfl, ⟨rfl, Or.inl (⟨rfl, by omega, by omega⟩)⟩, xB.of ht hP⟩, hS.F ht⟩) hS.2.2 dX8_looksAtMark_21
set_option maxHeartbeats 4000000 in
set_option maxRecDepth 100000 in
theorem y_takeMark41 (l : Launch) (dC : Nat → ClassId) (dI : Nat → Nat → Nat) (ad : Nat → Nat) (E : EP) (hEE : EC ad E) (A : Nat → Nat) (C : Nat → ClassId) (nb sz : Nat) (hN : XN A) (st : Nat → Nat → Int32) (sl : Nat → Nat → Int64) (so : Nat → XR) (B : Nat → Nat) (g m : Nat) (p : Nat) (hI : XI st) (hOI : OI ad so) (hB : CBt B g m st) (hT : TC B g m p ad st sl so) : Met l yX8_takeMark wsX8_takeMark ({ frames := 6, cells := 0, slots := 0, locals := 130 }) (va_Pc [.ref (A 1), .int 41] (xPre E dC dI A C nb sz st sl so)) (va_Qi (fun (r : Int32) (x : XT) => XG [1, 2, 3, 4, 5, 6, 7, 8, 9, 12, 13, 14, 15] st x.1 ∧ OG ad [2, 3, 4] so x.2.2 ∧ FX 2 st sl so x.1 x.2.1 x.2.2 ∧ ((r = 1 ∧ TC B g m (tkx B g m p) ad x.1 x.2.1 x.2.2 ∧ x.1 1 13 = st 1 13 ∧ tkd B g m p = 4 ∧ tkv B g p = 41) ∨ (r = 0 ∧ x.1 1 13 = nI 1 ∧ x.1 1 14 = nI (tka B g m p) ∧ ¬ (tkd B g m p = 4 ∧ tkv B g p = 41)))) (xB dC dI A C nb) (XA A sz)) 0 0 (XA A sz) := by
  refine Met.ofW (cc := cX8_takeMark) (maxL := 2) (ret := (some .boolean)) (by decide) rfl ?_
  intro p9 e s m9 args below meth c9 s₁ B9 hml hv
  obtain ⟨rfl, hsz, hP, hK, hE⟩ := hv
  have hx := B9.exec
  have hb := B9.bytes
  have hr := B9.returns
  have hts := atoms_spec (ws := wsX8_takeMark) B9.pre
  have hown : s.vm.findClass RX8 = some m9.cls := findClass_of_methodNamed B9.named
  subst hsz
  have hEv := hEE.1 _ _ _ hE
  have hS : va_S (XA A s.heap.size) s.heap s.heap [] := va_S.rf
  have hG : XG [1, 2, 3, 4, 5, 6, 7, 8, 9, 12, 13, 14, 15] st st := XG.rf hI
  have hO : OG ad [2, 3, 4] so so := OG.rf hOI
  have hl := lv_entry ([.ref (A 1), .int 41]) (n := 2) (Nat.le_of_ble_eq_true rfl)
  rw [lg_entry_eq]
  generalize (lg_sl ([.ref (A 1), .int 41]) ++ List.replicate (2 - (lg_sl ([.ref (A 1), .int 41])).length) Slot.unset).toArray = ls at hl ⊢
  have hl : lv_has ls 2 [(0, .ref (A 1)), (1, .int 41)] := hl
  have hB1 := hB.2.2.1
  have hB2 := hB.2.2.2.1
  have hF : FX 2 st sl so st sl so := FX.rf
  have hp9 := hT.2.2.2.2.2.2
  have hk1 := tkd_lt (B := B) (g := g) (m := m) (p := p)
  have hk2 := tkx_le (B := B) (g := g) (m := m) (p := p) hp9
  have hk3 := tka_le (B := B) (g := g) (m := m) (p := p) hp9 hB.2.2.1
  have hk4 := tkv_ltc (p := p) hB hp9
  have hk5 := tkw_lt (B := B) (g := g) (m := m) (p := p)
  refine lv_aload_n hx hb dX8_takeMark_0 rfl (lv_at hl 0 rfl) ?_
  refine lv_iload_n hx hb dX8_takeMark_1 rfl (lv_at hl 1 rfl) ?_
  refine va_calli (va_runV (As := [.int 41]) (rest := []) ⟨hx, hb, hml, hown, hts⟩ (y_looksAtMark41 l dC dI ad E hEE A C nb _ hN st sl so B g m p hG.1 (CBt.fr hB hF) hT) (cwV 1 hts gX8_takeMark_X8_looksAtMark rfl rfl rfl (by decide +kernel) ⟨Nat.le_of_ble_eq_true rfl, Nat.le_of_ble_eq_true rfl⟩) ⟨fun a U g mk q => ⟨q.1, xPre.blind hEE q.2⟩, va_recv hK hP (ci := 9) (q0 := 1) rfl (xw_is (r := 1) (by omega) (xc_fix (r := 1) (by omega))), fun U hU hW => ⟨rfl, xPre.of hEE hP hK hE hS hU hW⟩⟩ rfl rfl hl.1 rfl (lv_room (Nat.le_of_ble_eq_true rfl)) dX8_takeMark_2 ⟨Nat.le_of_ble_eq_true rfl, Nat.le_of_ble_eq_true rfl⟩) hS (fun q _ h => XA.le hS.1 q h) (XA.le hS.1) (fun r1 x t H locs ht hvm hw hB9 _ _ hS => ?_)
  have hP := xB.at ht hB9
  clear hB9 ht hvm
  obtain ⟨rfl, hw⟩ := hw
  have hP : va_P (dC, dI) vwCl (xw A C nb st sl so) _ := hP
  rcases hw with ⟨rfl, hf2, hf3⟩ | ⟨rfl, hf4⟩
  · refine lv_if_ne (tgt := 14) hx hb dX8_takeMark_5 (by decide) (fun _ => ?_) (fun cc => absurd cc (by decide))
    refine lv_aload_n hx hb dX8_takeMark_14 rfl (lv_at hl 0 rfl) ?_
    refine va_callv (va_runV (As := []) (rest := []) ⟨hx, hb, hml, hown, hts⟩ (y_X8_step l dC dI ad E hEE A C nb _ hN st sl so B g m (tkx B g m p) hG.1 hO.1 (CBt.fr hB hF) hT.1 hk2.2) (cwV 0 hts gX8_takeMark_X8_step rfl rfl rfl (by decide +kernel) ⟨Nat.le_of_ble_eq_true rfl, Nat.le_of_ble_eq_true rfl⟩) ⟨fun a U g mk q => ⟨q.1, xPre.blind hEE q.2⟩, va_recv hK hP (ci := 9) (q0 := 1) rfl (xw_is (r := 1) (by omega) (xc_fix (r := 1) (by omega))), fun U hU hW => ⟨rfl, xPre.of hEE hP hK hE hS hU hW⟩⟩ rfl rfl hl.1 rfl (lv_room (Nat.le_of_ble_eq_true rfl)) dX8_takeMark_15 ⟨Nat.le_of_ble_eq_true rfl, Nat.le_of_ble_eq_true rfl⟩) hS (fun q _ h => XA.le hS.1 q h) (XA.le hS.1) (fun x t H locs ht hvm hw hB9 _ _ hS => ?_)
    have hP := xB.at ht hB9
    clear hB9 ht hvm
    obtain ⟨st6, sl7, so8⟩ := x
    obtain ⟨hGst6, hOst6, hFst6, hw⟩ := hw
    dsimp only at hGst6 hOst6 hFst6 hw
    have hO : OG ad [2, 3, 4] so so8 := hO.tr hOst6 (by decide)
    have hP : va_P (dC, dI) vwCl (xw A C nb st6 sl7 so8) _ := hP
    have hG : XG [1, 2, 3, 4, 5, 6, 7, 8, 9, 12, 13, 14, 15] st st6 := hG.tr hGst6 (by decide)
    have hF : FX 2 st sl so st6 sl7 so8 := hF.tr hFst6 (by omega) (by omega)
    have hT := hw
    have hp9 := hT.2.2.2.2.2.2
    have hk1 := tkd_lt (B := B) (g := g) (m := m) (p := (tkx B g m p))
    have hk2 := tkx_le (B := B) (g := g) (m := m) (p := (tkx B g m p)) hp9
    have hk3 := tka_le (B := B) (g := g) (m := m) (p := (tkx B g m p)) hp9 hB.2.2.1
    have hk4 := tkv_ltc (p := (tkx B g m p)) hB hp9
    have hk5 := tkw_lt (B := B) (g := g) (m := m) (p := (tkx B g m p))
    refine lv_iconst (v := 1) hx hb dX8_takeMark_18 (by decide) ?_
    exact W.zret (v := 1) hx hb hr rfl (fun t ht hW => ⟨⟨1, (st6, sl7, so8), rfl, ⟨hG, hO, hF, Or.inl (⟨rfl, hT, by show st6 1 13 = st 1 13; rw [(hFst6 1 13 (by decide)).1], by omega, by omega⟩)⟩, xB.of ht hP⟩, hS.F ht⟩) hS.2.2 dX8_takeMark_19
  · refine lv_if_ne (tgt := 14) hx hb dX8_takeMark_5 (by decide) (fun cc => absurd (by decide) cc) (fun _ => ?_)
    refine lv_aload_n hx hb dX8_takeMark_8 rfl (lv_at hl 0 rfl) ?_
    refine lv_iconst (v := 1) hx hb dX8_takeMark_9 (by decide) ?_
    refine va_calli (va_runV (As := [.int 1]) (rest := []) ⟨hx, hb, hml, hown, hts⟩ (y_X8_refuse l dC dI ad E hEE A C nb _ hN st sl so 1 B g m p (by omega) hG.1 hO.1 (CBt.fr hB hF) hT) (cwV 1 hts gX8_takeMark_X8_refuse rfl rfl rfl (by decide +kernel) ⟨Nat.le_of_ble_eq_true rfl, Nat.le_of_ble_eq_true rfl⟩) ⟨fun a U g mk q => ⟨q.1, xPre.blind hEE q.2⟩, va_recv hK hP (ci := 9) (q0 := 1) rfl (xw_is (r := 1) (by omega) (xc_fix (r := 1) (by omega))), fun U hU hW => ⟨rfl, xPre.of hEE hP hK hE hS hU hW⟩⟩ rfl rfl hl.1 rfl (lv_room (Nat.le_of_ble_eq_true rfl)) dX8_takeMark_10 ⟨Nat.le_of_ble_eq_true rfl, Nat.le_of_ble_eq_true rfl⟩) hS (fun q _ h => XA.le hS.1 q h) (XA.le hS.1) (fun r9 x t H locs ht hvm hw hB9 _ _ hS => ?_)
    have hP := xB.at ht hB9
    clear hB9 ht hvm
    obtain ⟨st10, sl11, so12⟩ := x
    obtain ⟨hGst10, hOst10, hFst10, hw⟩ := hw
    dsimp only at hGst10 hOst10 hFst10 hw
    have hO : OG ad [2, 3, 4] so so12 := hO.tr hOst10 (by decide)
    have hP : va_P (dC, dI) vwCl (xw A C nb st10 sl11 so12) _ := hP
    have hG : XG [1, 2, 3, 4, 5, 6, 7, 8, 9, 12, 13, 14, 15] st st10 := hG.tr hGst10 (by decide)
    have hF : FX 2 st sl so st10 sl11 so12 := hF.tr hFst10 (by omega) (by omega)
    obtain ⟨rfl, hf13, hf14, hT⟩ := hw
    have hp9 := hT.2.2.2.2.2.2
    have hk1 := tkd_lt (B := B) (g := g) (m := m) (p := p)
    have hk2 := tkx_le (B := B) (g := g) (m := m) (p := p) hp9
    have hk3 := tka_le (B := B) (g := g) (m := m) (p := p) hp9 hB.2.2.1
    have hk4 := tkv_ltc (p := p) hB hp9
    have hk5 := tkw_lt (B := B) (g := g) (m := m) (p := p)
    exact W.zret (v := 0) hx hb hr rfl (fun t ht hW => ⟨⟨0, (st10, sl11, so12), rfl, ⟨hG, hO, hF, Or.inr (⟨rfl, by show st10 1 13 = _; rw [hf13], by show st10 1 14 = _; rw [hf14], by omega⟩)⟩, xB.of ht hP⟩, hS.F ht⟩) hS.2.2 dX8_takeMark_13
set_option maxHeartbeats 4000000 in
set_option maxRecDepth 100000 in
theorem y_numberOm0 (l : Launch) (dC : Nat → ClassId) (dI : Nat → Nat → Nat) (ad : Nat → Nat) (E : EP) (hEE : EC ad E) (A : Nat → Nat) (C : Nat → ClassId) (nb sz : Nat) (hN : XN A) (st : Nat → Nat → Int32) (sl : Nat → Nat → Int64) (so : Nat → XR) (vw : Int64) (c : Nat → Nat) (nm : Nat → Nat → Nat) (hI : XI st) (hR : CN c nm st sl 0) : Met l yX4_numberOf wsX4_numberOf ({ frames := 0, cells := 0, slots := 0, locals := 0 }) (va_Pc [.ref (A (36 + 20 * 0)), .int 0, .long vw] (xPre E dC dI A C nb sz st sl so)) (va_Qi (fun (r : Int32) (x : XT) => x = (st, sl, so) ∧ ((r = (-1) ∧ (∀ i, i < c 0 → ¬ sl (36 + 20 * 0 + 1) i = vw)) ∨ (∃ n : Nat, r = nI n ∧ n < c 0 ∧ sl (36 + 20 * 0 + 1) n = vw))) (xB dC dI A C nb) (XA A sz)) 0 0 (XA A sz) := by
  refine Met.ofW (cc := cX4_numberOf) (maxL := 8) (ret := (some .int)) (by decide) rfl ?_
  intro p9 e s m9 args below meth c9 s₁ B9 hml hv
  obtain ⟨rfl, hsz, hP, hK, hE⟩ := hv
  have hx := B9.exec
  have hb := B9.bytes
  have hr := B9.returns
  have hts := atoms_spec (ws := wsX4_numberOf) B9.pre
  have hown : s.vm.findClass RX4 = some m9.cls := findClass_of_methodNamed B9.named
  subst hsz
  have hEv := hEE.1 _ _ _ hE
  have hS : va_S (XA A s.heap.size) s.heap s.heap [] := va_S.rf
  have hG : XG [1, 2, 3, 4, 5, 6, 7, 8, 9, 10, 11, 12, 13, 14, 15] st st := XG.rf hI
  have hl := lv_entry ([.ref (A (36 + 20 * 0)), .int 0, .long vw]) (n := 8) (Nat.le_of_ble_eq_true rfl)
  rw [lg_entry_eq]
  generalize (lg_sl ([.ref (A (36 + 20 * 0)), .int 0, .long vw]) ++ List.replicate (8 - (lg_sl ([.ref (A (36 + 20 * 0)), .int 0, .long vw])).length) Slot.unset).toArray = ls at hl ⊢
  have hl : lv_has ls 8 [(0, .ref (A (36 + 20 * 0))), (1, .int 0), (2, .long vw)] := hl
  have hR9 := hR.2.1
  refine lv_iload_n hx hb dX4_numberOf_0 rfl (lv_at hl 1 rfl) ?_
  refine lv_if_ne (tgt := 11) hx hb dX4_numberOf_1 (by decide) (fun cc => absurd (by decide) cc) (fun _ => ?_)
  refine lv_aload_n hx hb dX4_numberOf_4 rfl (lv_at hl 0 rfl) ?_
  refine va_get (D := (dC, dI)) (ci := 5) (v := .int (st (36 + 20 * 0) 5)) (C := RX4) (T := TX4) (N := 12) hx hb hts ii_X4_numberOf_X4 hown hK hP (36 + 20 * 0) (xw_is (r := (36 + 20 * 0)) (by omega) (xc_pk (i := 0) (o := 0) (by omega) (by omega))) rfl 5 (by decide) (hts _ mm_X4_numberOf_1) (fun _ hh => hh) rfl dX4_numberOf_5 ?_
  refine zz_top (v := (nI (c 0))) (by show st (36 + 20 * 0) 5 = _; rw [hR.c0]) ?_
  refine lv_goto (tgt := 27) hx hb dX4_numberOf_8 (by decide) ?_
  refine lv_istore (lv' := [(4, .int (nI (c 0))), (0, .ref (A (36 + 20 * 0))), (1, .int 0), (2, .long vw)]) hx hb dX4_numberOf_27 hl (by decide) rfl (fun ls hl => ?_)
  refine lv_iconst (v := 0) hx hb dX4_numberOf_29 (by decide) ?_
  refine lv_istore (lv' := [(5, .int 0), (4, .int (nI (c 0))), (0, .ref (A (36 + 20 * 0))), (1, .int 0), (2, .long vw)]) hx hb dX4_numberOf_30 hl (by decide) rfl (fun ls hl => ?_)
  refine zz_wf (fun n stk H locs ls => ∃ k1 : Nat, n = 10 - k1 ∧ 0 ≤ k1 ∧ k1 < 10 ∧ k1 ≤ c 0 ∧ (∀ i, i < k1 → ¬ sl (36 + 20 * 0 + 1) i = vw) ∧ va_P (dC, dI) vwCl (xw A C nb st sl so) H ∧ va_S (XA A s.heap.size) s.heap H locs ∧ lv_has ls 8 [(5, .int (nI k1)), (4, .int (nI (c 0))), (0, .ref (A (36 + 20 * 0))), (1, .int 0), (2, .long vw)] ∧ stk = []) ?_ (10 - 0) _ _ _ _ ⟨0, rfl, by omega, by omega, by omega, fun i hi => absurd hi (by omega), hP, hS, lv_sub hl [0, 1, 2, 3, 4] rfl, rfl⟩
  rintro nn stk H locs ls ⟨k1, hm5, hv2_0, hv3_1, hv4_0, hv5_1, hP, hS, hl, rfl⟩ ih6
  refine lv_iload hx hb dX4_numberOf_32 (lv_at hl 0 rfl) ?_
  refine lv_iload hx hb dX4_numberOf_34 (lv_at hl 1 rfl) ?_
  refine lv_icmp_ge (tgt := 99) hx hb dX4_numberOf_36 (by decide) (fun c2 => ?_) (fun c2 => ?_)
  · have c2 : (c 0) ≤ k1 := (nI_leI (a := (c 0)) (b := k1) (by omega) (by omega)).mp c2
    refine lv_iconst (v := (-1)) hx hb dX4_numberOf_99 (by decide) ?_
    exact W.iret (v := (-1)) hx hb hr (fun t ht hW => ⟨⟨(-1), (st, sl, so), rfl, ⟨rfl, Or.inl (⟨rfl, fun i hi => hv5_1 i (by omega)⟩)⟩, xB.of ht hP⟩, hS.F ht⟩) hS.2.2 dX4_numberOf_100
  · have c2 : ¬ (c 0) ≤ k1 := fun hh => c2 ((nI_leI (a := (c 0)) (b := k1) (by omega) (by omega)).mpr hh)
    refine lv_iload_n hx hb dX4_numberOf_39 rfl (lv_at hl 3 rfl) ?_
    refine lv_if_ne (tgt := 53) hx hb dX4_numberOf_40 (by decide) (fun cc => absurd (by decide) cc) (fun _ => ?_)
    refine lv_aload_n hx hb dX4_numberOf_43 rfl (lv_at hl 2 rfl) ?_
    refine va_get (D := (dC, dI)) (ci := 5) (v := .ref (A (36 + 20 * 0 + 1))) (C := RX4) (T := TX4) (N := 12) hx hb hts ii_X4_numberOf_X4 hown hK hP (36 + 20 * 0) (xw_is (r := (36 + 20 * 0)) (by omega) (xc_pk (i := 0) (o := 0) (by omega) (by omega))) rfl 0 (by decide) (hts _ mm_X4_numberOf_4) (fun _ hh => hh) rfl dX4_numberOf_44 ?_
    refine lv_iload hx hb dX4_numberOf_47 (lv_at hl 0 rfl) ?_
    refine va_lald hx hb hK hP (36 + 20 * 0 + 1) (36 + 20 * 0 + 1) (xw_is (r := (36 + 20 * 0 + 1)) (by omega) (xc_pk (i := 0) (o := 1) (by omega) (by omega))) (xt_is (r := (36 + 20 * 0 + 1)) (by omega) ((xty_pk (i := 0) (o := 1) (by omega)).trans rfl)) (i := (nI k1)) (vp_in_nI (by omega) (by decide)) dX4_numberOf_49 ?_
    refine zz_topl (v := sl (36 + 20 * 0 + 1) k1) (by rw [nI_clamp (by omega)]) ?_
    refine lv_goto (tgt := 81) hx hb dX4_numberOf_50 (by decide) ?_
    refine lv_lstore (lv' := [(6, .long (sl (36 + 20 * 0 + 1) k1)), (5, .int (nI k1)), (4, .int (nI (c 0))), (0, .ref (A (36 + 20 * 0))), (1, .int 0), (2, .long vw)]) hx hb dX4_numberOf_81 hl (by decide) rfl (fun ls hl => ?_)
    refine lv_lload hx hb dX4_numberOf_83 (lv_at hl 0 rfl) ?_
    refine lv_lload_n hx hb dX4_numberOf_85 rfl (lv_at hl 5 rfl) ?_
    refine W.lcmp hx hb dX4_numberOf_86 ?_
    refine lv_topi (fun z7 ez7 => ?_)
    refine lv_if_ne (tgt := 93) hx hb dX4_numberOf_87 (by decide) (fun c4 => ?_) (fun c4 => ?_)
    · have c4 : ¬ (sl (36 + 20 * 0 + 1) k1) = vw := fun hh => c4 (by rw [ez7]; exact (lg_cmp_eq _ _).mpr hh)
      have c4 : ¬ sl (36 + 20 * 0 + 1) k1 = vw := fun hh => c4 (hh)
      refine lv_iinc (v := (nI (k1 + 1))) (lv' := [(5, .int (nI (k1 + 1))), (6, .long (sl (36 + 20 * 0 + 1) k1)), (4, .int (nI (c 0))), (0, .ref (A (36 + 20 * 0))), (1, .int 0), (2, .long vw)]) hx hb dX4_numberOf_93 hl (k := 1) rfl (nI_add k1 1) (by decide) rfl (fun ls hl => ?_)
      refine lv_goto (tgt := 32) hx hb dX4_numberOf_96 (by decide) ?_
      exact ih6 (10 - (k1 + 1)) _ _ _ _ (by omega) ⟨(k1 + 1), rfl, by omega, by omega, by omega, fun i hi hz => if h9 : i = k1 then c4 (by rw [← h9]; exact hz) else hv5_1 i (by omega) hz, hP, hS, lv_sub hl [0, 2, 3, 4, 5] rfl, rfl⟩
    · have c4 : (sl (36 + 20 * 0 + 1) k1) = vw := (lg_cmp_eq _ _).mp (by rw [← ez7]; exact c4)
      have c4 : sl (36 + 20 * 0 + 1) k1 = vw := c4
      refine lv_iload hx hb dX4_numberOf_90 (lv_at hl 1 rfl) ?_
      exact W.iret (v := (nI k1)) hx hb hr (fun t ht hW => ⟨⟨(nI k1), (st, sl, so), rfl, ⟨rfl, Or.inr (⟨k1, rfl, by omega, c4⟩)⟩, xB.of ht hP⟩, hS.F ht⟩) hS.2.2 dX4_numberOf_92
set_option maxHeartbeats 4000000 in
set_option maxRecDepth 100000 in
theorem y_numberOm1 (l : Launch) (dC : Nat → ClassId) (dI : Nat → Nat → Nat) (ad : Nat → Nat) (E : EP) (hEE : EC ad E) (A : Nat → Nat) (C : Nat → ClassId) (nb sz : Nat) (hN : XN A) (st : Nat → Nat → Int32) (sl : Nat → Nat → Int64) (so : Nat → XR) (vw : Int64) (c : Nat → Nat) (nm : Nat → Nat → Nat) (hI : XI st) (hR : CN c nm st sl 0) : Met l yX4_numberOf wsX4_numberOf ({ frames := 0, cells := 0, slots := 0, locals := 0 }) (va_Pc [.ref (A (36 + 20 * 0)), .int 1, .long vw] (xPre E dC dI A C nb sz st sl so)) (va_Qi (fun (r : Int32) (x : XT) => x = (st, sl, so) ∧ ((r = (-1) ∧ (∀ i, i < c 1 → ¬ sl (36 + 20 * 0 + (6 + i)) 0 = vw)) ∨ (∃ n : Nat, r = nI n ∧ n < c 1 ∧ sl (36 + 20 * 0 + (6 + n)) 0 = vw))) (xB dC dI A C nb) (XA A sz)) 0 0 (XA A sz) := by
  refine Met.ofW (cc := cX4_numberOf) (maxL := 8) (ret := (some .int)) (by decide) rfl ?_
  intro p9 e s m9 args below meth c9 s₁ B9 hml hv
  obtain ⟨rfl, hsz, hP, hK, hE⟩ := hv
  have hx := B9.exec
  have hb := B9.bytes
  have hr := B9.returns
  have hts := atoms_spec (ws := wsX4_numberOf) B9.pre
  have hown : s.vm.findClass RX4 = some m9.cls := findClass_of_methodNamed B9.named
  subst hsz
  have hEv := hEE.1 _ _ _ hE
  have hS : va_S (XA A s.heap.size) s.heap s.heap [] := va_S.rf
  have hG : XG [1, 2, 3, 4, 5, 6, 7, 8, 9, 10, 11, 12, 13, 14, 15] st st := XG.rf hI
  have hl := lv_entry ([.ref (A (36 + 20 * 0)), .int 1, .long vw]) (n := 8) (Nat.le_of_ble_eq_true rfl)
  rw [lg_entry_eq]
  generalize (lg_sl ([.ref (A (36 + 20 * 0)), .int 1, .long vw]) ++ List.replicate (8 - (lg_sl ([.ref (A (36 + 20 * 0)), .int 1, .long vw])).length) Slot.unset).toArray = ls at hl ⊢
  have hl : lv_has ls 8 [(0, .ref (A (36 + 20 * 0))), (1, .int 1), (2, .long vw)] := hl
  have hR9 := hR.2.1
  refine lv_iload_n hx hb dX4_numberOf_0 rfl (lv_at hl 1 rfl) ?_
  refine lv_if_ne (tgt := 11) hx hb dX4_numberOf_1 (by decide) (fun _ => ?_) (fun cc => absurd cc (by decide))
  refine lv_iload_n hx hb dX4_numberOf_11 rfl (lv_at hl 1 rfl) ?_
  refine lv_iconst (v := 1) hx hb dX4_numberOf_12 (by decide) ?_
  refine lv_icmp_ne (tgt := 23) hx hb dX4_numberOf_13 (by decide) (fun cc => absurd (by decide) cc) (fun _ => ?_)
  refine lv_aload_n hx hb dX4_numberOf_16 rfl (lv_at hl 0 rfl) ?_
  refine va_get (D := (dC, dI)) (ci := 5) (v := .int (st (36 + 20 * 0) 6)) (C := RX4) (T := TX4) (N := 12) hx hb hts ii_X4_numberOf_X4 hown hK hP (36 + 20 * 0) (xw_is (r := (36 + 20 * 0)) (by omega) (xc_pk (i := 0) (o := 0) (by omega) (by omega))) rfl 6 (by decide) (hts _ mm_X4_numberOf_2) (fun _ hh => hh) rfl dX4_numberOf_17 ?_
  refine zz_top (v := (nI (c 1))) (by show st (36 + 20 * 0) 6 = _; rw [hR.c1]) ?_
  refine lv_goto (tgt := 27) hx hb dX4_numberOf_20 (by decide) ?_
  refine lv_istore (lv' := [(4, .int (nI (c 1))), (0, .ref (A (36 + 20 * 0))), (1, .int 1), (2, .long vw)]) hx hb dX4_numberOf_27 hl (by decide) rfl (fun ls hl => ?_)
  refine lv_iconst (v := 0) hx hb dX4_numberOf_29 (by decide) ?_
  refine lv_istore (lv' := [(5, .int 0), (4, .int (nI (c 1))), (0, .ref (A (36 + 20 * 0))), (1, .int 1), (2, .long vw)]) hx hb dX4_numberOf_30 hl (by decide) rfl (fun ls hl => ?_)
  refine zz_wf (fun n stk H locs ls => ∃ k1 : Nat, n = 10 - k1 ∧ 0 ≤ k1 ∧ k1 < 10 ∧ k1 ≤ c 1 ∧ (∀ i, i < k1 → ¬ sl (36 + 20 * 0 + (6 + i)) 0 = vw) ∧ va_P (dC, dI) vwCl (xw A C nb st sl so) H ∧ va_S (XA A s.heap.size) s.heap H locs ∧ lv_has ls 8 [(5, .int (nI k1)), (4, .int (nI (c 1))), (0, .ref (A (36 + 20 * 0))), (1, .int 1), (2, .long vw)] ∧ stk = []) ?_ (10 - 0) _ _ _ _ ⟨0, rfl, by omega, by omega, by omega, fun i hi => absurd hi (by omega), hP, hS, lv_sub hl [0, 1, 2, 3, 4] rfl, rfl⟩
  rintro nn stk H locs ls ⟨k1, hm5, hv2_0, hv3_1, hv4_0, hv5_1, hP, hS, hl, rfl⟩ ih6
  refine lv_iload hx hb dX4_numberOf_32 (lv_at hl 0 rfl) ?_
  refine lv_iload hx hb dX4_numberOf_34 (lv_at hl 1 rfl) ?_
  refine lv_icmp_ge (tgt := 99) hx hb dX4_numberOf_36 (by decide) (fun c3 => ?_) (fun c3 => ?_)
  · have c3 : (c 1) ≤ k1 := (nI_leI (a := (c 1)) (b := k1) (by omega) (by omega)).mp c3
    refine lv_iconst (v := (-1)) hx hb dX4_numberOf_99 (by decide) ?_
    exact W.iret (v := (-1)) hx hb hr (fun t ht hW => ⟨⟨(-1), (st, sl, so), rfl, ⟨rfl, Or.inl (⟨rfl, fun i hi => hv5_1 i (by omega)⟩)⟩, xB.of ht hP⟩, hS.F ht⟩) hS.2.2 dX4_numberOf_100
  · have c3 : ¬ (c 1) ≤ k1 := fun hh => c3 ((nI_leI (a := (c 1)) (b := k1) (by omega) (by omega)).mpr hh)
    refine lv_iload_n hx hb dX4_numberOf_39 rfl (lv_at hl 3 rfl) ?_
    refine lv_if_ne (tgt := 53) hx hb dX4_numberOf_40 (by decide) (fun _ => ?_) (fun cc => absurd cc (by decide))
    refine lv_iload_n hx hb dX4_numberOf_53 rfl (lv_at hl 3 rfl) ?_
    refine lv_iconst (v := 1) hx hb dX4_numberOf_54 (by decide) ?_
    refine lv_icmp_ne (tgt := 71) hx hb dX4_numberOf_55 (by decide) (fun cc => absurd (by decide) cc) (fun _ => ?_)
    refine lv_aload_n hx hb dX4_numberOf_58 rfl (lv_at hl 2 rfl) ?_
    refine va_get (D := (dC, dI)) (ci := 5) (v := .ref (A (36 + 20 * 0 + 4))) (C := RX4) (T := TX4) (N := 12) hx hb hts ii_X4_numberOf_X4 hown hK hP (36 + 20 * 0) (xw_is (r := (36 + 20 * 0)) (by omega) (xc_pk (i := 0) (o := 0) (by omega) (by omega))) rfl 3 (by decide) (hts _ mm_X4_numberOf_5) (fun _ hh => hh) rfl dX4_numberOf_59 ?_
    refine lv_iload hx hb dX4_numberOf_62 (lv_at hl 0 rfl) ?_
    refine va_aldq hx hb hK hP (36 + 20 * 0 + 4) (36 + 20 * 0 + 4) (xw_is (r := (36 + 20 * 0 + 4)) (by omega) (xc_pk (i := 0) (o := 4) (by omega) (by omega))) (xt_is (r := (36 + 20 * 0 + 4)) (by omega) ((xty_pk (i := 0) (o := 4) (by omega)).trans rfl)) (i := (nI k1)) (vp_in_nI (by omega) (by decide)) dX4_numberOf_64 ?_
    refine zz_topq (r := some (A (36 + 20 * 0 + (6 + k1)))) (by rw [nI_clamp (by omega)]; exact congrArg some (congrArg A (by omega))) ?_
    refine va_getN (host := "OffTheLead") (D := (dC, dI)) (ci := 7) (v := .long (sl (36 + 20 * 0 + (6 + k1)) 0)) (C := RX6) (T := TX6) (N := 9) hx hb hts ii_X4_numberOf_X6 hown hK hP (36 + 20 * 0 + (6 + k1)) (xw_is (r := (36 + 20 * 0 + (6 + k1))) (by omega) (xc_person (i := 0) (p := k1) (by omega) (by omega))) rfl 0 (by decide) (va_Nw.use rfl (nf_X4_66 hEv)) (fun _ hh => hh) rfl dX4_numberOf_65 ?_
    refine lv_topl (fun z7 ez7 => ?_)
    refine lv_goto (tgt := 81) hx hb dX4_numberOf_68 (by decide) ?_
    refine lv_lstore (lv' := [(6, .long z7), (5, .int (nI k1)), (4, .int (nI (c 1))), (0, .ref (A (36 + 20 * 0))), (1, .int 1), (2, .long vw)]) hx hb dX4_numberOf_81 hl (by decide) rfl (fun ls hl => ?_)
    refine lv_lload hx hb dX4_numberOf_83 (lv_at hl 0 rfl) ?_
    refine lv_lload_n hx hb dX4_numberOf_85 rfl (lv_at hl 5 rfl) ?_
    refine W.lcmp hx hb dX4_numberOf_86 ?_
    refine lv_topi (fun z8 ez8 => ?_)
    refine lv_if_ne (tgt := 93) hx hb dX4_numberOf_87 (by decide) (fun c6 => ?_) (fun c6 => ?_)
    · have c6 : ¬ z7 = vw := fun hh => c6 (by rw [ez8]; exact (lg_cmp_eq _ _).mpr hh)
      have c6 : ¬ sl (36 + 20 * 0 + (6 + k1)) 0 = vw := fun hh => c6 (by rw [ez7]; exact hh)
      refine lv_iinc (v := (nI (k1 + 1))) (lv' := [(5, .int (nI (k1 + 1))), (6, .long z7), (4, .int (nI (c 1))), (0, .ref (A (36 + 20 * 0))), (1, .int 1), (2, .long vw)]) hx hb dX4_numberOf_93 hl (k := 1) rfl (nI_add k1 1) (by decide) rfl (fun ls hl => ?_)
      refine lv_goto (tgt := 32) hx hb dX4_numberOf_96 (by decide) ?_
      exact ih6 (10 - (k1 + 1)) _ _ _ _ (by omega) ⟨(k1 + 1), rfl, by omega, by omega, by omega, fun i hi hz => if h9 : i = k1 then c6 (by rw [← h9]; exact hz) else hv5_1 i (by omega) hz, hP, hS, lv_sub hl [0, 2, 3, 4, 5] rfl, rfl⟩
    · have c6 : z7 = vw := (lg_cmp_eq _ _).mp (by rw [← ez8]; exact c6)
      have c6 : sl (36 + 20 * 0 + (6 + k1)) 0 = vw := by rw [← ez7]; exact c6
      refine lv_iload hx hb dX4_numberOf_90 (lv_at hl 1 rfl) ?_
      exact W.iret (v := (nI k1)) hx hb hr (fun t ht hW => ⟨⟨(nI k1), (st, sl, so), rfl, ⟨rfl, Or.inr (⟨k1, rfl, by omega, c6⟩)⟩, xB.of ht hP⟩, hS.F ht⟩) hS.2.2 dX4_numberOf_92
set_option maxHeartbeats 4000000 in
set_option maxRecDepth 100000 in
theorem y_takeNamem0 (l : Launch) (dC : Nat → ClassId) (dI : Nat → Nat → Nat) (ad : Nat → Nat) (E : EP) (hEE : EC ad E) (A : Nat → Nat) (C : Nat → ClassId) (nb sz : Nat) (hN : XN A) (st : Nat → Nat → Int32) (sl : Nat → Nat → Int64) (so : Nat → XR) (B : Nat → Nat) (g m : Nat) (p : Nat) (c : Nat → Nat) (nm : Nat → Nat → Nat) (hI : XI st) (hOI : OI ad so) (hB : CBt B g m st) (hT : TC B g m p ad st sl so) (hR : CN c nm st sl 0) : Met l yX8_takeNamed wsX8_takeNamed ({ frames := 6, cells := 0, slots := 0, locals := 130 }) (va_Pc [.ref (A 1), .ref (A (36 + 20 * 0)), .int 0] (xPre E dC dI A C nb sz st sl so)) (va_Qi (fun (r : Int32) (x : XT) => XG [1, 2, 3, 4, 5, 6, 7, 8, 9, 12, 13, 14, 15] st x.1 ∧ OG ad [2, 3, 4] so x.2.2 ∧ FX 2 st sl so x.1 x.2.1 x.2.2 ∧ ((∃ n : Nat, r = 1 ∧ n < c 0 ∧ x.1 1 9 = nI n ∧ TC B g m (tkx B g m p) ad x.1 x.2.1 x.2.2 ∧ x.1 1 13 = st 1 13 ∧ (∀ k, eOne B g m p (c 0) (nm 0) k = k (tkx B g m p))) ∨ (∃ f : Nat, ∃ a : Nat, r = 0 ∧ x.1 1 13 = nI f ∧ x.1 1 14 = nI a ∧ (1 ≤ f ∧ f < 9) ∧ (∀ k, eOne B g m p (c 0) (nm 0) k = fl f a)))) (xB dC dI A C nb) (XA A sz)) 0 0 (XA A sz) := by
  refine Met.ofW (cc := cX8_takeNamed) (maxL := 3) (ret := (some .boolean)) (by decide) rfl ?_
  intro p9 e s m9 args below meth c9 s₁ B9 hml hv
  obtain ⟨rfl, hsz, hP, hK, hE⟩ := hv
  have hx := B9.exec
  have hb := B9.bytes
  have hr := B9.returns
  have hts := atoms_spec (ws := wsX8_takeNamed) B9.pre
  have hown : s.vm.findClass RX8 = some m9.cls := findClass_of_methodNamed B9.named
  subst hsz
  have hEv := hEE.1 _ _ _ hE
  have hS : va_S (XA A s.heap.size) s.heap s.heap [] := va_S.rf
  have hG : XG [1, 2, 3, 4, 5, 6, 7, 8, 9, 12, 13, 14, 15] st st := XG.rf hI
  have hO : OG ad [2, 3, 4] so so := OG.rf hOI
  have hl := lv_entry ([.ref (A 1), .ref (A (36 + 20 * 0)), .int 0]) (n := 3) (Nat.le_of_ble_eq_true rfl)
  rw [lg_entry_eq]
  generalize (lg_sl ([.ref (A 1), .ref (A (36 + 20 * 0)), .int 0]) ++ List.replicate (3 - (lg_sl ([.ref (A 1), .ref (A (36 + 20 * 0)), .int 0])).length) Slot.unset).toArray = ls at hl ⊢
  have hl : lv_has ls 3 [(0, .ref (A 1)), (1, .ref (A (36 + 20 * 0))), (2, .int 0)] := hl
  have hB1 := hB.2.2.1
  have hB2 := hB.2.2.2.1
  have hF : FX 2 st sl so st sl so := FX.rf
  have hp9 := hT.2.2.2.2.2.2
  have hk1 := tkd_lt (B := B) (g := g) (m := m) (p := p)
  have hk2 := tkx_le (B := B) (g := g) (m := m) (p := p) hp9
  have hk3 := tka_le (B := B) (g := g) (m := m) (p := p) hp9 hB.2.2.1
  have hk4 := tkv_ltc (p := p) hB hp9
  have hk5 := tkw_lt (B := B) (g := g) (m := m) (p := p)
  have hR9 := hR.2.1
  have hT0 := hT
  have hR0 := hR
  have hw25 := @tkw_d B g m p
  refine lv_aload_n hx hb dX8_takeNamed_0 rfl (lv_at hl 0 rfl) ?_
  refine va_get (D := (dC, dI)) (ci := 9) (v := va_rf (so 1 7)) (C := RX8) (T := TX8) (N := 15) hx hb hts ii_X8_takeNamed_X8 hown hK hP 1 (xw_is (r := 1) (by omega) (xc_fix (r := 1) (by omega))) rfl 7 (by decide) (hts _ mm_X8_takeNamed_1) (fun _ hh => hh) rfl dX8_takeNamed_1 ?_
  refine zz_topq (r := some (ad (tkw B g m p))) (by rw [hT.2.2.2.2.2.1]) ?_
  refine va_gets (v := .ref (ad 24)) hx hb (EV.word hEv (i := 24) (by decide)) hS hown (hts _ mm_X8_takeNamed_2) (fun _ hh => hh) dX8_takeNamed_4 ?_
  refine lv_acmp_eq (rx := (some (ad (tkw B g m p)))) (ry := (some (ad 24))) (tgt := 16) hx hb dX8_takeNamed_7 (by decide) (fun c1 => ?_) (fun c1 => ?_)
  · have c1 : (tkw B g m p) = 24 := (EV.eqw hEv (i := (tkw B g m p)) (j := 24) (by omega) (by omega)).mp c1
    refine lv_aload_n hx hb dX8_takeNamed_16 rfl (lv_at hl 0 rfl) ?_
    refine lv_aload_n hx hb dX8_takeNamed_17 rfl (lv_at hl 1 rfl) ?_
    refine lv_iload_n hx hb dX8_takeNamed_18 rfl (lv_at hl 2 rfl) ?_
    refine lv_aload_n hx hb dX8_takeNamed_19 rfl (lv_at hl 0 rfl) ?_
    refine va_get (D := (dC, dI)) (ci := 9) (v := .long (sl 1 8)) (C := RX8) (T := TX8) (N := 15) hx hb hts ii_X8_takeNamed_X8 hown hK hP 1 (xw_is (r := 1) (by omega) (xc_fix (r := 1) (by omega))) rfl 8 (by decide) (hts _ mm_X8_takeNamed_3) (fun _ hh => hh) rfl dX8_takeNamed_20 ?_
    refine lv_topl (fun z1 ez1 => ?_)
    refine va_calli (va_runV (As := [.int 0, .long z1]) (rest := [.ref (A 1)]) ⟨hx, hb, hml, hown, hts⟩ (y_numberOm0 l dC dI ad E hEE A C nb _ hN st sl so z1 c nm hG.1 hR) (cwV 2 hts gX8_takeNamed_X4_numberOf rfl rfl rfl (by decide +kernel) ⟨Nat.le_of_ble_eq_true rfl, Nat.le_of_ble_eq_true rfl⟩) ⟨fun a U g mk q => ⟨q.1, xPre.blind hEE q.2⟩, va_recv hK hP (ci := 5) (q0 := (36 + 20 * 0)) rfl (xw_is (r := (36 + 20 * 0)) (by omega) (xc_pk (i := 0) (o := 0) (by omega) (by omega))), fun U hU hW => ⟨rfl, xPre.of hEE hP hK hE hS hU hW⟩⟩ rfl rfl hl.1 rfl (lv_room (Nat.le_of_ble_eq_true rfl)) dX8_takeNamed_23 ⟨Nat.le_of_ble_eq_true rfl, Nat.le_of_ble_eq_true rfl⟩) hS (fun q _ h => XA.le hS.1 q h) (XA.le hS.1) (fun r2 x t H locs ht hvm hw hB9 _ _ hS => ?_)
    have hP := xB.at ht hB9
    clear hB9 ht hvm
    obtain ⟨rfl, hw⟩ := hw
    have hP : va_P (dC, dI) vwCl (xw A C nb st sl so) _ := hP
    rcases hw with ⟨rfl, hf3⟩ | ⟨n4, rfl, hf5, hf6⟩
    · refine va_put (D := (dC, dI)) (ci := 9) (v := .int (-1)) (ty := .int) (C := RX8) (T := TX8) (N := 15) hx hb hts ii_X8_takeNamed_X8 tyX8 tyX8_ok nmX8 hown hK hP (xD hN _ _ _ _ _ _) hS 1 (xw_is (r := 1) (by omega) (xc_fix (r := 1) (by omega))) rfl 9 (by decide) (hts _ mm_X8_takeNamed_4) (fun _ hh => hh) rfl (by decide +kernel) rfl rfl (Nat.le_of_ble_eq_true rfl) dX8_takeNamed_26 (fun H locs hP _ hS => ?_)
      have hP : va_P (dC, dI) vwCl (xw A C nb (up2 st 1 9 (-1)) sl so) H := by rw [← xset (r := 1) (k := 9) (v := (-1)) (xc_fix (r := 1) (by omega))]; exact hP
      obtain ⟨st7, est7⟩ : ∃ y, y = up2 st 1 9 (-1) := ⟨_, rfl⟩
      have hG : XG [1, 2, 3, 4, 5, 6, 7, 8, 9, 12, 13, 14, 15] st st7 := by rw [est7]; exact hG.up (xz (r := 1) (k := 9) (by decide : xrg 1 9 = 0)) (xpn (c := 11) (by decide : xcl 1 9 = 11) (by decide))
      rw [← est7] at hP
      have hF : FX 2 st sl so st7 sl so := by rw [est7]; exact hF.up (by decide)
      have hT : TC B g m p ad st7 sl so := by rw [est7]; exact hT.up (by omega)
      have hR : CN c nm st7 sl 0 := by rw [est7]; exact hR.up (by omega)
      refine lv_aload_n hx hb dX8_takeNamed_29 rfl (lv_at hl 0 rfl) ?_
      refine va_get (D := (dC, dI)) (ci := 9) (v := .int (st7 1 9)) (C := RX8) (T := TX8) (N := 15) hx hb hts ii_X8_takeNamed_X8 hown hK hP 1 (xw_is (r := 1) (by omega) (xc_fix (r := 1) (by omega))) rfl 9 (by decide) (hts _ mm_X8_takeNamed_4) (fun _ hh => hh) rfl dX8_takeNamed_30 ?_
      refine zz_top (v := (-1)) (by show st7 1 9 = _; rw [est7, up2_same]) ?_
      refine lv_iconst (v := (-1)) hx hb dX8_takeNamed_33 (by decide) ?_
      refine lv_icmp_ne (tgt := 43) hx hb dX8_takeNamed_34 (by decide) (fun cc => absurd (by decide) cc) (fun _ => ?_)
      refine lv_aload_n hx hb dX8_takeNamed_37 rfl (lv_at hl 0 rfl) ?_
      refine lv_iconst (v := 3) hx hb dX8_takeNamed_38 (by decide) ?_
      refine va_calli (va_runV (As := [.int 3]) (rest := []) ⟨hx, hb, hml, hown, hts⟩ (y_X8_refuse l dC dI ad E hEE A C nb _ hN st7 sl so 3 B g m p (by omega) hG.1 hO.1 (CBt.fr hB hF) hT) (cwV 1 hts gX8_takeNamed_X8_refuse rfl rfl rfl (by decide +kernel) ⟨Nat.le_of_ble_eq_true rfl, Nat.le_of_ble_eq_true rfl⟩) ⟨fun a U g mk q => ⟨q.1, xPre.blind hEE q.2⟩, va_recv hK hP (ci := 9) (q0 := 1) rfl (xw_is (r := 1) (by omega) (xc_fix (r := 1) (by omega))), fun U hU hW => ⟨rfl, xPre.of hEE hP hK hE hS hU hW⟩⟩ rfl rfl hl.1 rfl (lv_room (Nat.le_of_ble_eq_true rfl)) dX8_takeNamed_39 ⟨Nat.le_of_ble_eq_true rfl, Nat.le_of_ble_eq_true rfl⟩) hS (fun q _ h => XA.le hS.1 q h) (XA.le hS.1) (fun r8 x t H locs ht hvm hw hB9 _ _ hS => ?_)
      have hP := xB.at ht hB9
      clear hB9 ht hvm
      obtain ⟨st9, sl10, so11⟩ := x
      obtain ⟨hGst9, hOst9, hFst9, hw⟩ := hw
      dsimp only at hGst9 hOst9 hFst9 hw
      have hO : OG ad [2, 3, 4] so so11 := hO.tr hOst9 (by decide)
      have hP : va_P (dC, dI) vwCl (xw A C nb st9 sl10 so11) _ := hP
      have hG : XG [1, 2, 3, 4, 5, 6, 7, 8, 9, 12, 13, 14, 15] st st9 := hG.tr hGst9 (by decide)
      have hF : FX 2 st sl so st9 sl10 so11 := hF.tr hFst9 (by omega) (by omega)
      have hR : CN c nm st9 sl10 0 := hR.fr0 hFst9
      obtain ⟨rfl, hf12, hf13, hT⟩ := hw
      have hp9 := hT.2.2.2.2.2.2
      have hk1 := tkd_lt (B := B) (g := g) (m := m) (p := p)
      have hk2 := tkx_le (B := B) (g := g) (m := m) (p := p) hp9
      have hk3 := tka_le (B := B) (g := g) (m := m) (p := p) hp9 hB.2.2.1
      have hk4 := tkv_ltc (p := p) hB hp9
      have hk5 := tkw_lt (B := B) (g := g) (m := m) (p := p)
      exact W.zret (v := 0) hx hb hr rfl (fun t ht hW => ⟨⟨0, (st9, sl10, so11), rfl, ⟨hG, hO, hF, Or.inr (⟨3, (tka B g m p), rfl, by show st9 1 13 = _; rw [hf12], by show st9 1 14 = _; rw [hf13], by omega, fun k => by unfold eOne; rw [if_neg (by omega), if_pos (knw_f _ (hR0.nk0 (fun i hi => by rw [← (hT0.2.2.2.2.1 (by omega)), ← ez1]; exact hf3 i hi)))]⟩)⟩, xB.of ht hP⟩, hS.F ht⟩) hS.2.2 dX8_takeNamed_42
    · refine va_put (D := (dC, dI)) (ci := 9) (v := .int (nI n4)) (ty := .int) (C := RX8) (T := TX8) (N := 15) hx hb hts ii_X8_takeNamed_X8 tyX8 tyX8_ok nmX8 hown hK hP (xD hN _ _ _ _ _ _) hS 1 (xw_is (r := 1) (by omega) (xc_fix (r := 1) (by omega))) rfl 9 (by decide) (hts _ mm_X8_takeNamed_4) (fun _ hh => hh) rfl (by decide +kernel) rfl rfl (Nat.le_of_ble_eq_true rfl) dX8_takeNamed_26 (fun H locs hP _ hS => ?_)
      have hP : va_P (dC, dI) vwCl (xw A C nb (up2 st 1 9 (nI n4)) sl so) H := by rw [← xset (r := 1) (k := 9) (v := (nI n4)) (xc_fix (r := 1) (by omega))]; exact hP
      obtain ⟨st14, est14⟩ : ∃ y, y = up2 st 1 9 (nI n4) := ⟨_, rfl⟩
      have hG : XG [1, 2, 3, 4, 5, 6, 7, 8, 9, 12, 13, 14, 15] st st14 := by rw [est14]; exact hG.up (xz (r := 1) (k := 9) (by decide : xrg 1 9 = 0)) (xpn (c := 11) (by decide : xcl 1 9 = 11) (by decide))
      rw [← est14] at hP
      have hF : FX 2 st sl so st14 sl so := by rw [est14]; exact hF.up (by decide)
      have hT : TC B g m p ad st14 sl so := by rw [est14]; exact hT.up (by omega)
      have hR : CN c nm st14 sl 0 := by rw [est14]; exact hR.up (by omega)
      refine lv_aload_n hx hb dX8_takeNamed_29 rfl (lv_at hl 0 rfl) ?_
      refine va_get (D := (dC, dI)) (ci := 9) (v := .int (st14 1 9)) (C := RX8) (T := TX8) (N := 15) hx hb hts ii_X8_takeNamed_X8 hown hK hP 1 (xw_is (r := 1) (by omega) (xc_fix (r := 1) (by omega))) rfl 9 (by decide) (hts _ mm_X8_takeNamed_4) (fun _ hh => hh) rfl dX8_takeNamed_30 ?_
      refine zz_top (v := (nI n4)) (by show st14 1 9 = _; rw [est14, up2_same]) ?_
      refine lv_iconst (v := (-1)) hx hb dX8_takeNamed_33 (by decide) ?_
      refine lv_icmp_ne (tgt := 43) hx hb dX8_takeNamed_34 (by decide) (fun _ => ?_) (fun cc => absurd cc (nI_nem (by omega)))
      refine lv_aload_n hx hb dX8_takeNamed_43 rfl (lv_at hl 0 rfl) ?_
      refine va_callv (va_runV (As := []) (rest := []) ⟨hx, hb, hml, hown, hts⟩ (y_X8_step l dC dI ad E hEE A C nb _ hN st14 sl so B g m (tkx B g m p) hG.1 hO.1 (CBt.fr hB hF) hT.1 hk2.2) (cwV 0 hts gX8_takeNamed_X8_step rfl rfl rfl (by decide +kernel) ⟨Nat.le_of_ble_eq_true rfl, Nat.le_of_ble_eq_true rfl⟩) ⟨fun a U g mk q => ⟨q.1, xPre.blind hEE q.2⟩, va_recv hK hP (ci := 9) (q0 := 1) rfl (xw_is (r := 1) (by omega) (xc_fix (r := 1) (by omega))), fun U hU hW => ⟨rfl, xPre.of hEE hP hK hE hS hU hW⟩⟩ rfl rfl hl.1 rfl (lv_room (Nat.le_of_ble_eq_true rfl)) dX8_takeNamed_44 ⟨Nat.le_of_ble_eq_true rfl, Nat.le_of_ble_eq_true rfl⟩) hS (fun q _ h => XA.le hS.1 q h) (XA.le hS.1) (fun x t H locs ht hvm hw hB9 _ _ hS => ?_)
      have hP := xB.at ht hB9
      clear hB9 ht hvm
      obtain ⟨st16, sl17, so18⟩ := x
      obtain ⟨hGst16, hOst16, hFst16, hw⟩ := hw
      dsimp only at hGst16 hOst16 hFst16 hw
      have hO : OG ad [2, 3, 4] so so18 := hO.tr hOst16 (by decide)
      have hP : va_P (dC, dI) vwCl (xw A C nb st16 sl17 so18) _ := hP
      have hG : XG [1, 2, 3, 4, 5, 6, 7, 8, 9, 12, 13, 14, 15] st st16 := hG.tr hGst16 (by decide)
      have hF : FX 2 st sl so st16 sl17 so18 := hF.tr hFst16 (by omega) (by omega)
      have hR : CN c nm st16 sl17 0 := hR.fr0 hFst16
      have hT := hw
      have hp9 := hT.2.2.2.2.2.2
      have hk1 := tkd_lt (B := B) (g := g) (m := m) (p := (tkx B g m p))
      have hk2 := tkx_le (B := B) (g := g) (m := m) (p := (tkx B g m p)) hp9
      have hk3 := tka_le (B := B) (g := g) (m := m) (p := (tkx B g m p)) hp9 hB.2.2.1
      have hk4 := tkv_ltc (p := (tkx B g m p)) hB hp9
      have hk5 := tkw_lt (B := B) (g := g) (m := m) (p := (tkx B g m p))
      refine lv_iconst (v := 1) hx hb dX8_takeNamed_47 (by decide) ?_
      exact W.zret (v := 1) hx hb hr rfl (fun t ht hW => ⟨⟨1, (st16, sl17, so18), rfl, ⟨hG, hO, hF, Or.inl (⟨n4, rfl, by omega, by show st16 1 9 = _; rw [(hFst16 1 9 (by decide)).1, est14, up2_same], hT, by show st16 1 13 = st 1 13; rw [(hFst16 1 13 (by decide)).1, est14, up2_ne (r := 1) (k := 9) (a := 1) (j := 13) _ _ (by omega)], fun k => by unfold eOne; rw [if_neg (by omega), if_neg (by rw [knw_t (n := c 0) (i := n4) hf5 (hR0.kn0 hf5 (tkc_V (m := m) (by omega) hB1 (by omega)) (hf6.trans (by rw [ez1]; exact (hT0.2.2.2.2.1 (by omega)))))]; decide)]⟩)⟩, xB.of ht hP⟩, hS.F ht⟩) hS.2.2 dX8_takeNamed_48
  · have c1 : ¬ (tkw B g m p) = 24 := fun hh => c1 ((EV.eqw hEv (i := (tkw B g m p)) (j := 24) (by omega) (by omega)).mpr hh)
    refine lv_aload_n hx hb dX8_takeNamed_10 rfl (lv_at hl 0 rfl) ?_
    refine lv_iconst (v := 1) hx hb dX8_takeNamed_11 (by decide) ?_
    refine va_calli (va_runV (As := [.int 1]) (rest := []) ⟨hx, hb, hml, hown, hts⟩ (y_X8_refuse l dC dI ad E hEE A C nb _ hN st sl so 1 B g m p (by omega) hG.1 hO.1 (CBt.fr hB hF) hT) (cwV 1 hts gX8_takeNamed_X8_refuse rfl rfl rfl (by decide +kernel) ⟨Nat.le_of_ble_eq_true rfl, Nat.le_of_ble_eq_true rfl⟩) ⟨fun a U g mk q => ⟨q.1, xPre.blind hEE q.2⟩, va_recv hK hP (ci := 9) (q0 := 1) rfl (xw_is (r := 1) (by omega) (xc_fix (r := 1) (by omega))), fun U hU hW => ⟨rfl, xPre.of hEE hP hK hE hS hU hW⟩⟩ rfl rfl hl.1 rfl (lv_room (Nat.le_of_ble_eq_true rfl)) dX8_takeNamed_12 ⟨Nat.le_of_ble_eq_true rfl, Nat.le_of_ble_eq_true rfl⟩) hS (fun q _ h => XA.le hS.1 q h) (XA.le hS.1) (fun r19 x t H locs ht hvm hw hB9 _ _ hS => ?_)
    have hP := xB.at ht hB9
    clear hB9 ht hvm
    obtain ⟨st20, sl21, so22⟩ := x
    obtain ⟨hGst20, hOst20, hFst20, hw⟩ := hw
    dsimp only at hGst20 hOst20 hFst20 hw
    have hO : OG ad [2, 3, 4] so so22 := hO.tr hOst20 (by decide)
    have hP : va_P (dC, dI) vwCl (xw A C nb st20 sl21 so22) _ := hP
    have hG : XG [1, 2, 3, 4, 5, 6, 7, 8, 9, 12, 13, 14, 15] st st20 := hG.tr hGst20 (by decide)
    have hF : FX 2 st sl so st20 sl21 so22 := hF.tr hFst20 (by omega) (by omega)
    have hR : CN c nm st20 sl21 0 := hR.fr0 hFst20
    obtain ⟨rfl, hf23, hf24, hT⟩ := hw
    have hp9 := hT.2.2.2.2.2.2
    have hk1 := tkd_lt (B := B) (g := g) (m := m) (p := p)
    have hk2 := tkx_le (B := B) (g := g) (m := m) (p := p) hp9
    have hk3 := tka_le (B := B) (g := g) (m := m) (p := p) hp9 hB.2.2.1
    have hk4 := tkv_ltc (p := p) hB hp9
    have hk5 := tkw_lt (B := B) (g := g) (m := m) (p := p)
    exact W.zret (v := 0) hx hb hr rfl (fun t ht hW => ⟨⟨0, (st20, sl21, so22), rfl, ⟨hG, hO, hF, Or.inr (⟨1, (tka B g m p), rfl, by show st20 1 13 = _; rw [hf23], by show st20 1 14 = _; rw [hf24], by omega, fun k => by unfold eOne; rw [if_pos (by omega)]⟩)⟩, xB.of ht hP⟩, hS.F ht⟩) hS.2.2 dX8_takeNamed_15
set_option maxHeartbeats 4000000 in
set_option maxRecDepth 100000 in
theorem y_takeNamem1 (l : Launch) (dC : Nat → ClassId) (dI : Nat → Nat → Nat) (ad : Nat → Nat) (E : EP) (hEE : EC ad E) (A : Nat → Nat) (C : Nat → ClassId) (nb sz : Nat) (hN : XN A) (st : Nat → Nat → Int32) (sl : Nat → Nat → Int64) (so : Nat → XR) (B : Nat → Nat) (g m : Nat) (p : Nat) (c : Nat → Nat) (nm : Nat → Nat → Nat) (hI : XI st) (hOI : OI ad so) (hB : CBt B g m st) (hT : TC B g m p ad st sl so) (hR : CN c nm st sl 0) : Met l yX8_takeNamed wsX8_takeNamed ({ frames := 6, cells := 0, slots := 0, locals := 130 }) (va_Pc [.ref (A 1), .ref (A (36 + 20 * 0)), .int 1] (xPre E dC dI A C nb sz st sl so)) (va_Qi (fun (r : Int32) (x : XT) => XG [1, 2, 3, 4, 5, 6, 7, 8, 9, 12, 13, 14, 15] st x.1 ∧ OG ad [2, 3, 4] so x.2.2 ∧ FX 2 st sl so x.1 x.2.1 x.2.2 ∧ ((∃ n : Nat, r = 1 ∧ n < c 1 ∧ x.1 1 9 = nI n ∧ TC B g m (tkx B g m p) ad x.1 x.2.1 x.2.2 ∧ x.1 1 13 = st 1 13 ∧ (∀ k, eOne B g m p (c 1) (nm 1) k = k (tkx B g m p))) ∨ (∃ f : Nat, ∃ a : Nat, r = 0 ∧ x.1 1 13 = nI f ∧ x.1 1 14 = nI a ∧ (1 ≤ f ∧ f < 9) ∧ (∀ k, eOne B g m p (c 1) (nm 1) k = fl f a)))) (xB dC dI A C nb) (XA A sz)) 0 0 (XA A sz) := by
  refine Met.ofW (cc := cX8_takeNamed) (maxL := 3) (ret := (some .boolean)) (by decide) rfl ?_
  intro p9 e s m9 args below meth c9 s₁ B9 hml hv
  obtain ⟨rfl, hsz, hP, hK, hE⟩ := hv
  have hx := B9.exec
  have hb := B9.bytes
  have hr := B9.returns
  have hts := atoms_spec (ws := wsX8_takeNamed) B9.pre
  have hown : s.vm.findClass RX8 = some m9.cls := findClass_of_methodNamed B9.named
  subst hsz
  have hEv := hEE.1 _ _ _ hE
  have hS : va_S (XA A s.heap.size) s.heap s.heap [] := va_S.rf
  have hG : XG [1, 2, 3, 4, 5, 6, 7, 8, 9, 12, 13, 14, 15] st st := XG.rf hI
  have hO : OG ad [2, 3, 4] so so := OG.rf hOI
  have hl := lv_entry ([.ref (A 1), .ref (A (36 + 20 * 0)), .int 1]) (n := 3) (Nat.le_of_ble_eq_true rfl)
  rw [lg_entry_eq]
  generalize (lg_sl ([.ref (A 1), .ref (A (36 + 20 * 0)), .int 1]) ++ List.replicate (3 - (lg_sl ([.ref (A 1), .ref (A (36 + 20 * 0)), .int 1])).length) Slot.unset).toArray = ls at hl ⊢
  have hl : lv_has ls 3 [(0, .ref (A 1)), (1, .ref (A (36 + 20 * 0))), (2, .int 1)] := hl
  have hB1 := hB.2.2.1
  have hB2 := hB.2.2.2.1
  have hF : FX 2 st sl so st sl so := FX.rf
  have hp9 := hT.2.2.2.2.2.2
  have hk1 := tkd_lt (B := B) (g := g) (m := m) (p := p)
  have hk2 := tkx_le (B := B) (g := g) (m := m) (p := p) hp9
  have hk3 := tka_le (B := B) (g := g) (m := m) (p := p) hp9 hB.2.2.1
  have hk4 := tkv_ltc (p := p) hB hp9
  have hk5 := tkw_lt (B := B) (g := g) (m := m) (p := p)
  have hR9 := hR.2.1
  have hT0 := hT
  have hR0 := hR
  have hw25 := @tkw_d B g m p
  refine lv_aload_n hx hb dX8_takeNamed_0 rfl (lv_at hl 0 rfl) ?_
  refine va_get (D := (dC, dI)) (ci := 9) (v := va_rf (so 1 7)) (C := RX8) (T := TX8) (N := 15) hx hb hts ii_X8_takeNamed_X8 hown hK hP 1 (xw_is (r := 1) (by omega) (xc_fix (r := 1) (by omega))) rfl 7 (by decide) (hts _ mm_X8_takeNamed_1) (fun _ hh => hh) rfl dX8_takeNamed_1 ?_
  refine zz_topq (r := some (ad (tkw B g m p))) (by rw [hT.2.2.2.2.2.1]) ?_
  refine va_gets (v := .ref (ad 24)) hx hb (EV.word hEv (i := 24) (by decide)) hS hown (hts _ mm_X8_takeNamed_2) (fun _ hh => hh) dX8_takeNamed_4 ?_
  refine lv_acmp_eq (rx := (some (ad (tkw B g m p)))) (ry := (some (ad 24))) (tgt := 16) hx hb dX8_takeNamed_7 (by decide) (fun c1 => ?_) (fun c1 => ?_)
  · have c1 : (tkw B g m p) = 24 := (EV.eqw hEv (i := (tkw B g m p)) (j := 24) (by omega) (by omega)).mp c1
    refine lv_aload_n hx hb dX8_takeNamed_16 rfl (lv_at hl 0 rfl) ?_
    refine lv_aload_n hx hb dX8_takeNamed_17 rfl (lv_at hl 1 rfl) ?_
    refine lv_iload_n hx hb dX8_takeNamed_18 rfl (lv_at hl 2 rfl) ?_
    refine lv_aload_n hx hb dX8_takeNamed_19 rfl (lv_at hl 0 rfl) ?_
    refine va_get (D := (dC, dI)) (ci := 9) (v := .long (sl 1 8)) (C := RX8) (T := TX8) (N := 15) hx hb hts ii_X8_takeNamed_X8 hown hK hP 1 (xw_is (r := 1) (by omega) (xc_fix (r := 1) (by omega))) rfl 8 (by decide) (hts _ mm_X8_takeNamed_3) (fun _ hh => hh) rfl dX8_takeNamed_20 ?_
    refine lv_topl (fun z1 ez1 => ?_)
    refine va_calli (va_runV (As := [.int 1, .long z1]) (rest := [.ref (A 1)]) ⟨hx, hb, hml, hown, hts⟩ (y_numberOm1 l dC dI ad E hEE A C nb _ hN st sl so z1 c nm hG.1 hR) (cwV 2 hts gX8_takeNamed_X4_numberOf rfl rfl rfl (by decide +kernel) ⟨Nat.le_of_ble_eq_true rfl, Nat.le_of_ble_eq_true rfl⟩) ⟨fun a U g mk q => ⟨q.1, xPre.blind hEE q.2⟩, va_recv hK hP (ci := 5) (q0 := (36 + 20 * 0)) rfl (xw_is (r := (36 + 20 * 0)) (by omega) (xc_pk (i := 0) (o := 0) (by omega) (by omega))), fun U hU hW => ⟨rfl, xPre.of hEE hP hK hE hS hU hW⟩⟩ rfl rfl hl.1 rfl (lv_room (Nat.le_of_ble_eq_true rfl)) dX8_takeNamed_23 ⟨Nat.le_of_ble_eq_true rfl, Nat.le_of_ble_eq_true rfl⟩) hS (fun q _ h => XA.le hS.1 q h) (XA.le hS.1) (fun r2 x t H locs ht hvm hw hB9 _ _ hS => ?_)
    have hP := xB.at ht hB9
    clear hB9 ht hvm
    obtain ⟨rfl, hw⟩ := hw
    have hP : va_P (dC, dI) vwCl (xw A C nb st sl so) _ := hP
    rcases hw with ⟨rfl, hf3⟩ | ⟨n4, rfl, hf5, hf6⟩
    · refine va_put (D := (dC, dI)) (ci := 9) (v := .int (-1)) (ty := .int) (C := RX8) (T := TX8) (N := 15) hx hb hts ii_X8_takeNamed_X8 tyX8 tyX8_ok nmX8 hown hK hP (xD hN _ _ _ _ _ _) hS 1 (xw_is (r := 1) (by omega) (xc_fix (r := 1) (by omega))) rfl 9 (by decide) (hts _ mm_X8_takeNamed_4) (fun _ hh => hh) rfl (by decide +kernel) rfl rfl (Nat.le_of_ble_eq_true rfl) dX8_takeNamed_26 (fun H locs hP _ hS => ?_)
      have hP : va_P (dC, dI) vwCl (xw A C nb (up2 st 1 9 (-1)) sl so) H := by rw [← xset (r := 1) (k := 9) (v := (-1)) (xc_fix (r := 1) (by omega))]; exact hP
      obtain ⟨st7, est7⟩ : ∃ y, y = up2 st 1 9 (-1) := ⟨_, rfl⟩
      have hG : XG [1, 2, 3, 4, 5, 6, 7, 8, 9, 12, 13, 14, 15] st st7 := by rw [est7]; exact hG.up (xz (r := 1) (k := 9) (by decide : xrg 1 9 = 0)) (xpn (c := 11) (by decide : xcl 1 9 = 11) (by decide))
      rw [← est7] at hP
      have hF : FX 2 st sl so st7 sl so := by rw [est7]; exact hF.up (by decide)
      have hT : TC B g m p ad st7 sl so := by rw [est7]; exact hT.up (by omega)
      have hR : CN c nm st7 sl 0 := by rw [est7]; exact hR.up (by omega)
      refine lv_aload_n hx hb dX8_takeNamed_29 rfl (lv_at hl 0 rfl) ?_
      refine va_get (D := (dC, dI)) (ci := 9) (v := .int (st7 1 9)) (C := RX8) (T := TX8) (N := 15) hx hb hts ii_X8_takeNamed_X8 hown hK hP 1 (xw_is (r := 1) (by omega) (xc_fix (r := 1) (by omega))) rfl 9 (by decide) (hts _ mm_X8_takeNamed_4) (fun _ hh => hh) rfl dX8_takeNamed_30 ?_
      refine zz_top (v := (-1)) (by show st7 1 9 = _; rw [est7, up2_same]) ?_
      refine lv_iconst (v := (-1)) hx hb dX8_takeNamed_33 (by decide) ?_
      refine lv_icmp_ne (tgt := 43) hx hb dX8_takeNamed_34 (by decide) (fun cc => absurd (by decide) cc) (fun _ => ?_)
      refine lv_aload_n hx hb dX8_takeNamed_37 rfl (lv_at hl 0 rfl) ?_
      refine lv_iconst (v := 3) hx hb dX8_takeNamed_38 (by decide) ?_
      refine va_calli (va_runV (As := [.int 3]) (rest := []) ⟨hx, hb, hml, hown, hts⟩ (y_X8_refuse l dC dI ad E hEE A C nb _ hN st7 sl so 3 B g m p (by omega) hG.1 hO.1 (CBt.fr hB hF) hT) (cwV 1 hts gX8_takeNamed_X8_refuse rfl rfl rfl (by decide +kernel) ⟨Nat.le_of_ble_eq_true rfl, Nat.le_of_ble_eq_true rfl⟩) ⟨fun a U g mk q => ⟨q.1, xPre.blind hEE q.2⟩, va_recv hK hP (ci := 9) (q0 := 1) rfl (xw_is (r := 1) (by omega) (xc_fix (r := 1) (by omega))), fun U hU hW => ⟨rfl, xPre.of hEE hP hK hE hS hU hW⟩⟩ rfl rfl hl.1 rfl (lv_room (Nat.le_of_ble_eq_true rfl)) dX8_takeNamed_39 ⟨Nat.le_of_ble_eq_true rfl, Nat.le_of_ble_eq_true rfl⟩) hS (fun q _ h => XA.le hS.1 q h) (XA.le hS.1) (fun r8 x t H locs ht hvm hw hB9 _ _ hS => ?_)
      have hP := xB.at ht hB9
      clear hB9 ht hvm
      obtain ⟨st9, sl10, so11⟩ := x
      obtain ⟨hGst9, hOst9, hFst9, hw⟩ := hw
      dsimp only at hGst9 hOst9 hFst9 hw
      have hO : OG ad [2, 3, 4] so so11 := hO.tr hOst9 (by decide)
      have hP : va_P (dC, dI) vwCl (xw A C nb st9 sl10 so11) _ := hP
      have hG : XG [1, 2, 3, 4, 5, 6, 7, 8, 9, 12, 13, 14, 15] st st9 := hG.tr hGst9 (by decide)
      have hF : FX 2 st sl so st9 sl10 so11 := hF.tr hFst9 (by omega) (by omega)
      have hR : CN c nm st9 sl10 0 := hR.fr0 hFst9
      obtain ⟨rfl, hf12, hf13, hT⟩ := hw
      have hp9 := hT.2.2.2.2.2.2
      have hk1 := tkd_lt (B := B) (g := g) (m := m) (p := p)
      have hk2 := tkx_le (B := B) (g := g) (m := m) (p := p) hp9
      have hk3 := tka_le (B := B) (g := g) (m := m) (p := p) hp9 hB.2.2.1
      have hk4 := tkv_ltc (p := p) hB hp9
      have hk5 := tkw_lt (B := B) (g := g) (m := m) (p := p)
      exact W.zret (v := 0) hx hb hr rfl (fun t ht hW => ⟨⟨0, (st9, sl10, so11), rfl, ⟨hG, hO, hF, Or.inr (⟨3, (tka B g m p), rfl, by show st9 1 13 = _; rw [hf12], by show st9 1 14 = _; rw [hf13], by omega, fun k => by unfold eOne; rw [if_neg (by omega), if_pos (knw_f _ (hR0.nk1 (fun i hi => by rw [← (hT0.2.2.2.2.1 (by omega)), ← ez1]; exact hf3 i hi)))]⟩)⟩, xB.of ht hP⟩, hS.F ht⟩) hS.2.2 dX8_takeNamed_42
    · refine va_put (D := (dC, dI)) (ci := 9) (v := .int (nI n4)) (ty := .int) (C := RX8) (T := TX8) (N := 15) hx hb hts ii_X8_takeNamed_X8 tyX8 tyX8_ok nmX8 hown hK hP (xD hN _ _ _ _ _ _) hS 1 (xw_is (r := 1) (by omega) (xc_fix (r := 1) (by omega))) rfl 9 (by decide) (hts _ mm_X8_takeNamed_4) (fun _ hh => hh) rfl (by decide +kernel) rfl rfl (Nat.le_of_ble_eq_true rfl) dX8_takeNamed_26 (fun H locs hP _ hS => ?_)
      have hP : va_P (dC, dI) vwCl (xw A C nb (up2 st 1 9 (nI n4)) sl so) H := by rw [← xset (r := 1) (k := 9) (v := (nI n4)) (xc_fix (r := 1) (by omega))]; exact hP
      obtain ⟨st14, est14⟩ : ∃ y, y = up2 st 1 9 (nI n4) := ⟨_, rfl⟩
      have hG : XG [1, 2, 3, 4, 5, 6, 7, 8, 9, 12, 13, 14, 15] st st14 := by rw [est14]; exact hG.up (xz (r := 1) (k := 9) (by decide : xrg 1 9 = 0)) (xpn (c := 11) (by decide : xcl 1 9 = 11) (by decide))
      rw [← est14] at hP
      have hF : FX 2 st sl so st14 sl so := by rw [est14]; exact hF.up (by decide)
      have hT : TC B g m p ad st14 sl so := by rw [est14]; exact hT.up (by omega)
      have hR : CN c nm st14 sl 0 := by rw [est14]; exact hR.up (by omega)
      refine lv_aload_n hx hb dX8_takeNamed_29 rfl (lv_at hl 0 rfl) ?_
      refine va_get (D := (dC, dI)) (ci := 9) (v := .int (st14 1 9)) (C := RX8) (T := TX8) (N := 15) hx hb hts ii_X8_takeNamed_X8 hown hK hP 1 (xw_is (r := 1) (by omega) (xc_fix (r := 1) (by omega))) rfl 9 (by decide) (hts _ mm_X8_takeNamed_4) (fun _ hh => hh) rfl dX8_takeNamed_30 ?_
      refine zz_top (v := (nI n4)) (by show st14 1 9 = _; rw [est14, up2_same]) ?_
      refine lv_iconst (v := (-1)) hx hb dX8_takeNamed_33 (by decide) ?_
      refine lv_icmp_ne (tgt := 43) hx hb dX8_takeNamed_34 (by decide) (fun _ => ?_) (fun cc => absurd cc (nI_nem (by omega)))
      refine lv_aload_n hx hb dX8_takeNamed_43 rfl (lv_at hl 0 rfl) ?_
      refine va_callv (va_runV (As := []) (rest := []) ⟨hx, hb, hml, hown, hts⟩ (y_X8_step l dC dI ad E hEE A C nb _ hN st14 sl so B g m (tkx B g m p) hG.1 hO.1 (CBt.fr hB hF) hT.1 hk2.2) (cwV 0 hts gX8_takeNamed_X8_step rfl rfl rfl (by decide +kernel) ⟨Nat.le_of_ble_eq_true rfl, Nat.le_of_ble_eq_true rfl⟩) ⟨fun a U g mk q => ⟨q.1, xPre.blind hEE q.2⟩, va_recv hK hP (ci := 9) (q0 := 1) rfl (xw_is (r := 1) (by omega) (xc_fix (r := 1) (by omega))), fun U hU hW => ⟨rfl, xPre.of hEE hP hK hE hS hU hW⟩⟩ rfl rfl hl.1 rfl (lv_room (Nat.le_of_ble_eq_true rfl)) dX8_takeNamed_44 ⟨Nat.le_of_ble_eq_true rfl, Nat.le_of_ble_eq_true rfl⟩) hS (fun q _ h => XA.le hS.1 q h) (XA.le hS.1) (fun x t H locs ht hvm hw hB9 _ _ hS => ?_)
      have hP := xB.at ht hB9
      clear hB9 ht hvm
      obtain ⟨st16, sl17, so18⟩ := x
      obtain ⟨hGst16, hOst16, hFst16, hw⟩ := hw
      dsimp only at hGst16 hOst16 hFst16 hw
      have hO : OG ad [2, 3, 4] so so18 := hO.tr hOst16 (by decide)
      have hP : va_P (dC, dI) vwCl (xw A C nb st16 sl17 so18) _ := hP
      have hG : XG [1, 2, 3, 4, 5, 6, 7, 8, 9, 12, 13, 14, 15] st st16 := hG.tr hGst16 (by decide)
      have hF : FX 2 st sl so st16 sl17 so18 := hF.tr hFst16 (by omega) (by omega)
      have hR : CN c nm st16 sl17 0 := hR.fr0 hFst16
      have hT := hw
      have hp9 := hT.2.2.2.2.2.2
      have hk1 := tkd_lt (B := B) (g := g) (m := m) (p := (tkx B g m p))
      have hk2 := tkx_le (B := B) (g := g) (m := m) (p := (tkx B g m p)) hp9
      have hk3 := tka_le (B := B) (g := g) (m := m) (p := (tkx B g m p)) hp9 hB.2.2.1
      have hk4 := tkv_ltc (p := (tkx B g m p)) hB hp9
      have hk5 := tkw_lt (B := B) (g := g) (m := m) (p := (tkx B g m p))
      refine lv_iconst (v := 1) hx hb dX8_takeNamed_47 (by decide) ?_
      exact W.zret (v := 1) hx hb hr rfl (fun t ht hW => ⟨⟨1, (st16, sl17, so18), rfl, ⟨hG, hO, hF, Or.inl (⟨n4, rfl, by omega, by show st16 1 9 = _; rw [(hFst16 1 9 (by decide)).1, est14, up2_same], hT, by show st16 1 13 = st 1 13; rw [(hFst16 1 13 (by decide)).1, est14, up2_ne (r := 1) (k := 9) (a := 1) (j := 13) _ _ (by omega)], fun k => by unfold eOne; rw [if_neg (by omega), if_neg (by rw [knw_t (n := c 1) (i := n4) hf5 (hR0.kn1 hf5 (tkc_V (m := m) (by omega) hB1 (by omega)) (hf6.trans (by rw [ez1]; exact (hT0.2.2.2.2.1 (by omega)))))]; decide)]⟩)⟩, xB.of ht hP⟩, hS.F ht⟩) hS.2.2 dX8_takeNamed_48
  · have c1 : ¬ (tkw B g m p) = 24 := fun hh => c1 ((EV.eqw hEv (i := (tkw B g m p)) (j := 24) (by omega) (by omega)).mpr hh)
    refine lv_aload_n hx hb dX8_takeNamed_10 rfl (lv_at hl 0 rfl) ?_
    refine lv_iconst (v := 1) hx hb dX8_takeNamed_11 (by decide) ?_
    refine va_calli (va_runV (As := [.int 1]) (rest := []) ⟨hx, hb, hml, hown, hts⟩ (y_X8_refuse l dC dI ad E hEE A C nb _ hN st sl so 1 B g m p (by omega) hG.1 hO.1 (CBt.fr hB hF) hT) (cwV 1 hts gX8_takeNamed_X8_refuse rfl rfl rfl (by decide +kernel) ⟨Nat.le_of_ble_eq_true rfl, Nat.le_of_ble_eq_true rfl⟩) ⟨fun a U g mk q => ⟨q.1, xPre.blind hEE q.2⟩, va_recv hK hP (ci := 9) (q0 := 1) rfl (xw_is (r := 1) (by omega) (xc_fix (r := 1) (by omega))), fun U hU hW => ⟨rfl, xPre.of hEE hP hK hE hS hU hW⟩⟩ rfl rfl hl.1 rfl (lv_room (Nat.le_of_ble_eq_true rfl)) dX8_takeNamed_12 ⟨Nat.le_of_ble_eq_true rfl, Nat.le_of_ble_eq_true rfl⟩) hS (fun q _ h => XA.le hS.1 q h) (XA.le hS.1) (fun r19 x t H locs ht hvm hw hB9 _ _ hS => ?_)
    have hP := xB.at ht hB9
    clear hB9 ht hvm
    obtain ⟨st20, sl21, so22⟩ := x
    obtain ⟨hGst20, hOst20, hFst20, hw⟩ := hw
    dsimp only at hGst20 hOst20 hFst20 hw
    have hO : OG ad [2, 3, 4] so so22 := hO.tr hOst20 (by decide)
    have hP : va_P (dC, dI) vwCl (xw A C nb st20 sl21 so22) _ := hP
    have hG : XG [1, 2, 3, 4, 5, 6, 7, 8, 9, 12, 13, 14, 15] st st20 := hG.tr hGst20 (by decide)
    have hF : FX 2 st sl so st20 sl21 so22 := hF.tr hFst20 (by omega) (by omega)
    have hR : CN c nm st20 sl21 0 := hR.fr0 hFst20
    obtain ⟨rfl, hf23, hf24, hT⟩ := hw
    have hp9 := hT.2.2.2.2.2.2
    have hk1 := tkd_lt (B := B) (g := g) (m := m) (p := p)
    have hk2 := tkx_le (B := B) (g := g) (m := m) (p := p) hp9
    have hk3 := tka_le (B := B) (g := g) (m := m) (p := p) hp9 hB.2.2.1
    have hk4 := tkv_ltc (p := p) hB hp9
    have hk5 := tkw_lt (B := B) (g := g) (m := m) (p := p)
    exact W.zret (v := 0) hx hb hr rfl (fun t ht hW => ⟨⟨0, (st20, sl21, so22), rfl, ⟨hG, hO, hF, Or.inr (⟨1, (tka B g m p), rfl, by show st20 1 13 = _; rw [hf23], by show st20 1 14 = _; rw [hf24], by omega, fun k => by unfold eOne; rw [if_pos (by omega)]⟩)⟩, xB.of ht hP⟩, hS.F ht⟩) hS.2.2 dX8_takeNamed_15
set_option maxHeartbeats 4000000 in
set_option maxRecDepth 100000 in
theorem y_X7_beginsOne (l : Launch) (dC : Nat → ClassId) (dI : Nat → Nat → Nat) (ad : Nat → Nat) (E : EP) (hEE : EC ad E) (A : Nat → Nat) (C : Nat → ClassId) (nb sz : Nat) (hN : XN A) (st : Nat → Nat → Int32) (sl : Nat → Nat → Int64) (so : Nat → XR) (vj : Nat) (hvj : vj < 26) (hI : XI st) : Met l yX7_beginsOne wsX7_beginsOne ({ frames := 0, cells := 0, slots := 0, locals := 0 }) (va_Pc [.ref (ad vj)] (xPre E dC dI A C nb sz st sl so)) (va_Qi (fun (r : Int32) (x : XT) => x = (st, sl, so) ∧ ((r = 1 ∧ 15 ≤ vj ∧ vj ≤ 23) ∨ (r = 0 ∧ ¬ (15 ≤ vj ∧ vj ≤ 23)))) (xB dC dI A C nb) (XA A sz)) 0 0 (XA A sz) := by
  refine Met.ofW (cc := cX7_beginsOne) (maxL := 1) (ret := (some .boolean)) (by decide) rfl ?_
  intro p9 e s m9 args below meth c9 s₁ B9 hml hv
  obtain ⟨rfl, hsz, hP, hK, hE⟩ := hv
  have hx := B9.exec
  have hb := B9.bytes
  have hr := B9.returns
  have hts := atoms_spec (ws := wsX7_beginsOne) B9.pre
  have hown : s.vm.findClass RX7 = some m9.cls := findClass_of_methodNamed B9.named
  subst hsz
  have hEv := hEE.1 _ _ _ hE
  have hS : va_S (XA A s.heap.size) s.heap s.heap [] := va_S.rf
  have hG : XG [1, 2, 3, 4, 5, 6, 7, 8, 9, 10, 11, 12, 13, 14, 15] st st := XG.rf hI
  have hl := lv_entry ([.ref (ad vj)]) (n := 1) (Nat.le_of_ble_eq_true rfl)
  rw [lg_entry_eq]
  generalize (lg_sl ([.ref (ad vj)]) ++ List.replicate (1 - (lg_sl ([.ref (ad vj)])).length) Slot.unset).toArray = ls at hl ⊢
  have hl : lv_has ls 1 [(0, .ref (ad vj))] := hl
  refine lv_aload_n hx hb dX7_beginsOne_0 rfl (lv_at hl 0 rfl) ?_
  refine va_gets (v := .ref (ad 15)) hx hb (EV.word hEv (i := 15) (by decide)) hS hown (hts _ mm_X7_beginsOne_1) (fun _ hh => hh) dX7_beginsOne_1 ?_
  refine lv_acmp_eq (rx := (some (ad vj))) (ry := (some (ad 15))) (tgt := 63) hx hb dX7_beginsOne_4 (by decide) (fun c1 => ?_) (fun c1 => ?_)
  · have c1 : vj = 15 := (EV.eqw hEv (i := vj) (j := 15) (by omega) (by omega)).mp c1
    refine lv_iconst (v := 1) hx hb dX7_beginsOne_63 (by decide) ?_
    refine lv_goto (tgt := 68) hx hb dX7_beginsOne_64 (by decide) ?_
    exact W.zret (v := 1) hx hb hr rfl (fun t ht hW => ⟨⟨1, (st, sl, so), rfl, ⟨rfl, Or.inl (⟨rfl, by omega⟩)⟩, xB.of ht hP⟩, hS.F ht⟩) hS.2.2 dX7_beginsOne_68
  · have c1 : ¬ vj = 15 := fun hh => c1 ((EV.eqw hEv (i := vj) (j := 15) (by omega) (by omega)).mpr hh)
    refine lv_aload_n hx hb dX7_beginsOne_7 rfl (lv_at hl 0 rfl) ?_
    refine va_gets (v := .ref (ad 16)) hx hb (EV.word hEv (i := 16) (by decide)) hS hown (hts _ mm_X7_beginsOne_2) (fun _ hh => hh) dX7_beginsOne_8 ?_
    refine lv_acmp_eq (rx := (some (ad vj))) (ry := (some (ad 16))) (tgt := 63) hx hb dX7_beginsOne_11 (by decide) (fun c2 => ?_) (fun c2 => ?_)
    · have c2 : vj = 16 := (EV.eqw hEv (i := vj) (j := 16) (by omega) (by omega)).mp c2
      refine lv_iconst (v := 1) hx hb dX7_beginsOne_63 (by decide) ?_
      refine lv_goto (tgt := 68) hx hb dX7_beginsOne_64 (by decide) ?_
      exact W.zret (v := 1) hx hb hr rfl (fun t ht hW => ⟨⟨1, (st, sl, so), rfl, ⟨rfl, Or.inl (⟨rfl, by omega⟩)⟩, xB.of ht hP⟩, hS.F ht⟩) hS.2.2 dX7_beginsOne_68
    · have c2 : ¬ vj = 16 := fun hh => c2 ((EV.eqw hEv (i := vj) (j := 16) (by omega) (by omega)).mpr hh)
      refine lv_aload_n hx hb dX7_beginsOne_14 rfl (lv_at hl 0 rfl) ?_
      refine va_gets (v := .ref (ad 17)) hx hb (EV.word hEv (i := 17) (by decide)) hS hown (hts _ mm_X7_beginsOne_3) (fun _ hh => hh) dX7_beginsOne_15 ?_
      refine lv_acmp_eq (rx := (some (ad vj))) (ry := (some (ad 17))) (tgt := 63) hx hb dX7_beginsOne_18 (by decide) (fun c3 => ?_) (fun c3 => ?_)
      · have c3 : vj = 17 := (EV.eqw hEv (i := vj) (j := 17) (by omega) (by omega)).mp c3
        refine lv_iconst (v := 1) hx hb dX7_beginsOne_63 (by decide) ?_
        refine lv_goto (tgt := 68) hx hb dX7_beginsOne_64 (by decide) ?_
        exact W.zret (v := 1) hx hb hr rfl (fun t ht hW => ⟨⟨1, (st, sl, so), rfl, ⟨rfl, Or.inl (⟨rfl, by omega⟩)⟩, xB.of ht hP⟩, hS.F ht⟩) hS.2.2 dX7_beginsOne_68
      · have c3 : ¬ vj = 17 := fun hh => c3 ((EV.eqw hEv (i := vj) (j := 17) (by omega) (by omega)).mpr hh)
        refine lv_aload_n hx hb dX7_beginsOne_21 rfl (lv_at hl 0 rfl) ?_
        refine va_gets (v := .ref (ad 18)) hx hb (EV.word hEv (i := 18) (by decide)) hS hown (hts _ mm_X7_beginsOne_4) (fun _ hh => hh) dX7_beginsOne_22 ?_
        refine lv_acmp_eq (rx := (some (ad vj))) (ry := (some (ad 18))) (tgt := 63) hx hb dX7_beginsOne_25 (by decide) (fun c4 => ?_) (fun c4 => ?_)
        · have c4 : vj = 18 := (EV.eqw hEv (i := vj) (j := 18) (by omega) (by omega)).mp c4
          refine lv_iconst (v := 1) hx hb dX7_beginsOne_63 (by decide) ?_
          refine lv_goto (tgt := 68) hx hb dX7_beginsOne_64 (by decide) ?_
          exact W.zret (v := 1) hx hb hr rfl (fun t ht hW => ⟨⟨1, (st, sl, so), rfl, ⟨rfl, Or.inl (⟨rfl, by omega⟩)⟩, xB.of ht hP⟩, hS.F ht⟩) hS.2.2 dX7_beginsOne_68
        · have c4 : ¬ vj = 18 := fun hh => c4 ((EV.eqw hEv (i := vj) (j := 18) (by omega) (by omega)).mpr hh)
          refine lv_aload_n hx hb dX7_beginsOne_28 rfl (lv_at hl 0 rfl) ?_
          refine va_gets (v := .ref (ad 19)) hx hb (EV.word hEv (i := 19) (by decide)) hS hown (hts _ mm_X7_beginsOne_5) (fun _ hh => hh) dX7_beginsOne_29 ?_
          refine lv_acmp_eq (rx := (some (ad vj))) (ry := (some (ad 19))) (tgt := 63) hx hb dX7_beginsOne_32 (by decide) (fun c5 => ?_) (fun c5 => ?_)
          · have c5 : vj = 19 := (EV.eqw hEv (i := vj) (j := 19) (by omega) (by omega)).mp c5
            refine lv_iconst (v := 1) hx hb dX7_beginsOne_63 (by decide) ?_
            refine lv_goto (tgt := 68) hx hb dX7_beginsOne_64 (by decide) ?_
            exact W.zret (v := 1) hx hb hr rfl (fun t ht hW => ⟨⟨1, (st, sl, so), rfl, ⟨rfl, Or.inl (⟨rfl, by omega⟩)⟩, xB.of ht hP⟩, hS.F ht⟩) hS.2.2 dX7_beginsOne_68
          · have c5 : ¬ vj = 19 := fun hh => c5 ((EV.eqw hEv (i := vj) (j := 19) (by omega) (by omega)).mpr hh)
            refine lv_aload_n hx hb dX7_beginsOne_35 rfl (lv_at hl 0 rfl) ?_
            refine va_gets (v := .ref (ad 20)) hx hb (EV.word hEv (i := 20) (by decide)) hS hown (hts _ mm_X7_beginsOne_6) (fun _ hh => hh) dX7_beginsOne_36 ?_
            refine lv_acmp_eq (rx := (some (ad vj))) (ry := (some (ad 20))) (tgt := 63) hx hb dX7_beginsOne_39 (by decide) (fun c6 => ?_) (fun c6 => ?_)
            · have c6 : vj = 20 := (EV.eqw hEv (i := vj) (j := 20) (by omega) (by omega)).mp c6
              refine lv_iconst (v := 1) hx hb dX7_beginsOne_63 (by decide) ?_
              refine lv_goto (tgt := 68) hx hb dX7_beginsOne_64 (by decide) ?_
              exact W.zret (v := 1) hx hb hr rfl (fun t ht hW => ⟨⟨1, (st, sl, so), rfl, ⟨rfl, Or.inl (⟨rfl, by omega⟩)⟩, xB.of ht hP⟩, hS.F ht⟩) hS.2.2 dX7_beginsOne_68
            · have c6 : ¬ vj = 20 := fun hh => c6 ((EV.eqw hEv (i := vj) (j := 20) (by omega) (by omega)).mpr hh)
              refine lv_aload_n hx hb dX7_beginsOne_42 rfl (lv_at hl 0 rfl) ?_
              refine va_gets (v := .ref (ad 21)) hx hb (EV.word hEv (i := 21) (by decide)) hS hown (hts _ mm_X7_beginsOne_7) (fun _ hh => hh) dX7_beginsOne_43 ?_
              refine lv_acmp_eq (rx := (some (ad vj))) (ry := (some (ad 21))) (tgt := 63) hx hb dX7_beginsOne_46 (by decide) (fun c7 => ?_) (fun c7 => ?_)
              · have c7 : vj = 21 := (EV.eqw hEv (i := vj) (j := 21) (by omega) (by omega)).mp c7
                refine lv_iconst (v := 1) hx hb dX7_beginsOne_63 (by decide) ?_
                refine lv_goto (tgt := 68) hx hb dX7_beginsOne_64 (by decide) ?_
                exact W.zret (v := 1) hx hb hr rfl (fun t ht hW => ⟨⟨1, (st, sl, so), rfl, ⟨rfl, Or.inl (⟨rfl, by omega⟩)⟩, xB.of ht hP⟩, hS.F ht⟩) hS.2.2 dX7_beginsOne_68
              · have c7 : ¬ vj = 21 := fun hh => c7 ((EV.eqw hEv (i := vj) (j := 21) (by omega) (by omega)).mpr hh)
                refine lv_aload_n hx hb dX7_beginsOne_49 rfl (lv_at hl 0 rfl) ?_
                refine va_gets (v := .ref (ad 22)) hx hb (EV.word hEv (i := 22) (by decide)) hS hown (hts _ mm_X7_beginsOne_8) (fun _ hh => hh) dX7_beginsOne_50 ?_
                refine lv_acmp_eq (rx := (some (ad vj))) (ry := (some (ad 22))) (tgt := 63) hx hb dX7_beginsOne_53 (by decide) (fun c8 => ?_) (fun c8 => ?_)
                · have c8 : vj = 22 := (EV.eqw hEv (i := vj) (j := 22) (by omega) (by omega)).mp c8
                  refine lv_iconst (v := 1) hx hb dX7_beginsOne_63 (by decide) ?_
                  refine lv_goto (tgt := 68) hx hb dX7_beginsOne_64 (by decide) ?_
                  exact W.zret (v := 1) hx hb hr rfl (fun t ht hW => ⟨⟨1, (st, sl, so), rfl, ⟨rfl, Or.inl (⟨rfl, by omega⟩)⟩, xB.of ht hP⟩, hS.F ht⟩) hS.2.2 dX7_beginsOne_68
                · have c8 : ¬ vj = 22 := fun hh => c8 ((EV.eqw hEv (i := vj) (j := 22) (by omega) (by omega)).mpr hh)
                  refine lv_aload_n hx hb dX7_beginsOne_56 rfl (lv_at hl 0 rfl) ?_
                  refine va_gets (v := .ref (ad 23)) hx hb (EV.word hEv (i := 23) (by decide)) hS hown (hts _ mm_X7_beginsOne_9) (fun _ hh => hh) dX7_beginsOne_57 ?_
                  refine lv_acmp_ne (rx := (some (ad vj))) (ry := (some (ad 23))) (tgt := 67) hx hb dX7_beginsOne_60 (by decide) (fun c9 => ?_) (fun c9 => ?_)
                  · have c9 : ¬ vj = 23 := fun hh => c9 ((EV.eqw hEv (i := vj) (j := 23) (by omega) (by omega)).mpr hh)
                    refine lv_iconst (v := 0) hx hb dX7_beginsOne_67 (by decide) ?_
                    exact W.zret (v := 0) hx hb hr rfl (fun t ht hW => ⟨⟨0, (st, sl, so), rfl, ⟨rfl, Or.inr (⟨rfl, by omega⟩)⟩, xB.of ht hP⟩, hS.F ht⟩) hS.2.2 dX7_beginsOne_68
                  · have c9 : vj = 23 := (EV.eqw hEv (i := vj) (j := 23) (by omega) (by omega)).mp c9
                    refine lv_iconst (v := 1) hx hb dX7_beginsOne_63 (by decide) ?_
                    refine lv_goto (tgt := 68) hx hb dX7_beginsOne_64 (by decide) ?_
                    exact W.zret (v := 1) hx hb hr rfl (fun t ht hW => ⟨⟨1, (st, sl, so), rfl, ⟨rfl, Or.inl (⟨rfl, by omega⟩)⟩, xB.of ht hP⟩, hS.F ht⟩) hS.2.2 dX7_beginsOne_68
set_option maxHeartbeats 4000000 in
set_option maxRecDepth 100000 in
theorem y_addN (l : Launch) (dC : Nat → ClassId) (dI : Nat → Nat → Nat) (ad : Nat → Nat) (E : EP) (hEE : EC ad E) (A : Nat → Nat) (C : Nat → ClassId) (nb sz : Nat) (hN : XN A) (st : Nat → Nat → Int32) (sl : Nat → Nat → Int64) (so : Nat → XR) (vj : Nat) (va : Int32) (vb : Int32) (hvj : vj < 26) (hI : XI st) (hOI : OI ad so) : Met l yX7_add wsX7_add ({ frames := 0, cells := 0, slots := 0, locals := 0 }) (va_Pc [.ref (A (20 + 4 * 1)), .ref (ad vj), .int va, .int vb] (xPre E dC dI A C nb sz st sl so)) (va_Qv (fun (x : XT) => XG [1, 2, 3, 4, 5, 6, 7, 12, 13, 14, 15] st x.1 ∧ OG ad [2, 4] so x.2.2 ∧ FX 5 st sl so x.1 x.2.1 x.2.2 ∧ (x.1 1 13 = st 1 13 ∧ x.1 1 14 = st 1 14 ∧ x.1 (20 + 4 * 1) 4 = st (20 + 4 * 1) 4)) (xB dC dI A C nb) (XA A sz)) 0 0 (XA A sz) := by
  refine Met.ofW (cc := cX7_add) (maxL := 4) (ret := none) (by decide) rfl ?_
  intro p9 e s m9 args below meth c9 s₁ B9 hml hv
  obtain ⟨rfl, hsz, hP, hK, hE⟩ := hv
  have hx := B9.exec
  have hb := B9.bytes
  have hr := B9.returns
  have hts := atoms_spec (ws := wsX7_add) B9.pre
  have hown : s.vm.findClass RX7 = some m9.cls := findClass_of_methodNamed B9.named
  subst hsz
  have hEv := hEE.1 _ _ _ hE
  have hS : va_S (XA A s.heap.size) s.heap s.heap [] := va_S.rf
  have hG : XG [1, 2, 3, 4, 5, 6, 7, 12, 13, 14, 15] st st := XG.rf hI
  have hO : OG ad [2, 4] so so := OG.rf hOI
  have hl := lv_entry ([.ref (A (20 + 4 * 1)), .ref (ad vj), .int va, .int vb]) (n := 4) (Nat.le_of_ble_eq_true rfl)
  rw [lg_entry_eq]
  generalize (lg_sl ([.ref (A (20 + 4 * 1)), .ref (ad vj), .int va, .int vb]) ++ List.replicate (4 - (lg_sl ([.ref (A (20 + 4 * 1)), .ref (ad vj), .int va, .int vb])).length) Slot.unset).toArray = ls at hl ⊢
  have hl : lv_has ls 4 [(0, .ref (A (20 + 4 * 1))), (1, .ref (ad vj)), (2, .int va), (3, .int vb)] := hl
  have hF : FX 5 st sl so st sl so := FX.rf
  refine lv_aload_n hx hb dX7_add_0 rfl (lv_at hl 0 rfl) ?_
  refine va_get (D := (dC, dI)) (ci := 8) (v := .int (st (20 + 4 * 1) 3)) (C := RX7) (T := TX7) (N := 5) hx hb hts ii_X7_add_X7 hown hK hP (20 + 4 * 1) (xw_is (r := (20 + 4 * 1)) (by omega) (xc_sn (q := 1) (o := 0) (by omega) (by omega))) rfl 3 (by decide) (hts _ mm_X7_add_1) (fun _ hh => hh) rfl dX7_add_1 ?_
  obtain ⟨n1, hn1, en1⟩ := hG.1.at (r := (20 + 4 * 1)) (k := 3) (b := 41) ((xrg_sn (q := 1) (o := 0) (by omega) (by omega)).trans (by first | rfl | decide)) (by decide)
  refine zz_top (v := nI n1) (by exact en1) ?_
  refine lv_bipush (v := 40) hx hb dX7_add_4 (by decide) ?_
  refine lv_icmp_ge (tgt := 49) hx hb dX7_add_6 (by decide) (fun c1 => ?_) (fun c1 => ?_)
  · have c1 : 40 ≤ n1 := (nI_leI (a := 40) (b := n1) (by omega) (by omega)).mp c1
    exact W.vret hx hb hr (fun t ht hW => ⟨⟨(st, sl, so), rfl, ⟨hG, hO, hF, ⟨by show st 1 13 = st 1 13; rfl, by show st 1 14 = st 1 14; rfl, by show st (20 + 4 * 1) 4 = st (20 + 4 * 1) 4; rfl⟩⟩, xB.of ht hP⟩, hS.F ht⟩) hS.2.2 dX7_add_49
  · have c1 : ¬ 40 ≤ n1 := fun hh => c1 ((nI_leI (a := 40) (b := n1) (by omega) (by omega)).mpr hh)
    refine lv_aload_n hx hb dX7_add_9 rfl (lv_at hl 0 rfl) ?_
    refine va_get (D := (dC, dI)) (ci := 8) (v := .ref (A (20 + 4 * 1 + 1))) (C := RX7) (T := TX7) (N := 5) hx hb hts ii_X7_add_X7 hown hK hP (20 + 4 * 1) (xw_is (r := (20 + 4 * 1)) (by omega) (xc_sn (q := 1) (o := 0) (by omega) (by omega))) rfl 0 (by decide) (hts _ mm_X7_add_2) (fun _ hh => hh) rfl dX7_add_10 ?_
    refine lv_aload_n hx hb dX7_add_13 rfl (lv_at hl 0 rfl) ?_
    refine va_get (D := (dC, dI)) (ci := 8) (v := .int (st (20 + 4 * 1) 3)) (C := RX7) (T := TX7) (N := 5) hx hb hts ii_X7_add_X7 hown hK hP (20 + 4 * 1) (xw_is (r := (20 + 4 * 1)) (by omega) (xc_sn (q := 1) (o := 0) (by omega) (by omega))) rfl 3 (by decide) (hts _ mm_X7_add_1) (fun _ hh => hh) rfl dX7_add_14 ?_
    refine zz_top (v := (nI n1)) (by show st (20 + 4 * 1) 3 = _; rw [en1]) ?_
    refine lv_aload_n hx hb dX7_add_17 rfl (lv_at hl 1 rfl) ?_
    refine zz_astw (x := (some (ad vj))) hx hb hEv hK hP (xD hN _ _ _ _ _ _) hS (20 + 4 * 1 + 1) (20 + 4 * 1 + 1) (xw_is (r := (20 + 4 * 1 + 1)) (by omega) (xc_sn (q := 1) (o := 1) (by omega) (by omega))) (xt_is (r := (20 + 4 * 1 + 1)) (by omega) ((xty_sn (q := 1) (o := 1) (by omega) (by omega)).trans rfl)) (isW.of (by omega)) (i := (nI n1)) (vp_in_nI (by omega) (by decide)) dX7_add_18 (fun H locs hP _ hS => ?_)
    rw [nI_clamp (by omega)] at hP
    have hP : va_P (dC, dI) vwCl (xw A C nb st sl (upO so (20 + 4 * 1 + 1) n1 (some (ad vj)))) H := by rw [← xsetO (r := (20 + 4 * 1 + 1)) (k := n1) (v := (some (ad vj))) (xc_sn (q := 1) (o := 1) (by omega) (by omega))]; exact hP
    obtain ⟨so2, eso2⟩ : ∃ y, y = upO so (20 + 4 * 1 + 1) n1 (some (ad vj)) := ⟨_, rfl⟩
    have hO : OG ad [2, 4] so so2 := by rw [eso2]; exact hO.up (isW.of (by omega)) (fun hh => absurd hh (by omega)) (by decide)
    rw [← eso2] at hP
    have hF : FX 5 st sl so st sl so2 := by rw [eso2]; exact hF.upO (dc_sn (o := 1) (by omega))
    refine lv_aload_n hx hb dX7_add_19 rfl (lv_at hl 0 rfl) ?_
    refine va_get (D := (dC, dI)) (ci := 8) (v := .ref (A (20 + 4 * 1 + 2))) (C := RX7) (T := TX7) (N := 5) hx hb hts ii_X7_add_X7 hown hK hP (20 + 4 * 1) (xw_is (r := (20 + 4 * 1)) (by omega) (xc_sn (q := 1) (o := 0) (by omega) (by omega))) rfl 1 (by decide) (hts _ mm_X7_add_3) (fun _ hh => hh) rfl dX7_add_20 ?_
    refine lv_aload_n hx hb dX7_add_23 rfl (lv_at hl 0 rfl) ?_
    refine va_get (D := (dC, dI)) (ci := 8) (v := .int (st (20 + 4 * 1) 3)) (C := RX7) (T := TX7) (N := 5) hx hb hts ii_X7_add_X7 hown hK hP (20 + 4 * 1) (xw_is (r := (20 + 4 * 1)) (by omega) (xc_sn (q := 1) (o := 0) (by omega) (by omega))) rfl 3 (by decide) (hts _ mm_X7_add_1) (fun _ hh => hh) rfl dX7_add_24 ?_
    refine zz_top (v := (nI n1)) (by show st (20 + 4 * 1) 3 = _; rw [en1]) ?_
    refine lv_iload_n hx hb dX7_add_27 rfl (lv_at hl 2 rfl) ?_
    refine va_iast hx hb hK hP (xD hN _ _ _ _ _ _) hS (20 + 4 * 1 + 2) (20 + 4 * 1 + 2) (xw_is (r := (20 + 4 * 1 + 2)) (by omega) (xc_sn (q := 1) (o := 2) (by omega) (by omega))) (xt_is (r := (20 + 4 * 1 + 2)) (by omega) ((xty_sn (q := 1) (o := 2) (by omega) (by omega)).trans rfl)) (i := (nI n1)) (vp_in_nI (by omega) (by decide)) dX7_add_28 (fun H locs hP _ hS => ?_)
    rw [nI_clamp (by omega)] at hP
    have hP : va_P (dC, dI) vwCl (xw A C nb (up2 st (20 + 4 * 1 + 2) n1 va) sl so2) H := by rw [← xset (r := (20 + 4 * 1 + 2)) (k := n1) (v := va) (xc_sn (q := 1) (o := 2) (by omega) (by omega))]; exact hP
    obtain ⟨st3, est3⟩ : ∃ y, y = up2 st (20 + 4 * 1 + 2) n1 va := ⟨_, rfl⟩
    have hG : XG [1, 2, 3, 4, 5, 6, 7, 12, 13, 14, 15] st st3 := by rw [est3]; exact hG.up (xz (r := (20 + 4 * 1 + 2)) (k := n1) ((xrg_sn (q := 1) (o := 2) (by omega) (by omega)).trans (by first | rfl | decide))) (xpn (c := 0) ((xcl_sn (q := 1) (o := 2) (k := n1) (by omega) (by omega)).trans (by first | rfl | decide)) (by decide))
    rw [← est3] at hP
    have hF : FX 5 st sl so st3 sl so2 := by rw [est3]; exact hF.up (dc_sn (o := 2) (by omega))
    refine lv_aload_n hx hb dX7_add_29 rfl (lv_at hl 0 rfl) ?_
    refine va_get (D := (dC, dI)) (ci := 8) (v := .ref (A (20 + 4 * 1 + 3))) (C := RX7) (T := TX7) (N := 5) hx hb hts ii_X7_add_X7 hown hK hP (20 + 4 * 1) (xw_is (r := (20 + 4 * 1)) (by omega) (xc_sn (q := 1) (o := 0) (by omega) (by omega))) rfl 2 (by decide) (hts _ mm_X7_add_4) (fun _ hh => hh) rfl dX7_add_30 ?_
    refine lv_aload_n hx hb dX7_add_33 rfl (lv_at hl 0 rfl) ?_
    refine va_get (D := (dC, dI)) (ci := 8) (v := .int (st3 (20 + 4 * 1) 3)) (C := RX7) (T := TX7) (N := 5) hx hb hts ii_X7_add_X7 hown hK hP (20 + 4 * 1) (xw_is (r := (20 + 4 * 1)) (by omega) (xc_sn (q := 1) (o := 0) (by omega) (by omega))) rfl 3 (by decide) (hts _ mm_X7_add_1) (fun _ hh => hh) rfl dX7_add_34 ?_
    refine zz_top (v := (nI n1)) (by show st3 (20 + 4 * 1) 3 = _; rw [est3, up2_ne (r := (20 + 4 * 1 + 2)) (k := n1) (a := (20 + 4 * 1)) (j := 3) _ _ (by omega), en1]) ?_
    refine lv_iload_n hx hb dX7_add_37 rfl (lv_at hl 3 rfl) ?_
    refine va_iast hx hb hK hP (xD hN _ _ _ _ _ _) hS (20 + 4 * 1 + 3) (20 + 4 * 1 + 3) (xw_is (r := (20 + 4 * 1 + 3)) (by omega) (xc_sn (q := 1) (o := 3) (by omega) (by omega))) (xt_is (r := (20 + 4 * 1 + 3)) (by omega) ((xty_sn (q := 1) (o := 3) (by omega) (by omega)).trans rfl)) (i := (nI n1)) (vp_in_nI (by omega) (by decide)) dX7_add_38 (fun H locs hP _ hS => ?_)
    rw [nI_clamp (by omega)] at hP
    have hP : va_P (dC, dI) vwCl (xw A C nb (up2 st3 (20 + 4 * 1 + 3) n1 vb) sl so2) H := by rw [← xset (r := (20 + 4 * 1 + 3)) (k := n1) (v := vb) (xc_sn (q := 1) (o := 3) (by omega) (by omega))]; exact hP
    obtain ⟨st4, est4⟩ : ∃ y, y = up2 st3 (20 + 4 * 1 + 3) n1 vb := ⟨_, rfl⟩
    have hG : XG [1, 2, 3, 4, 5, 6, 7, 12, 13, 14, 15] st st4 := by rw [est4]; exact hG.up (xz (r := (20 + 4 * 1 + 3)) (k := n1) ((xrg_sn (q := 1) (o := 3) (by omega) (by omega)).trans (by first | rfl | decide))) (xpn (c := 8) ((xcl_sn (q := 1) (o := 3) (k := n1) (by omega) (by omega)).trans (by first | rfl | decide)) (by decide))
    rw [← est4] at hP
    have hF : FX 5 st sl so st4 sl so2 := by rw [est4]; exact hF.up (dc_sn (o := 3) (by omega))
    refine lv_aload_n hx hb dX7_add_39 rfl (lv_at hl 0 rfl) ?_
    refine lv_dup hx hb dX7_add_40 rfl ?_
    refine va_get (D := (dC, dI)) (ci := 8) (v := .int (st4 (20 + 4 * 1) 3)) (C := RX7) (T := TX7) (N := 5) hx hb hts ii_X7_add_X7 hown hK hP (20 + 4 * 1) (xw_is (r := (20 + 4 * 1)) (by omega) (xc_sn (q := 1) (o := 0) (by omega) (by omega))) rfl 3 (by decide) (hts _ mm_X7_add_1) (fun _ hh => hh) rfl dX7_add_41 ?_
    refine zz_top (v := (nI n1)) (by show st4 (20 + 4 * 1) 3 = _; rw [est4, up2_ne (r := (20 + 4 * 1 + 3)) (k := n1) (a := (20 + 4 * 1)) (j := 3) _ _ (by omega), est3, up2_ne (r := (20 + 4 * 1 + 2)) (k := n1) (a := (20 + 4 * 1)) (j := 3) _ _ (by omega), en1]) ?_
    refine lv_iconst (v := 1) hx hb dX7_add_44 (by decide) ?_
    refine lv_iadd hx hb dX7_add_45 ?_
    refine zz_top (v := nI (n1 + 1)) (nI_add n1 1) ?_
    refine va_put (D := (dC, dI)) (ci := 8) (v := .int (nI (n1 + 1))) (ty := .int) (C := RX7) (T := TX7) (N := 5) hx hb hts ii_X7_add_X7 tyX7 tyX7_ok nmX7 hown hK hP (xD hN _ _ _ _ _ _) hS (20 + 4 * 1) (xw_is (r := (20 + 4 * 1)) (by omega) (xc_sn (q := 1) (o := 0) (by omega) (by omega))) rfl 3 (by decide) (hts _ mm_X7_add_1) (fun _ hh => hh) rfl (by decide +kernel) rfl rfl (Nat.le_of_ble_eq_true rfl) dX7_add_46 (fun H locs hP _ hS => ?_)
    have hP : va_P (dC, dI) vwCl (xw A C nb (up2 st4 (20 + 4 * 1) 3 (nI (n1 + 1))) sl so2) H := by rw [← xset (r := (20 + 4 * 1)) (k := 3) (v := (nI (n1 + 1))) (xc_sn (q := 1) (o := 0) (by omega) (by omega))]; exact hP
    obtain ⟨st5, est5⟩ : ∃ y, y = up2 st4 (20 + 4 * 1) 3 (nI (n1 + 1)) := ⟨_, rfl⟩
    have hG : XG [1, 2, 3, 4, 5, 6, 7, 12, 13, 14, 15] st st5 := by rw [est5]; exact hG.up (xn (n := (n1 + 1)) (b := 41) ((xrg_sn (q := 1) (o := 0) (by omega) (by omega)).trans (by first | rfl | decide)) (by omega)) (xpn (c := 9) ((xcl_sn (q := 1) (o := 0) (k := 3) (by omega) (by omega)).trans (by first | rfl | decide)) (by decide))
    rw [← est5] at hP
    have hF : FX 5 st sl so st5 sl so2 := by rw [est5]; exact hF.up (dc_sn (o := 0) (by omega))
    exact W.vret hx hb hr (fun t ht hW => ⟨⟨(st5, sl, so2), rfl, ⟨hG, hO, hF, ⟨by show st5 1 13 = st 1 13; rw [est5, up2_ne (r := (20 + 4 * 1)) (k := 3) (a := 1) (j := 13) _ _ (by omega), est4, up2_ne (r := (20 + 4 * 1 + 3)) (k := n1) (a := 1) (j := 13) _ _ (by omega), est3, up2_ne (r := (20 + 4 * 1 + 2)) (k := n1) (a := 1) (j := 13) _ _ (by omega)], by show st5 1 14 = st 1 14; rw [est5, up2_ne (r := (20 + 4 * 1)) (k := 3) (a := 1) (j := 14) _ _ (by omega), est4, up2_ne (r := (20 + 4 * 1 + 3)) (k := n1) (a := 1) (j := 14) _ _ (by omega), est3, up2_ne (r := (20 + 4 * 1 + 2)) (k := n1) (a := 1) (j := 14) _ _ (by omega)], by show st5 (20 + 4 * 1) 4 = st (20 + 4 * 1) 4; rw [est5, up2_ne (r := (20 + 4 * 1)) (k := 3) (a := (20 + 4 * 1)) (j := 4) _ _ (by omega), est4, up2_ne (r := (20 + 4 * 1 + 3)) (k := n1) (a := (20 + 4 * 1)) (j := 4) _ _ (by omega), est3, up2_ne (r := (20 + 4 * 1 + 2)) (k := n1) (a := (20 + 4 * 1)) (j := 4) _ _ (by omega)]⟩⟩, xB.of ht hP⟩, hS.F ht⟩) hS.2.2 dX7_add_49
