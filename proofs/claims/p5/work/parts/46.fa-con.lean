set_option maxHeartbeats 4000000 in
set_option maxRecDepth 100000 in
theorem f_isSign40 (l : Launch) (dC : Nat → ClassId) (dI : Nat → Nat → Nat) (ar : Nat → Nat) (cy : Nat → ClassId) (sz : Nat) (hN : MN ar) (st : Nat → Nat → Int32) (sl : Nat → Nat → Int64) (B : Nat → Nat) (g m : Nat) (p : Nat) (hI : MI st) (hB : MBt B g m st) (hT : TM B g m p st sl) : Met l yX12_isSign wsX12_isSign ({ frames := 0, cells := 0, slots := 0, locals := 0 }) (va_Pc [.ref (ar 0), .int 40] (mPre dC dI ar cy sz st sl)) (va_Qi (fun (r : Int32) (x : MT) => x = (st, sl) ∧ ((r = 1 ∧ tkd B g m p = 4 ∧ tkv B g p = 40) ∨ (r = 0 ∧ ¬ (tkd B g m p = 4 ∧ tkv B g p = 40)))) (mB dC dI ar cy) (MA ar sz)) 0 0 (MA ar sz) := by
  refine Met.ofW (cc := cX12_isSign) (maxL := 2) (ret := (some .boolean)) (by decide) rfl ?_
  intro p9 e s m9 args below meth c9 s₁ B9 hml hv
  obtain ⟨rfl, hsz, hP, hK⟩ := hv
  have hx := B9.exec
  have hb := B9.bytes
  have hr := B9.returns
  have hts := atoms_spec (ws := wsX12_isSign) B9.pre
  have hown : s.vm.findClass RX12 = some m9.cls := findClass_of_methodNamed B9.named
  subst hsz
  have hS : va_S (MA ar s.heap.size) s.heap s.heap [] := va_S.rf
  have hG : MG [1, 2, 3, 4, 5, 6, 7, 8, 9, 10, 11, 12, 13, 14, 15, 16, 17, 19, 20, 21, 22, 23] st st := MG.rf hI
  have hl := lv_entry ([.ref (ar 0), .int 40]) (n := 2) (Nat.le_of_ble_eq_true rfl)
  rw [lg_entry_eq]
  generalize (lg_sl ([.ref (ar 0), .int 40]) ++ List.replicate (2 - (lg_sl ([.ref (ar 0), .int 40])).length) Slot.unset).toArray = ls at hl ⊢
  have hl : lv_has ls 2 [(0, .ref (ar 0)), (1, .int 40)] := hl
  clear hI
  have hB1 := hB.2.2.1
  have hB2 := hB.2.2.2.1
  have hF : FM 0 st sl st sl := FM.rf
  have hp9 := hT.2.2.2.2.2.2
  have hk1 := tkd_lt (B := B) (g := g) (m := m) (p := p)
  have hk2 := tkx_le (B := B) (g := g) (m := m) (p := p) hp9
  have hk3 := tka_le (B := B) (g := g) (m := m) (p := p) hp9 hB.2.2.1
  have hk4 := tkv_lt (p := p) hB hp9
  have hk5 := tkw_lt (B := B) (g := g) (m := m) (p := p)
  refine lv_aload_n hx hb dX12_isSign_0 rfl (lv_at hl 0 rfl) ?_
  refine va_get (D := (dC, dI)) (ci := 11) (v := .int (st 0 7)) (C := RX12) (T := TX12) (N := 47) hx hb hts ii_X12_isSign hown hK hP 0 rfl rfl 7 (by decide) (hts _ mm_X12_isSign_1) (fun _ hh => hh) rfl dX12_isSign_1 ?_
  refine zz_top (v := (nI (tkd B g m p))) (by show st 0 7 = _; rw [hT.2.2.1]) ?_
  refine lv_iconst (v := 4) hx hb dX12_isSign_4 (by decide) ?_
  refine lv_icmp_ne (tgt := 20) hx hb dX12_isSign_5 (by decide) (fun c1 => ?_) (fun c1 => ?_)
  · have c1 : ¬ (tkd B g m p) = 4 := fun hh => c1 ((nI_eq (a := (tkd B g m p)) (b := 4) (by omega) (by omega)).mpr hh)
    refine lv_iconst (v := 0) hx hb dX12_isSign_20 (by decide) ?_
    exact W.zret (v := 0) hx hb hr rfl (fun t ht hW => ⟨⟨0, (st, sl), rfl, ⟨rfl, Or.inr (⟨rfl, by omega⟩)⟩, mB.of ht hP⟩, hS.F ht⟩) hS.2.2 dX12_isSign_21
  · have c1 : (tkd B g m p) = 4 := (nI_eq (a := (tkd B g m p)) (b := 4) (by omega) (by omega)).mp c1
    refine lv_aload_n hx hb dX12_isSign_8 rfl (lv_at hl 0 rfl) ?_
    refine va_get (D := (dC, dI)) (ci := 11) (v := .int (st 0 9)) (C := RX12) (T := TX12) (N := 47) hx hb hts ii_X12_isSign hown hK hP 0 rfl rfl 9 (by decide) (hts _ mm_X12_isSign_2) (fun _ hh => hh) rfl dX12_isSign_9 ?_
    refine zz_top (v := (nI (tkv B g p))) (by show st 0 9 = _; rw [(hT.2.2.2.2.1 (by omega))]) ?_
    refine lv_iload_n hx hb dX12_isSign_12 rfl (lv_at hl 1 rfl) ?_
    refine lv_icmp_ne (tgt := 20) hx hb dX12_isSign_13 (by decide) (fun c2 => ?_) (fun c2 => ?_)
    · have c2 : ¬ (tkv B g p) = 40 := fun hh => c2 ((nI_eq (a := (tkv B g p)) (b := 40) (by omega) (by omega)).mpr hh)
      refine lv_iconst (v := 0) hx hb dX12_isSign_20 (by decide) ?_
      exact W.zret (v := 0) hx hb hr rfl (fun t ht hW => ⟨⟨0, (st, sl), rfl, ⟨rfl, Or.inr (⟨rfl, by omega⟩)⟩, mB.of ht hP⟩, hS.F ht⟩) hS.2.2 dX12_isSign_21
    · have c2 : (tkv B g p) = 40 := (nI_eq (a := (tkv B g p)) (b := 40) (by omega) (by omega)).mp c2
      refine lv_iconst (v := 1) hx hb dX12_isSign_16 (by decide) ?_
      refine lv_goto (tgt := 21) hx hb dX12_isSign_17 (by decide) ?_
      exact W.zret (v := 1) hx hb hr rfl (fun t ht hW => ⟨⟨1, (st, sl), rfl, ⟨rfl, Or.inl (⟨rfl, by omega, by omega⟩)⟩, mB.of ht hP⟩, hS.F ht⟩) hS.2.2 dX12_isSign_21
set_option maxHeartbeats 4000000 in
set_option maxRecDepth 100000 in
theorem f_isSign41 (l : Launch) (dC : Nat → ClassId) (dI : Nat → Nat → Nat) (ar : Nat → Nat) (cy : Nat → ClassId) (sz : Nat) (hN : MN ar) (st : Nat → Nat → Int32) (sl : Nat → Nat → Int64) (B : Nat → Nat) (g m : Nat) (p : Nat) (hI : MI st) (hB : MBt B g m st) (hT : TM B g m p st sl) : Met l yX12_isSign wsX12_isSign ({ frames := 0, cells := 0, slots := 0, locals := 0 }) (va_Pc [.ref (ar 0), .int 41] (mPre dC dI ar cy sz st sl)) (va_Qi (fun (r : Int32) (x : MT) => x = (st, sl) ∧ ((r = 1 ∧ tkd B g m p = 4 ∧ tkv B g p = 41) ∨ (r = 0 ∧ ¬ (tkd B g m p = 4 ∧ tkv B g p = 41)))) (mB dC dI ar cy) (MA ar sz)) 0 0 (MA ar sz) := by
  refine Met.ofW (cc := cX12_isSign) (maxL := 2) (ret := (some .boolean)) (by decide) rfl ?_
  intro p9 e s m9 args below meth c9 s₁ B9 hml hv
  obtain ⟨rfl, hsz, hP, hK⟩ := hv
  have hx := B9.exec
  have hb := B9.bytes
  have hr := B9.returns
  have hts := atoms_spec (ws := wsX12_isSign) B9.pre
  have hown : s.vm.findClass RX12 = some m9.cls := findClass_of_methodNamed B9.named
  subst hsz
  have hS : va_S (MA ar s.heap.size) s.heap s.heap [] := va_S.rf
  have hG : MG [1, 2, 3, 4, 5, 6, 7, 8, 9, 10, 11, 12, 13, 14, 15, 16, 17, 19, 20, 21, 22, 23] st st := MG.rf hI
  have hl := lv_entry ([.ref (ar 0), .int 41]) (n := 2) (Nat.le_of_ble_eq_true rfl)
  rw [lg_entry_eq]
  generalize (lg_sl ([.ref (ar 0), .int 41]) ++ List.replicate (2 - (lg_sl ([.ref (ar 0), .int 41])).length) Slot.unset).toArray = ls at hl ⊢
  have hl : lv_has ls 2 [(0, .ref (ar 0)), (1, .int 41)] := hl
  clear hI
  have hB1 := hB.2.2.1
  have hB2 := hB.2.2.2.1
  have hF : FM 0 st sl st sl := FM.rf
  have hp9 := hT.2.2.2.2.2.2
  have hk1 := tkd_lt (B := B) (g := g) (m := m) (p := p)
  have hk2 := tkx_le (B := B) (g := g) (m := m) (p := p) hp9
  have hk3 := tka_le (B := B) (g := g) (m := m) (p := p) hp9 hB.2.2.1
  have hk4 := tkv_lt (p := p) hB hp9
  have hk5 := tkw_lt (B := B) (g := g) (m := m) (p := p)
  refine lv_aload_n hx hb dX12_isSign_0 rfl (lv_at hl 0 rfl) ?_
  refine va_get (D := (dC, dI)) (ci := 11) (v := .int (st 0 7)) (C := RX12) (T := TX12) (N := 47) hx hb hts ii_X12_isSign hown hK hP 0 rfl rfl 7 (by decide) (hts _ mm_X12_isSign_1) (fun _ hh => hh) rfl dX12_isSign_1 ?_
  refine zz_top (v := (nI (tkd B g m p))) (by show st 0 7 = _; rw [hT.2.2.1]) ?_
  refine lv_iconst (v := 4) hx hb dX12_isSign_4 (by decide) ?_
  refine lv_icmp_ne (tgt := 20) hx hb dX12_isSign_5 (by decide) (fun c1 => ?_) (fun c1 => ?_)
  · have c1 : ¬ (tkd B g m p) = 4 := fun hh => c1 ((nI_eq (a := (tkd B g m p)) (b := 4) (by omega) (by omega)).mpr hh)
    refine lv_iconst (v := 0) hx hb dX12_isSign_20 (by decide) ?_
    exact W.zret (v := 0) hx hb hr rfl (fun t ht hW => ⟨⟨0, (st, sl), rfl, ⟨rfl, Or.inr (⟨rfl, by omega⟩)⟩, mB.of ht hP⟩, hS.F ht⟩) hS.2.2 dX12_isSign_21
  · have c1 : (tkd B g m p) = 4 := (nI_eq (a := (tkd B g m p)) (b := 4) (by omega) (by omega)).mp c1
    refine lv_aload_n hx hb dX12_isSign_8 rfl (lv_at hl 0 rfl) ?_
    refine va_get (D := (dC, dI)) (ci := 11) (v := .int (st 0 9)) (C := RX12) (T := TX12) (N := 47) hx hb hts ii_X12_isSign hown hK hP 0 rfl rfl 9 (by decide) (hts _ mm_X12_isSign_2) (fun _ hh => hh) rfl dX12_isSign_9 ?_
    refine zz_top (v := (nI (tkv B g p))) (by show st 0 9 = _; rw [(hT.2.2.2.2.1 (by omega))]) ?_
    refine lv_iload_n hx hb dX12_isSign_12 rfl (lv_at hl 1 rfl) ?_
    refine lv_icmp_ne (tgt := 20) hx hb dX12_isSign_13 (by decide) (fun c2 => ?_) (fun c2 => ?_)
    · have c2 : ¬ (tkv B g p) = 41 := fun hh => c2 ((nI_eq (a := (tkv B g p)) (b := 41) (by omega) (by omega)).mpr hh)
      refine lv_iconst (v := 0) hx hb dX12_isSign_20 (by decide) ?_
      exact W.zret (v := 0) hx hb hr rfl (fun t ht hW => ⟨⟨0, (st, sl), rfl, ⟨rfl, Or.inr (⟨rfl, by omega⟩)⟩, mB.of ht hP⟩, hS.F ht⟩) hS.2.2 dX12_isSign_21
    · have c2 : (tkv B g p) = 41 := (nI_eq (a := (tkv B g p)) (b := 41) (by omega) (by omega)).mp c2
      refine lv_iconst (v := 1) hx hb dX12_isSign_16 (by decide) ?_
      refine lv_goto (tgt := 21) hx hb dX12_isSign_17 (by decide) ?_
      exact W.zret (v := 1) hx hb hr rfl (fun t ht hW => ⟨⟨1, (st, sl), rfl, ⟨rfl, Or.inl (⟨rfl, by omega, by omega⟩)⟩, mB.of ht hP⟩, hS.F ht⟩) hS.2.2 dX12_isSign_21
set_option maxHeartbeats 4000000 in
set_option maxRecDepth 100000 in
theorem f_isSign60 (l : Launch) (dC : Nat → ClassId) (dI : Nat → Nat → Nat) (ar : Nat → Nat) (cy : Nat → ClassId) (sz : Nat) (hN : MN ar) (st : Nat → Nat → Int32) (sl : Nat → Nat → Int64) (B : Nat → Nat) (g m : Nat) (p : Nat) (hI : MI st) (hB : MBt B g m st) (hT : TM B g m p st sl) : Met l yX12_isSign wsX12_isSign ({ frames := 0, cells := 0, slots := 0, locals := 0 }) (va_Pc [.ref (ar 0), .int 60] (mPre dC dI ar cy sz st sl)) (va_Qi (fun (r : Int32) (x : MT) => x = (st, sl) ∧ ((r = 1 ∧ tkd B g m p = 4 ∧ tkv B g p = 60) ∨ (r = 0 ∧ ¬ (tkd B g m p = 4 ∧ tkv B g p = 60)))) (mB dC dI ar cy) (MA ar sz)) 0 0 (MA ar sz) := by
  refine Met.ofW (cc := cX12_isSign) (maxL := 2) (ret := (some .boolean)) (by decide) rfl ?_
  intro p9 e s m9 args below meth c9 s₁ B9 hml hv
  obtain ⟨rfl, hsz, hP, hK⟩ := hv
  have hx := B9.exec
  have hb := B9.bytes
  have hr := B9.returns
  have hts := atoms_spec (ws := wsX12_isSign) B9.pre
  have hown : s.vm.findClass RX12 = some m9.cls := findClass_of_methodNamed B9.named
  subst hsz
  have hS : va_S (MA ar s.heap.size) s.heap s.heap [] := va_S.rf
  have hG : MG [1, 2, 3, 4, 5, 6, 7, 8, 9, 10, 11, 12, 13, 14, 15, 16, 17, 19, 20, 21, 22, 23] st st := MG.rf hI
  have hl := lv_entry ([.ref (ar 0), .int 60]) (n := 2) (Nat.le_of_ble_eq_true rfl)
  rw [lg_entry_eq]
  generalize (lg_sl ([.ref (ar 0), .int 60]) ++ List.replicate (2 - (lg_sl ([.ref (ar 0), .int 60])).length) Slot.unset).toArray = ls at hl ⊢
  have hl : lv_has ls 2 [(0, .ref (ar 0)), (1, .int 60)] := hl
  clear hI
  have hB1 := hB.2.2.1
  have hB2 := hB.2.2.2.1
  have hF : FM 0 st sl st sl := FM.rf
  have hp9 := hT.2.2.2.2.2.2
  have hk1 := tkd_lt (B := B) (g := g) (m := m) (p := p)
  have hk2 := tkx_le (B := B) (g := g) (m := m) (p := p) hp9
  have hk3 := tka_le (B := B) (g := g) (m := m) (p := p) hp9 hB.2.2.1
  have hk4 := tkv_lt (p := p) hB hp9
  have hk5 := tkw_lt (B := B) (g := g) (m := m) (p := p)
  refine lv_aload_n hx hb dX12_isSign_0 rfl (lv_at hl 0 rfl) ?_
  refine va_get (D := (dC, dI)) (ci := 11) (v := .int (st 0 7)) (C := RX12) (T := TX12) (N := 47) hx hb hts ii_X12_isSign hown hK hP 0 rfl rfl 7 (by decide) (hts _ mm_X12_isSign_1) (fun _ hh => hh) rfl dX12_isSign_1 ?_
  refine zz_top (v := (nI (tkd B g m p))) (by show st 0 7 = _; rw [hT.2.2.1]) ?_
  refine lv_iconst (v := 4) hx hb dX12_isSign_4 (by decide) ?_
  refine lv_icmp_ne (tgt := 20) hx hb dX12_isSign_5 (by decide) (fun c1 => ?_) (fun c1 => ?_)
  · have c1 : ¬ (tkd B g m p) = 4 := fun hh => c1 ((nI_eq (a := (tkd B g m p)) (b := 4) (by omega) (by omega)).mpr hh)
    refine lv_iconst (v := 0) hx hb dX12_isSign_20 (by decide) ?_
    exact W.zret (v := 0) hx hb hr rfl (fun t ht hW => ⟨⟨0, (st, sl), rfl, ⟨rfl, Or.inr (⟨rfl, by omega⟩)⟩, mB.of ht hP⟩, hS.F ht⟩) hS.2.2 dX12_isSign_21
  · have c1 : (tkd B g m p) = 4 := (nI_eq (a := (tkd B g m p)) (b := 4) (by omega) (by omega)).mp c1
    refine lv_aload_n hx hb dX12_isSign_8 rfl (lv_at hl 0 rfl) ?_
    refine va_get (D := (dC, dI)) (ci := 11) (v := .int (st 0 9)) (C := RX12) (T := TX12) (N := 47) hx hb hts ii_X12_isSign hown hK hP 0 rfl rfl 9 (by decide) (hts _ mm_X12_isSign_2) (fun _ hh => hh) rfl dX12_isSign_9 ?_
    refine zz_top (v := (nI (tkv B g p))) (by show st 0 9 = _; rw [(hT.2.2.2.2.1 (by omega))]) ?_
    refine lv_iload_n hx hb dX12_isSign_12 rfl (lv_at hl 1 rfl) ?_
    refine lv_icmp_ne (tgt := 20) hx hb dX12_isSign_13 (by decide) (fun c2 => ?_) (fun c2 => ?_)
    · have c2 : ¬ (tkv B g p) = 60 := fun hh => c2 ((nI_eq (a := (tkv B g p)) (b := 60) (by omega) (by omega)).mpr hh)
      refine lv_iconst (v := 0) hx hb dX12_isSign_20 (by decide) ?_
      exact W.zret (v := 0) hx hb hr rfl (fun t ht hW => ⟨⟨0, (st, sl), rfl, ⟨rfl, Or.inr (⟨rfl, by omega⟩)⟩, mB.of ht hP⟩, hS.F ht⟩) hS.2.2 dX12_isSign_21
    · have c2 : (tkv B g p) = 60 := (nI_eq (a := (tkv B g p)) (b := 60) (by omega) (by omega)).mp c2
      refine lv_iconst (v := 1) hx hb dX12_isSign_16 (by decide) ?_
      refine lv_goto (tgt := 21) hx hb dX12_isSign_17 (by decide) ?_
      exact W.zret (v := 1) hx hb hr rfl (fun t ht hW => ⟨⟨1, (st, sl), rfl, ⟨rfl, Or.inl (⟨rfl, by omega, by omega⟩)⟩, mB.of ht hP⟩, hS.F ht⟩) hS.2.2 dX12_isSign_21
set_option maxHeartbeats 4000000 in
set_option maxRecDepth 100000 in
theorem f_isSign61 (l : Launch) (dC : Nat → ClassId) (dI : Nat → Nat → Nat) (ar : Nat → Nat) (cy : Nat → ClassId) (sz : Nat) (hN : MN ar) (st : Nat → Nat → Int32) (sl : Nat → Nat → Int64) (B : Nat → Nat) (g m : Nat) (p : Nat) (hI : MI st) (hB : MBt B g m st) (hT : TM B g m p st sl) : Met l yX12_isSign wsX12_isSign ({ frames := 0, cells := 0, slots := 0, locals := 0 }) (va_Pc [.ref (ar 0), .int 61] (mPre dC dI ar cy sz st sl)) (va_Qi (fun (r : Int32) (x : MT) => x = (st, sl) ∧ ((r = 1 ∧ tkd B g m p = 4 ∧ tkv B g p = 61) ∨ (r = 0 ∧ ¬ (tkd B g m p = 4 ∧ tkv B g p = 61)))) (mB dC dI ar cy) (MA ar sz)) 0 0 (MA ar sz) := by
  refine Met.ofW (cc := cX12_isSign) (maxL := 2) (ret := (some .boolean)) (by decide) rfl ?_
  intro p9 e s m9 args below meth c9 s₁ B9 hml hv
  obtain ⟨rfl, hsz, hP, hK⟩ := hv
  have hx := B9.exec
  have hb := B9.bytes
  have hr := B9.returns
  have hts := atoms_spec (ws := wsX12_isSign) B9.pre
  have hown : s.vm.findClass RX12 = some m9.cls := findClass_of_methodNamed B9.named
  subst hsz
  have hS : va_S (MA ar s.heap.size) s.heap s.heap [] := va_S.rf
  have hG : MG [1, 2, 3, 4, 5, 6, 7, 8, 9, 10, 11, 12, 13, 14, 15, 16, 17, 19, 20, 21, 22, 23] st st := MG.rf hI
  have hl := lv_entry ([.ref (ar 0), .int 61]) (n := 2) (Nat.le_of_ble_eq_true rfl)
  rw [lg_entry_eq]
  generalize (lg_sl ([.ref (ar 0), .int 61]) ++ List.replicate (2 - (lg_sl ([.ref (ar 0), .int 61])).length) Slot.unset).toArray = ls at hl ⊢
  have hl : lv_has ls 2 [(0, .ref (ar 0)), (1, .int 61)] := hl
  clear hI
  have hB1 := hB.2.2.1
  have hB2 := hB.2.2.2.1
  have hF : FM 0 st sl st sl := FM.rf
  have hp9 := hT.2.2.2.2.2.2
  have hk1 := tkd_lt (B := B) (g := g) (m := m) (p := p)
  have hk2 := tkx_le (B := B) (g := g) (m := m) (p := p) hp9
  have hk3 := tka_le (B := B) (g := g) (m := m) (p := p) hp9 hB.2.2.1
  have hk4 := tkv_lt (p := p) hB hp9
  have hk5 := tkw_lt (B := B) (g := g) (m := m) (p := p)
  refine lv_aload_n hx hb dX12_isSign_0 rfl (lv_at hl 0 rfl) ?_
  refine va_get (D := (dC, dI)) (ci := 11) (v := .int (st 0 7)) (C := RX12) (T := TX12) (N := 47) hx hb hts ii_X12_isSign hown hK hP 0 rfl rfl 7 (by decide) (hts _ mm_X12_isSign_1) (fun _ hh => hh) rfl dX12_isSign_1 ?_
  refine zz_top (v := (nI (tkd B g m p))) (by show st 0 7 = _; rw [hT.2.2.1]) ?_
  refine lv_iconst (v := 4) hx hb dX12_isSign_4 (by decide) ?_
  refine lv_icmp_ne (tgt := 20) hx hb dX12_isSign_5 (by decide) (fun c1 => ?_) (fun c1 => ?_)
  · have c1 : ¬ (tkd B g m p) = 4 := fun hh => c1 ((nI_eq (a := (tkd B g m p)) (b := 4) (by omega) (by omega)).mpr hh)
    refine lv_iconst (v := 0) hx hb dX12_isSign_20 (by decide) ?_
    exact W.zret (v := 0) hx hb hr rfl (fun t ht hW => ⟨⟨0, (st, sl), rfl, ⟨rfl, Or.inr (⟨rfl, by omega⟩)⟩, mB.of ht hP⟩, hS.F ht⟩) hS.2.2 dX12_isSign_21
  · have c1 : (tkd B g m p) = 4 := (nI_eq (a := (tkd B g m p)) (b := 4) (by omega) (by omega)).mp c1
    refine lv_aload_n hx hb dX12_isSign_8 rfl (lv_at hl 0 rfl) ?_
    refine va_get (D := (dC, dI)) (ci := 11) (v := .int (st 0 9)) (C := RX12) (T := TX12) (N := 47) hx hb hts ii_X12_isSign hown hK hP 0 rfl rfl 9 (by decide) (hts _ mm_X12_isSign_2) (fun _ hh => hh) rfl dX12_isSign_9 ?_
    refine zz_top (v := (nI (tkv B g p))) (by show st 0 9 = _; rw [(hT.2.2.2.2.1 (by omega))]) ?_
    refine lv_iload_n hx hb dX12_isSign_12 rfl (lv_at hl 1 rfl) ?_
    refine lv_icmp_ne (tgt := 20) hx hb dX12_isSign_13 (by decide) (fun c2 => ?_) (fun c2 => ?_)
    · have c2 : ¬ (tkv B g p) = 61 := fun hh => c2 ((nI_eq (a := (tkv B g p)) (b := 61) (by omega) (by omega)).mpr hh)
      refine lv_iconst (v := 0) hx hb dX12_isSign_20 (by decide) ?_
      exact W.zret (v := 0) hx hb hr rfl (fun t ht hW => ⟨⟨0, (st, sl), rfl, ⟨rfl, Or.inr (⟨rfl, by omega⟩)⟩, mB.of ht hP⟩, hS.F ht⟩) hS.2.2 dX12_isSign_21
    · have c2 : (tkv B g p) = 61 := (nI_eq (a := (tkv B g p)) (b := 61) (by omega) (by omega)).mp c2
      refine lv_iconst (v := 1) hx hb dX12_isSign_16 (by decide) ?_
      refine lv_goto (tgt := 21) hx hb dX12_isSign_17 (by decide) ?_
      exact W.zret (v := 1) hx hb hr rfl (fun t ht hW => ⟨⟨1, (st, sl), rfl, ⟨rfl, Or.inl (⟨rfl, by omega, by omega⟩)⟩, mB.of ht hP⟩, hS.F ht⟩) hS.2.2 dX12_isSign_21
set_option maxHeartbeats 4000000 in
set_option maxRecDepth 100000 in
theorem f_isSign62 (l : Launch) (dC : Nat → ClassId) (dI : Nat → Nat → Nat) (ar : Nat → Nat) (cy : Nat → ClassId) (sz : Nat) (hN : MN ar) (st : Nat → Nat → Int32) (sl : Nat → Nat → Int64) (B : Nat → Nat) (g m : Nat) (p : Nat) (hI : MI st) (hB : MBt B g m st) (hT : TM B g m p st sl) : Met l yX12_isSign wsX12_isSign ({ frames := 0, cells := 0, slots := 0, locals := 0 }) (va_Pc [.ref (ar 0), .int 62] (mPre dC dI ar cy sz st sl)) (va_Qi (fun (r : Int32) (x : MT) => x = (st, sl) ∧ ((r = 1 ∧ tkd B g m p = 4 ∧ tkv B g p = 62) ∨ (r = 0 ∧ ¬ (tkd B g m p = 4 ∧ tkv B g p = 62)))) (mB dC dI ar cy) (MA ar sz)) 0 0 (MA ar sz) := by
  refine Met.ofW (cc := cX12_isSign) (maxL := 2) (ret := (some .boolean)) (by decide) rfl ?_
  intro p9 e s m9 args below meth c9 s₁ B9 hml hv
  obtain ⟨rfl, hsz, hP, hK⟩ := hv
  have hx := B9.exec
  have hb := B9.bytes
  have hr := B9.returns
  have hts := atoms_spec (ws := wsX12_isSign) B9.pre
  have hown : s.vm.findClass RX12 = some m9.cls := findClass_of_methodNamed B9.named
  subst hsz
  have hS : va_S (MA ar s.heap.size) s.heap s.heap [] := va_S.rf
  have hG : MG [1, 2, 3, 4, 5, 6, 7, 8, 9, 10, 11, 12, 13, 14, 15, 16, 17, 19, 20, 21, 22, 23] st st := MG.rf hI
  have hl := lv_entry ([.ref (ar 0), .int 62]) (n := 2) (Nat.le_of_ble_eq_true rfl)
  rw [lg_entry_eq]
  generalize (lg_sl ([.ref (ar 0), .int 62]) ++ List.replicate (2 - (lg_sl ([.ref (ar 0), .int 62])).length) Slot.unset).toArray = ls at hl ⊢
  have hl : lv_has ls 2 [(0, .ref (ar 0)), (1, .int 62)] := hl
  clear hI
  have hB1 := hB.2.2.1
  have hB2 := hB.2.2.2.1
  have hF : FM 0 st sl st sl := FM.rf
  have hp9 := hT.2.2.2.2.2.2
  have hk1 := tkd_lt (B := B) (g := g) (m := m) (p := p)
  have hk2 := tkx_le (B := B) (g := g) (m := m) (p := p) hp9
  have hk3 := tka_le (B := B) (g := g) (m := m) (p := p) hp9 hB.2.2.1
  have hk4 := tkv_lt (p := p) hB hp9
  have hk5 := tkw_lt (B := B) (g := g) (m := m) (p := p)
  refine lv_aload_n hx hb dX12_isSign_0 rfl (lv_at hl 0 rfl) ?_
  refine va_get (D := (dC, dI)) (ci := 11) (v := .int (st 0 7)) (C := RX12) (T := TX12) (N := 47) hx hb hts ii_X12_isSign hown hK hP 0 rfl rfl 7 (by decide) (hts _ mm_X12_isSign_1) (fun _ hh => hh) rfl dX12_isSign_1 ?_
  refine zz_top (v := (nI (tkd B g m p))) (by show st 0 7 = _; rw [hT.2.2.1]) ?_
  refine lv_iconst (v := 4) hx hb dX12_isSign_4 (by decide) ?_
  refine lv_icmp_ne (tgt := 20) hx hb dX12_isSign_5 (by decide) (fun c1 => ?_) (fun c1 => ?_)
  · have c1 : ¬ (tkd B g m p) = 4 := fun hh => c1 ((nI_eq (a := (tkd B g m p)) (b := 4) (by omega) (by omega)).mpr hh)
    refine lv_iconst (v := 0) hx hb dX12_isSign_20 (by decide) ?_
    exact W.zret (v := 0) hx hb hr rfl (fun t ht hW => ⟨⟨0, (st, sl), rfl, ⟨rfl, Or.inr (⟨rfl, by omega⟩)⟩, mB.of ht hP⟩, hS.F ht⟩) hS.2.2 dX12_isSign_21
  · have c1 : (tkd B g m p) = 4 := (nI_eq (a := (tkd B g m p)) (b := 4) (by omega) (by omega)).mp c1
    refine lv_aload_n hx hb dX12_isSign_8 rfl (lv_at hl 0 rfl) ?_
    refine va_get (D := (dC, dI)) (ci := 11) (v := .int (st 0 9)) (C := RX12) (T := TX12) (N := 47) hx hb hts ii_X12_isSign hown hK hP 0 rfl rfl 9 (by decide) (hts _ mm_X12_isSign_2) (fun _ hh => hh) rfl dX12_isSign_9 ?_
    refine zz_top (v := (nI (tkv B g p))) (by show st 0 9 = _; rw [(hT.2.2.2.2.1 (by omega))]) ?_
    refine lv_iload_n hx hb dX12_isSign_12 rfl (lv_at hl 1 rfl) ?_
    refine lv_icmp_ne (tgt := 20) hx hb dX12_isSign_13 (by decide) (fun c2 => ?_) (fun c2 => ?_)
    · have c2 : ¬ (tkv B g p) = 62 := fun hh => c2 ((nI_eq (a := (tkv B g p)) (b := 62) (by omega) (by omega)).mpr hh)
      refine lv_iconst (v := 0) hx hb dX12_isSign_20 (by decide) ?_
      exact W.zret (v := 0) hx hb hr rfl (fun t ht hW => ⟨⟨0, (st, sl), rfl, ⟨rfl, Or.inr (⟨rfl, by omega⟩)⟩, mB.of ht hP⟩, hS.F ht⟩) hS.2.2 dX12_isSign_21
    · have c2 : (tkv B g p) = 62 := (nI_eq (a := (tkv B g p)) (b := 62) (by omega) (by omega)).mp c2
      refine lv_iconst (v := 1) hx hb dX12_isSign_16 (by decide) ?_
      refine lv_goto (tgt := 21) hx hb dX12_isSign_17 (by decide) ?_
      exact W.zret (v := 1) hx hb hr rfl (fun t ht hW => ⟨⟨1, (st, sl), rfl, ⟨rfl, Or.inl (⟨rfl, by omega, by omega⟩)⟩, mB.of ht hP⟩, hS.F ht⟩) hS.2.2 dX12_isSign_21
set_option maxHeartbeats 4000000 in
set_option maxRecDepth 100000 in
theorem f_isWord13 (l : Launch) (dC : Nat → ClassId) (dI : Nat → Nat → Nat) (ar : Nat → Nat) (cy : Nat → ClassId) (sz : Nat) (hN : MN ar) (st : Nat → Nat → Int32) (sl : Nat → Nat → Int64) (B : Nat → Nat) (g m : Nat) (p : Nat) (hI : MI st) (hB : MBt B g m st) (hT : TM B g m p st sl) : Met l yX12_isWord wsX12_isWord ({ frames := 2, cells := 0, slots := 0, locals := 48 }) (va_Pc [.ref (ar 0), .int 13] (mPre dC dI ar cy sz st sl)) (va_Qi (fun (r : Int32) (x : MT) => x = (st, sl) ∧ ((r = 1 ∧ tkw B g m p = 13) ∨ (r = 0 ∧ ¬ tkw B g m p = 13))) (mB dC dI ar cy) (MA ar sz)) 0 0 (MA ar sz) := by
  refine Met.ofW (cc := cX12_isWord) (maxL := 2) (ret := (some .boolean)) (by decide) rfl ?_
  intro p9 e s m9 args below meth c9 s₁ B9 hml hv
  obtain ⟨rfl, hsz, hP, hK⟩ := hv
  have hx := B9.exec
  have hb := B9.bytes
  have hr := B9.returns
  have hts := atoms_spec (ws := wsX12_isWord) B9.pre
  have hown : s.vm.findClass RX12 = some m9.cls := findClass_of_methodNamed B9.named
  subst hsz
  have hS : va_S (MA ar s.heap.size) s.heap s.heap [] := va_S.rf
  have hG : MG [1, 2, 3, 4, 5, 6, 7, 8, 9, 10, 11, 12, 13, 14, 15, 16, 17, 19, 20, 21, 22, 23] st st := MG.rf hI
  have hl := lv_entry ([.ref (ar 0), .int 13]) (n := 2) (Nat.le_of_ble_eq_true rfl)
  rw [lg_entry_eq]
  generalize (lg_sl ([.ref (ar 0), .int 13]) ++ List.replicate (2 - (lg_sl ([.ref (ar 0), .int 13])).length) Slot.unset).toArray = ls at hl ⊢
  have hl : lv_has ls 2 [(0, .ref (ar 0)), (1, .int 13)] := hl
  clear hI
  have hB1 := hB.2.2.1
  have hB2 := hB.2.2.2.1
  have hF : FM 0 st sl st sl := FM.rf
  have hp9 := hT.2.2.2.2.2.2
  have hk1 := tkd_lt (B := B) (g := g) (m := m) (p := p)
  have hk2 := tkx_le (B := B) (g := g) (m := m) (p := p) hp9
  have hk3 := tka_le (B := B) (g := g) (m := m) (p := p) hp9 hB.2.2.1
  have hk4 := tkv_lt (p := p) hB hp9
  have hk5 := tkw_lt (B := B) (g := g) (m := m) (p := p)
  refine lv_aload_n hx hb dX12_isWord_0 rfl (lv_at hl 0 rfl) ?_
  refine va_get (D := (dC, dI)) (ci := 11) (v := .int (st 0 7)) (C := RX12) (T := TX12) (N := 47) hx hb hts ii_X12_isWord hown hK hP 0 rfl rfl 7 (by decide) (hts _ mm_X12_isWord_1) (fun _ hh => hh) rfl dX12_isWord_1 ?_
  refine zz_top (v := (nI (tkd B g m p))) (by show st 0 7 = _; rw [hT.2.2.1]) ?_
  refine lv_iconst (v := 2) hx hb dX12_isWord_4 (by decide) ?_
  refine lv_icmp_ne (tgt := 24) hx hb dX12_isWord_5 (by decide) (fun c1 => ?_) (fun c1 => ?_)
  · have c1 : ¬ (tkd B g m p) = 2 := fun hh => c1 ((nI_eq (a := (tkd B g m p)) (b := 2) (by omega) (by omega)).mpr hh)
    refine lv_iconst (v := 0) hx hb dX12_isWord_24 (by decide) ?_
    exact W.zret (v := 0) hx hb hr rfl (fun t ht hW => ⟨⟨0, (st, sl), rfl, ⟨rfl, Or.inr (⟨rfl, by rw [tkw_n (by omega)]; omega⟩)⟩, mB.of ht hP⟩, hS.F ht⟩) hS.2.2 dX12_isWord_25
  · have c1 : (tkd B g m p) = 2 := (nI_eq (a := (tkd B g m p)) (b := 2) (by omega) (by omega)).mp c1
    refine lv_aload_n hx hb dX12_isWord_8 rfl (lv_at hl 0 rfl) ?_
    refine va_get (D := (dC, dI)) (ci := 11) (v := .long (sl 0 12)) (C := RX12) (T := TX12) (N := 47) hx hb hts ii_X12_isWord hown hK hP 0 rfl rfl 12 (by decide) (hts _ mm_X12_isWord_2) (fun _ hh => hh) rfl dX12_isWord_9 ?_
    refine lv_iload_n hx hb dX12_isWord_12 rfl (lv_at hl 1 rfl) ?_
    refine va_calll (va_runS (As := [.int 13]) (rest := [.long (sl 0 12)]) ⟨hx, hb, hml, hown, hts⟩ (f_wordOf13 l dC dI ar cy _ hN st sl hG.1 ) (va_cwS 1 hts gX12_isWord_X12_wordOf rfl rfl rfl (by decide +kernel) ⟨Nat.le_of_ble_eq_true rfl, Nat.le_of_ble_eq_true rfl⟩) ⟨fun a U g mk q => ⟨q.1, mPre.blind q.2⟩, fun U hU hW => ⟨rfl, mPre.of hP hK hU hW⟩⟩ rfl rfl hl.1 rfl (lv_room (Nat.le_of_ble_eq_true rfl)) dX12_isWord_13 ⟨Nat.le_of_ble_eq_true rfl, Nat.le_of_ble_eq_true rfl⟩) hS (fun q _ h => MA.le hS.1 q h) (MA.le hS.1) (fun r1 x t H locs ht hvm hw hB9 _ _ hS => ?_)
    have hP := mB.at ht hB9
    clear hB9 ht hvm
    obtain ⟨rfl, hw⟩ := hw
    have hP : va_P (dC, dI) vwCl (mw ar cy st sl) _ := hP
    obtain rfl := hw
    refine W.lcmp hx hb dX12_isWord_16 ?_
    refine lv_topi (fun z2 ez2 => ?_)
    refine lv_if_ne (tgt := 24) hx hb dX12_isWord_17 (by decide) (fun c2 => ?_) (fun c2 => ?_)
    · have c2 : ¬ (sl 0 12) = 423 := fun hh => c2 (by rw [ez2]; exact (lg_cmp_eq _ _).mpr hh)
      have c2 : ¬ tkw B g m p = 13 := fun hh => c2 ((tkw_k (p := p) (m := m) hp9 hB1 (by omega) (hT.2.2.2.2.2.1 (by omega)) (k := 13) (by decide) (w' := 423) (by decide +kernel)).mpr hh)
      refine lv_iconst (v := 0) hx hb dX12_isWord_24 (by decide) ?_
      exact W.zret (v := 0) hx hb hr rfl (fun t ht hW => ⟨⟨0, (st, sl), rfl, ⟨rfl, Or.inr (⟨rfl, by omega⟩)⟩, mB.of ht hP⟩, hS.F ht⟩) hS.2.2 dX12_isWord_25
    · have c2 : (sl 0 12) = 423 := (lg_cmp_eq _ _).mp (by rw [← ez2]; exact c2)
      have c2 : tkw B g m p = 13 := (tkw_k (p := p) (m := m) hp9 hB1 (by omega) (hT.2.2.2.2.2.1 (by omega)) (k := 13) (by decide) (w' := 423) (by decide +kernel)).mp c2
      refine lv_iconst (v := 1) hx hb dX12_isWord_20 (by decide) ?_
      refine lv_goto (tgt := 25) hx hb dX12_isWord_21 (by decide) ?_
      exact W.zret (v := 1) hx hb hr rfl (fun t ht hW => ⟨⟨1, (st, sl), rfl, ⟨rfl, Or.inl (⟨rfl, by omega⟩)⟩, mB.of ht hP⟩, hS.F ht⟩) hS.2.2 dX12_isWord_25
set_option maxHeartbeats 4000000 in
set_option maxRecDepth 100000 in
theorem f_isWord14 (l : Launch) (dC : Nat → ClassId) (dI : Nat → Nat → Nat) (ar : Nat → Nat) (cy : Nat → ClassId) (sz : Nat) (hN : MN ar) (st : Nat → Nat → Int32) (sl : Nat → Nat → Int64) (B : Nat → Nat) (g m : Nat) (p : Nat) (hI : MI st) (hB : MBt B g m st) (hT : TM B g m p st sl) : Met l yX12_isWord wsX12_isWord ({ frames := 2, cells := 0, slots := 0, locals := 48 }) (va_Pc [.ref (ar 0), .int 14] (mPre dC dI ar cy sz st sl)) (va_Qi (fun (r : Int32) (x : MT) => x = (st, sl) ∧ ((r = 1 ∧ tkw B g m p = 14) ∨ (r = 0 ∧ ¬ tkw B g m p = 14))) (mB dC dI ar cy) (MA ar sz)) 0 0 (MA ar sz) := by
  refine Met.ofW (cc := cX12_isWord) (maxL := 2) (ret := (some .boolean)) (by decide) rfl ?_
  intro p9 e s m9 args below meth c9 s₁ B9 hml hv
  obtain ⟨rfl, hsz, hP, hK⟩ := hv
  have hx := B9.exec
  have hb := B9.bytes
  have hr := B9.returns
  have hts := atoms_spec (ws := wsX12_isWord) B9.pre
  have hown : s.vm.findClass RX12 = some m9.cls := findClass_of_methodNamed B9.named
  subst hsz
  have hS : va_S (MA ar s.heap.size) s.heap s.heap [] := va_S.rf
  have hG : MG [1, 2, 3, 4, 5, 6, 7, 8, 9, 10, 11, 12, 13, 14, 15, 16, 17, 19, 20, 21, 22, 23] st st := MG.rf hI
  have hl := lv_entry ([.ref (ar 0), .int 14]) (n := 2) (Nat.le_of_ble_eq_true rfl)
  rw [lg_entry_eq]
  generalize (lg_sl ([.ref (ar 0), .int 14]) ++ List.replicate (2 - (lg_sl ([.ref (ar 0), .int 14])).length) Slot.unset).toArray = ls at hl ⊢
  have hl : lv_has ls 2 [(0, .ref (ar 0)), (1, .int 14)] := hl
  clear hI
  have hB1 := hB.2.2.1
  have hB2 := hB.2.2.2.1
  have hF : FM 0 st sl st sl := FM.rf
  have hp9 := hT.2.2.2.2.2.2
  have hk1 := tkd_lt (B := B) (g := g) (m := m) (p := p)
  have hk2 := tkx_le (B := B) (g := g) (m := m) (p := p) hp9
  have hk3 := tka_le (B := B) (g := g) (m := m) (p := p) hp9 hB.2.2.1
  have hk4 := tkv_lt (p := p) hB hp9
  have hk5 := tkw_lt (B := B) (g := g) (m := m) (p := p)
  refine lv_aload_n hx hb dX12_isWord_0 rfl (lv_at hl 0 rfl) ?_
  refine va_get (D := (dC, dI)) (ci := 11) (v := .int (st 0 7)) (C := RX12) (T := TX12) (N := 47) hx hb hts ii_X12_isWord hown hK hP 0 rfl rfl 7 (by decide) (hts _ mm_X12_isWord_1) (fun _ hh => hh) rfl dX12_isWord_1 ?_
  refine zz_top (v := (nI (tkd B g m p))) (by show st 0 7 = _; rw [hT.2.2.1]) ?_
  refine lv_iconst (v := 2) hx hb dX12_isWord_4 (by decide) ?_
  refine lv_icmp_ne (tgt := 24) hx hb dX12_isWord_5 (by decide) (fun c1 => ?_) (fun c1 => ?_)
  · have c1 : ¬ (tkd B g m p) = 2 := fun hh => c1 ((nI_eq (a := (tkd B g m p)) (b := 2) (by omega) (by omega)).mpr hh)
    refine lv_iconst (v := 0) hx hb dX12_isWord_24 (by decide) ?_
    exact W.zret (v := 0) hx hb hr rfl (fun t ht hW => ⟨⟨0, (st, sl), rfl, ⟨rfl, Or.inr (⟨rfl, by rw [tkw_n (by omega)]; omega⟩)⟩, mB.of ht hP⟩, hS.F ht⟩) hS.2.2 dX12_isWord_25
  · have c1 : (tkd B g m p) = 2 := (nI_eq (a := (tkd B g m p)) (b := 2) (by omega) (by omega)).mp c1
    refine lv_aload_n hx hb dX12_isWord_8 rfl (lv_at hl 0 rfl) ?_
    refine va_get (D := (dC, dI)) (ci := 11) (v := .long (sl 0 12)) (C := RX12) (T := TX12) (N := 47) hx hb hts ii_X12_isWord hown hK hP 0 rfl rfl 12 (by decide) (hts _ mm_X12_isWord_2) (fun _ hh => hh) rfl dX12_isWord_9 ?_
    refine lv_iload_n hx hb dX12_isWord_12 rfl (lv_at hl 1 rfl) ?_
    refine va_calll (va_runS (As := [.int 14]) (rest := [.long (sl 0 12)]) ⟨hx, hb, hml, hown, hts⟩ (f_wordOf14 l dC dI ar cy _ hN st sl hG.1 ) (va_cwS 1 hts gX12_isWord_X12_wordOf rfl rfl rfl (by decide +kernel) ⟨Nat.le_of_ble_eq_true rfl, Nat.le_of_ble_eq_true rfl⟩) ⟨fun a U g mk q => ⟨q.1, mPre.blind q.2⟩, fun U hU hW => ⟨rfl, mPre.of hP hK hU hW⟩⟩ rfl rfl hl.1 rfl (lv_room (Nat.le_of_ble_eq_true rfl)) dX12_isWord_13 ⟨Nat.le_of_ble_eq_true rfl, Nat.le_of_ble_eq_true rfl⟩) hS (fun q _ h => MA.le hS.1 q h) (MA.le hS.1) (fun r1 x t H locs ht hvm hw hB9 _ _ hS => ?_)
    have hP := mB.at ht hB9
    clear hB9 ht hvm
    obtain ⟨rfl, hw⟩ := hw
    have hP : va_P (dC, dI) vwCl (mw ar cy st sl) _ := hP
    obtain rfl := hw
    refine W.lcmp hx hb dX12_isWord_16 ?_
    refine lv_topi (fun z2 ez2 => ?_)
    refine lv_if_ne (tgt := 24) hx hb dX12_isWord_17 (by decide) (fun c2 => ?_) (fun c2 => ?_)
    · have c2 : ¬ (sl 0 12) = 1111 := fun hh => c2 (by rw [ez2]; exact (lg_cmp_eq _ _).mpr hh)
      have c2 : ¬ tkw B g m p = 14 := fun hh => c2 ((tkw_k (p := p) (m := m) hp9 hB1 (by omega) (hT.2.2.2.2.2.1 (by omega)) (k := 14) (by decide) (w' := 1111) (by decide +kernel)).mpr hh)
      refine lv_iconst (v := 0) hx hb dX12_isWord_24 (by decide) ?_
      exact W.zret (v := 0) hx hb hr rfl (fun t ht hW => ⟨⟨0, (st, sl), rfl, ⟨rfl, Or.inr (⟨rfl, by omega⟩)⟩, mB.of ht hP⟩, hS.F ht⟩) hS.2.2 dX12_isWord_25
    · have c2 : (sl 0 12) = 1111 := (lg_cmp_eq _ _).mp (by rw [← ez2]; exact c2)
      have c2 : tkw B g m p = 14 := (tkw_k (p := p) (m := m) hp9 hB1 (by omega) (hT.2.2.2.2.2.1 (by omega)) (k := 14) (by decide) (w' := 1111) (by decide +kernel)).mp c2
      refine lv_iconst (v := 1) hx hb dX12_isWord_20 (by decide) ?_
      refine lv_goto (tgt := 25) hx hb dX12_isWord_21 (by decide) ?_
      exact W.zret (v := 1) hx hb hr rfl (fun t ht hW => ⟨⟨1, (st, sl), rfl, ⟨rfl, Or.inl (⟨rfl, by omega⟩)⟩, mB.of ht hP⟩, hS.F ht⟩) hS.2.2 dX12_isWord_25
set_option maxHeartbeats 4000000 in
set_option maxRecDepth 100000 in
theorem f_isWordN (l : Launch) (dC : Nat → ClassId) (dI : Nat → Nat → Nat) (ar : Nat → Nat) (cy : Nat → ClassId) (sz : Nat) (hN : MN ar) (st : Nat → Nat → Int32) (sl : Nat → Nat → Int64) (va : Nat) (B : Nat → Nat) (g m : Nat) (p : Nat) (hlva : 15 ≤ va) (hva : va < 24) (hI : MI st) (hB : MBt B g m st) (hT : TM B g m p st sl) : Met l yX12_isWord wsX12_isWord ({ frames := 2, cells := 0, slots := 0, locals := 48 }) (va_Pc [.ref (ar 0), .int (nI va)] (mPre dC dI ar cy sz st sl)) (va_Qi (fun (r : Int32) (x : MT) => x = (st, sl) ∧ ((r = 1 ∧ tkw B g m p = va) ∨ (r = 0 ∧ ¬ tkw B g m p = va))) (mB dC dI ar cy) (MA ar sz)) 0 0 (MA ar sz) := by
  refine Met.ofW (cc := cX12_isWord) (maxL := 2) (ret := (some .boolean)) (by decide) rfl ?_
  intro p9 e s m9 args below meth c9 s₁ B9 hml hv
  obtain ⟨rfl, hsz, hP, hK⟩ := hv
  have hx := B9.exec
  have hb := B9.bytes
  have hr := B9.returns
  have hts := atoms_spec (ws := wsX12_isWord) B9.pre
  have hown : s.vm.findClass RX12 = some m9.cls := findClass_of_methodNamed B9.named
  subst hsz
  have hS : va_S (MA ar s.heap.size) s.heap s.heap [] := va_S.rf
  have hG : MG [1, 2, 3, 4, 5, 6, 7, 8, 9, 10, 11, 12, 13, 14, 15, 16, 17, 19, 20, 21, 22, 23] st st := MG.rf hI
  have hl := lv_entry ([.ref (ar 0), .int (nI va)]) (n := 2) (Nat.le_of_ble_eq_true rfl)
  rw [lg_entry_eq]
  generalize (lg_sl ([.ref (ar 0), .int (nI va)]) ++ List.replicate (2 - (lg_sl ([.ref (ar 0), .int (nI va)])).length) Slot.unset).toArray = ls at hl ⊢
  have hl : lv_has ls 2 [(0, .ref (ar 0)), (1, .int (nI va))] := hl
  clear hI
  have hB1 := hB.2.2.1
  have hB2 := hB.2.2.2.1
  have hF : FM 0 st sl st sl := FM.rf
  have hp9 := hT.2.2.2.2.2.2
  have hk1 := tkd_lt (B := B) (g := g) (m := m) (p := p)
  have hk2 := tkx_le (B := B) (g := g) (m := m) (p := p) hp9
  have hk3 := tka_le (B := B) (g := g) (m := m) (p := p) hp9 hB.2.2.1
  have hk4 := tkv_lt (p := p) hB hp9
  have hk5 := tkw_lt (B := B) (g := g) (m := m) (p := p)
  refine lv_aload_n hx hb dX12_isWord_0 rfl (lv_at hl 0 rfl) ?_
  refine va_get (D := (dC, dI)) (ci := 11) (v := .int (st 0 7)) (C := RX12) (T := TX12) (N := 47) hx hb hts ii_X12_isWord hown hK hP 0 rfl rfl 7 (by decide) (hts _ mm_X12_isWord_1) (fun _ hh => hh) rfl dX12_isWord_1 ?_
  refine zz_top (v := (nI (tkd B g m p))) (by show st 0 7 = _; rw [hT.2.2.1]) ?_
  refine lv_iconst (v := 2) hx hb dX12_isWord_4 (by decide) ?_
  refine lv_icmp_ne (tgt := 24) hx hb dX12_isWord_5 (by decide) (fun c1 => ?_) (fun c1 => ?_)
  · have c1 : ¬ (tkd B g m p) = 2 := fun hh => c1 ((nI_eq (a := (tkd B g m p)) (b := 2) (by omega) (by omega)).mpr hh)
    refine lv_iconst (v := 0) hx hb dX12_isWord_24 (by decide) ?_
    exact W.zret (v := 0) hx hb hr rfl (fun t ht hW => ⟨⟨0, (st, sl), rfl, ⟨rfl, Or.inr (⟨rfl, by rw [tkw_n (by omega)]; omega⟩)⟩, mB.of ht hP⟩, hS.F ht⟩) hS.2.2 dX12_isWord_25
  · have c1 : (tkd B g m p) = 2 := (nI_eq (a := (tkd B g m p)) (b := 2) (by omega) (by omega)).mp c1
    refine lv_aload_n hx hb dX12_isWord_8 rfl (lv_at hl 0 rfl) ?_
    refine va_get (D := (dC, dI)) (ci := 11) (v := .long (sl 0 12)) (C := RX12) (T := TX12) (N := 47) hx hb hts ii_X12_isWord hown hK hP 0 rfl rfl 12 (by decide) (hts _ mm_X12_isWord_2) (fun _ hh => hh) rfl dX12_isWord_9 ?_
    refine lv_iload_n hx hb dX12_isWord_12 rfl (lv_at hl 1 rfl) ?_
    refine va_calll (va_runS (As := [.int (nI va)]) (rest := [.long (sl 0 12)]) ⟨hx, hb, hml, hown, hts⟩ (f_wordOfN l dC dI ar cy _ hN st sl va (by omega) hG.1 ) (va_cwS 1 hts gX12_isWord_X12_wordOf rfl rfl rfl (by decide +kernel) ⟨Nat.le_of_ble_eq_true rfl, Nat.le_of_ble_eq_true rfl⟩) ⟨fun a U g mk q => ⟨q.1, mPre.blind q.2⟩, fun U hU hW => ⟨rfl, mPre.of hP hK hU hW⟩⟩ rfl rfl hl.1 rfl (lv_room (Nat.le_of_ble_eq_true rfl)) dX12_isWord_13 ⟨Nat.le_of_ble_eq_true rfl, Nat.le_of_ble_eq_true rfl⟩) hS (fun q _ h => MA.le hS.1 q h) (MA.le hS.1) (fun r1 x t H locs ht hvm hw hB9 _ _ hS => ?_)
    have hP := mB.at ht hB9
    clear hB9 ht hvm
    obtain ⟨rfl, hw⟩ := hw
    have hP : va_P (dC, dI) vwCl (mw ar cy st sl) _ := hP
    have hf2 := hw
    refine W.lcmp hx hb dX12_isWord_16 ?_
    refine lv_topi (fun z3 ez3 => ?_)
    refine lv_if_ne (tgt := 24) hx hb dX12_isWord_17 (by decide) (fun c2 => ?_) (fun c2 => ?_)
    · have c2 : ¬ (sl 0 12) = r1 := fun hh => c2 (by rw [ez3]; exact (lg_cmp_eq _ _).mpr hh)
      have c2 : ¬ tkw B g m p = va := fun hh => c2 ((tkw_k (p := p) (m := m) hp9 hB1 (by omega) (hT.2.2.2.2.2.1 (by omega)) (k := va) (by omega) hf2).mpr hh)
      refine lv_iconst (v := 0) hx hb dX12_isWord_24 (by decide) ?_
      exact W.zret (v := 0) hx hb hr rfl (fun t ht hW => ⟨⟨0, (st, sl), rfl, ⟨rfl, Or.inr (⟨rfl, by omega⟩)⟩, mB.of ht hP⟩, hS.F ht⟩) hS.2.2 dX12_isWord_25
    · have c2 : (sl 0 12) = r1 := (lg_cmp_eq _ _).mp (by rw [← ez3]; exact c2)
      have c2 : tkw B g m p = va := (tkw_k (p := p) (m := m) hp9 hB1 (by omega) (hT.2.2.2.2.2.1 (by omega)) (k := va) (by omega) hf2).mp c2
      refine lv_iconst (v := 1) hx hb dX12_isWord_20 (by decide) ?_
      refine lv_goto (tgt := 25) hx hb dX12_isWord_21 (by decide) ?_
      exact W.zret (v := 1) hx hb hr rfl (fun t ht hW => ⟨⟨1, (st, sl), rfl, ⟨rfl, Or.inl (⟨rfl, by omega⟩)⟩, mB.of ht hP⟩, hS.F ht⟩) hS.2.2 dX12_isWord_25
set_option maxHeartbeats 4000000 in
set_option maxRecDepth 100000 in
theorem f_findIm0 (l : Launch) (dC : Nat → ClassId) (dI : Nat → Nat → Nat) (ar : Nat → Nat) (cy : Nat → ClassId) (sz : Nat) (hN : MN ar) (st : Nat → Nat → Int32) (sl : Nat → Nat → Int64) (vn : Nat) (vw : Int64) (hvn : vn < 6) (hI : MI st) : Met l yX12_findIn wsX12_findIn ({ frames := 0, cells := 0, slots := 0, locals := 0 }) (va_Pc [.ref (ar 7), .int 0, .int (nI vn), .long vw] (mPre dC dI ar cy sz st sl)) (va_Qi (fun (r : Int32) (x : MT) => x = (st, sl) ∧ ((r = (-1) ∧ (∀ i, i < vn → ¬ sl 7 (0 + i) = vw)) ∨ (∃ n : Nat, r = nI n ∧ n < vn ∧ sl 7 (0 + n) = vw))) (mB dC dI ar cy) (MA ar sz)) 0 0 (MA ar sz) := by
  refine Met.ofW (cc := cX12_findIn) (maxL := 6) (ret := (some .int)) (by decide) rfl ?_
  intro p9 e s m9 args below meth c9 s₁ B9 hml hv
  obtain ⟨rfl, hsz, hP, hK⟩ := hv
  have hx := B9.exec
  have hb := B9.bytes
  have hr := B9.returns
  have hts := atoms_spec (ws := wsX12_findIn) B9.pre
  have hown : s.vm.findClass RX12 = some m9.cls := findClass_of_methodNamed B9.named
  subst hsz
  have hS : va_S (MA ar s.heap.size) s.heap s.heap [] := va_S.rf
  have hG : MG [1, 2, 3, 4, 5, 6, 7, 8, 9, 10, 11, 12, 13, 14, 15, 16, 17, 19, 20, 21, 22, 23] st st := MG.rf hI
  have hl := lv_entry ([.ref (ar 7), .int 0, .int (nI vn), .long vw]) (n := 6) (Nat.le_of_ble_eq_true rfl)
  rw [lg_entry_eq]
  generalize (lg_sl ([.ref (ar 7), .int 0, .int (nI vn), .long vw]) ++ List.replicate (6 - (lg_sl ([.ref (ar 7), .int 0, .int (nI vn), .long vw])).length) Slot.unset).toArray = ls at hl ⊢
  have hl : lv_has ls 6 [(0, .ref (ar 7)), (1, .int 0), (2, .int (nI vn)), (3, .long vw)] := hl
  clear hI
  refine lv_iconst (v := 0) hx hb dX12_findIn_0 (by decide) ?_
  refine lv_istore (lv' := [(5, .int 0), (0, .ref (ar 7)), (1, .int 0), (2, .int (nI vn)), (3, .long vw)]) hx hb dX12_findIn_1 hl (by decide) rfl (fun ls hl => ?_)
  refine zz_wf (fun n stk H locs ls => ∃ k1 : Nat, n = 9 - k1 ∧ 0 ≤ k1 ∧ k1 < 9 ∧ k1 ≤ vn ∧ (∀ i, i < k1 → ¬ sl 7 (0 + i) = vw) ∧ va_P (dC, dI) vwCl (mw ar cy st sl) H ∧ va_S (MA ar s.heap.size) s.heap H locs ∧ lv_has ls 6 [(5, .int (nI k1)), (0, .ref (ar 7)), (1, .int 0), (2, .int (nI vn)), (3, .long vw)] ∧ stk = []) ?_ (9 - 0) _ _ _ _ ⟨0, rfl, by omega, by omega, by omega, fun i hi => absurd hi (by omega), hP, hS, lv_sub hl [0, 1, 2, 3, 4] rfl, rfl⟩
  rintro nn stk H locs ls ⟨k1, hm5, hv2_0, hv3_1, hv4_0, hv5_1, hP, hS, hl, rfl⟩ ih6
  refine lv_iload hx hb dX12_findIn_3 (lv_at hl 0 rfl) ?_
  refine lv_iload_n hx hb dX12_findIn_5 rfl (lv_at hl 3 rfl) ?_
  refine lv_icmp_ge (tgt := 29) hx hb dX12_findIn_6 (by decide) (fun c1 => ?_) (fun c1 => ?_)
  · have c1 : vn ≤ k1 := (nI_leI (a := vn) (b := k1) (by omega) (by omega)).mp c1
    refine lv_iconst (v := (-1)) hx hb dX12_findIn_29 (by decide) ?_
    exact W.iret (v := (-1)) hx hb hr (fun t ht hW => ⟨⟨(-1), (st, sl), rfl, ⟨rfl, Or.inl (⟨rfl, fun i hi => hv5_1 i (by omega)⟩)⟩, mB.of ht hP⟩, hS.F ht⟩) hS.2.2 dX12_findIn_30
  · have c1 : ¬ vn ≤ k1 := fun hh => c1 ((nI_leI (a := vn) (b := k1) (by omega) (by omega)).mpr hh)
    refine lv_aload_n hx hb dX12_findIn_9 rfl (lv_at hl 1 rfl) ?_
    refine lv_iload_n hx hb dX12_findIn_10 rfl (lv_at hl 2 rfl) ?_
    refine lv_iload hx hb dX12_findIn_11 (lv_at hl 0 rfl) ?_
    refine lv_iadd hx hb dX12_findIn_13 ?_
    refine zz_top (v := nI (0 + k1)) (nI_add 0 k1) ?_
    refine va_lald hx hb hK hP 7 6 rfl rfl (i := (nI (0 + k1))) (vp_in_nI (by omega) (by decide)) dX12_findIn_14 ?_
    refine zz_topl (v := sl 7 (0 + k1)) (by rw [nI_clamp (by omega)]) ?_
    refine lv_lload_n hx hb dX12_findIn_15 rfl (lv_at hl 4 rfl) ?_
    refine W.lcmp hx hb dX12_findIn_16 ?_
    refine lv_topi (fun z7 ez7 => ?_)
    refine lv_if_ne (tgt := 23) hx hb dX12_findIn_17 (by decide) (fun c2 => ?_) (fun c2 => ?_)
    · have c2 : ¬ (sl 7 (0 + k1)) = vw := fun hh => c2 (by rw [ez7]; exact (lg_cmp_eq _ _).mpr hh)
      refine lv_iinc (v := (nI (k1 + 1))) (lv' := [(5, .int (nI (k1 + 1))), (0, .ref (ar 7)), (1, .int 0), (2, .int (nI vn)), (3, .long vw)]) hx hb dX12_findIn_23 hl (k := 0) rfl (nI_add k1 1) (by decide) rfl (fun ls hl => ?_)
      refine lv_goto (tgt := 3) hx hb dX12_findIn_26 (by decide) ?_
      exact ih6 (9 - (k1 + 1)) _ _ _ _ (by omega) ⟨(k1 + 1), rfl, by omega, by omega, by omega, fun i hi hz => if h9 : i = k1 then c2 (by rw [← h9]; exact hz) else hv5_1 i (by omega) hz, hP, hS, lv_sub hl [0, 1, 2, 3, 4] rfl, rfl⟩
    · have c2 : (sl 7 (0 + k1)) = vw := (lg_cmp_eq _ _).mp (by rw [← ez7]; exact c2)
      refine lv_iload hx hb dX12_findIn_20 (lv_at hl 0 rfl) ?_
      exact W.iret (v := (nI k1)) hx hb hr (fun t ht hW => ⟨⟨(nI k1), (st, sl), rfl, ⟨rfl, Or.inr (⟨k1, rfl, by omega, c2⟩)⟩, mB.of ht hP⟩, hS.F ht⟩) hS.2.2 dX12_findIn_22
set_option maxHeartbeats 4000000 in
set_option maxRecDepth 100000 in
theorem f_findIm1 (l : Launch) (dC : Nat → ClassId) (dI : Nat → Nat → Nat) (ar : Nat → Nat) (cy : Nat → ClassId) (sz : Nat) (hN : MN ar) (st : Nat → Nat → Int32) (sl : Nat → Nat → Int64) (vn : Nat) (vw : Int64) (hvn : vn < 9) (hI : MI st) : Met l yX12_findIn wsX12_findIn ({ frames := 0, cells := 0, slots := 0, locals := 0 }) (va_Pc [.ref (ar 7), .int 5, .int (nI vn), .long vw] (mPre dC dI ar cy sz st sl)) (va_Qi (fun (r : Int32) (x : MT) => x = (st, sl) ∧ ((r = (-1) ∧ (∀ i, i < vn → ¬ sl 7 (5 + i) = vw)) ∨ (∃ n : Nat, r = nI n ∧ n < vn ∧ sl 7 (5 + n) = vw))) (mB dC dI ar cy) (MA ar sz)) 0 0 (MA ar sz) := by
  refine Met.ofW (cc := cX12_findIn) (maxL := 6) (ret := (some .int)) (by decide) rfl ?_
  intro p9 e s m9 args below meth c9 s₁ B9 hml hv
  obtain ⟨rfl, hsz, hP, hK⟩ := hv
  have hx := B9.exec
  have hb := B9.bytes
  have hr := B9.returns
  have hts := atoms_spec (ws := wsX12_findIn) B9.pre
  have hown : s.vm.findClass RX12 = some m9.cls := findClass_of_methodNamed B9.named
  subst hsz
  have hS : va_S (MA ar s.heap.size) s.heap s.heap [] := va_S.rf
  have hG : MG [1, 2, 3, 4, 5, 6, 7, 8, 9, 10, 11, 12, 13, 14, 15, 16, 17, 19, 20, 21, 22, 23] st st := MG.rf hI
  have hl := lv_entry ([.ref (ar 7), .int 5, .int (nI vn), .long vw]) (n := 6) (Nat.le_of_ble_eq_true rfl)
  rw [lg_entry_eq]
  generalize (lg_sl ([.ref (ar 7), .int 5, .int (nI vn), .long vw]) ++ List.replicate (6 - (lg_sl ([.ref (ar 7), .int 5, .int (nI vn), .long vw])).length) Slot.unset).toArray = ls at hl ⊢
  have hl : lv_has ls 6 [(0, .ref (ar 7)), (1, .int 5), (2, .int (nI vn)), (3, .long vw)] := hl
  clear hI
  refine lv_iconst (v := 0) hx hb dX12_findIn_0 (by decide) ?_
  refine lv_istore (lv' := [(5, .int 0), (0, .ref (ar 7)), (1, .int 5), (2, .int (nI vn)), (3, .long vw)]) hx hb dX12_findIn_1 hl (by decide) rfl (fun ls hl => ?_)
  refine zz_wf (fun n stk H locs ls => ∃ k1 : Nat, n = 9 - k1 ∧ 0 ≤ k1 ∧ k1 < 9 ∧ k1 ≤ vn ∧ (∀ i, i < k1 → ¬ sl 7 (5 + i) = vw) ∧ va_P (dC, dI) vwCl (mw ar cy st sl) H ∧ va_S (MA ar s.heap.size) s.heap H locs ∧ lv_has ls 6 [(5, .int (nI k1)), (0, .ref (ar 7)), (1, .int 5), (2, .int (nI vn)), (3, .long vw)] ∧ stk = []) ?_ (9 - 0) _ _ _ _ ⟨0, rfl, by omega, by omega, by omega, fun i hi => absurd hi (by omega), hP, hS, lv_sub hl [0, 1, 2, 3, 4] rfl, rfl⟩
  rintro nn stk H locs ls ⟨k1, hm5, hv2_0, hv3_1, hv4_0, hv5_1, hP, hS, hl, rfl⟩ ih6
  refine lv_iload hx hb dX12_findIn_3 (lv_at hl 0 rfl) ?_
  refine lv_iload_n hx hb dX12_findIn_5 rfl (lv_at hl 3 rfl) ?_
  refine lv_icmp_ge (tgt := 29) hx hb dX12_findIn_6 (by decide) (fun c1 => ?_) (fun c1 => ?_)
  · have c1 : vn ≤ k1 := (nI_leI (a := vn) (b := k1) (by omega) (by omega)).mp c1
    refine lv_iconst (v := (-1)) hx hb dX12_findIn_29 (by decide) ?_
    exact W.iret (v := (-1)) hx hb hr (fun t ht hW => ⟨⟨(-1), (st, sl), rfl, ⟨rfl, Or.inl (⟨rfl, fun i hi => hv5_1 i (by omega)⟩)⟩, mB.of ht hP⟩, hS.F ht⟩) hS.2.2 dX12_findIn_30
  · have c1 : ¬ vn ≤ k1 := fun hh => c1 ((nI_leI (a := vn) (b := k1) (by omega) (by omega)).mpr hh)
    refine lv_aload_n hx hb dX12_findIn_9 rfl (lv_at hl 1 rfl) ?_
    refine lv_iload_n hx hb dX12_findIn_10 rfl (lv_at hl 2 rfl) ?_
    refine lv_iload hx hb dX12_findIn_11 (lv_at hl 0 rfl) ?_
    refine lv_iadd hx hb dX12_findIn_13 ?_
    refine zz_top (v := nI (5 + k1)) (nI_add 5 k1) ?_
    refine va_lald hx hb hK hP 7 6 rfl rfl (i := (nI (5 + k1))) (vp_in_nI (by omega) (by decide)) dX12_findIn_14 ?_
    refine zz_topl (v := sl 7 (5 + k1)) (by rw [nI_clamp (by omega)]) ?_
    refine lv_lload_n hx hb dX12_findIn_15 rfl (lv_at hl 4 rfl) ?_
    refine W.lcmp hx hb dX12_findIn_16 ?_
    refine lv_topi (fun z7 ez7 => ?_)
    refine lv_if_ne (tgt := 23) hx hb dX12_findIn_17 (by decide) (fun c2 => ?_) (fun c2 => ?_)
    · have c2 : ¬ (sl 7 (5 + k1)) = vw := fun hh => c2 (by rw [ez7]; exact (lg_cmp_eq _ _).mpr hh)
      refine lv_iinc (v := (nI (k1 + 1))) (lv' := [(5, .int (nI (k1 + 1))), (0, .ref (ar 7)), (1, .int 5), (2, .int (nI vn)), (3, .long vw)]) hx hb dX12_findIn_23 hl (k := 0) rfl (nI_add k1 1) (by decide) rfl (fun ls hl => ?_)
      refine lv_goto (tgt := 3) hx hb dX12_findIn_26 (by decide) ?_
      exact ih6 (9 - (k1 + 1)) _ _ _ _ (by omega) ⟨(k1 + 1), rfl, by omega, by omega, by omega, fun i hi hz => if h9 : i = k1 then c2 (by rw [← h9]; exact hz) else hv5_1 i (by omega) hz, hP, hS, lv_sub hl [0, 1, 2, 3, 4] rfl, rfl⟩
    · have c2 : (sl 7 (5 + k1)) = vw := (lg_cmp_eq _ _).mp (by rw [← ez7]; exact c2)
      refine lv_iload hx hb dX12_findIn_20 (lv_at hl 0 rfl) ?_
      exact W.iret (v := (nI k1)) hx hb hr (fun t ht hW => ⟨⟨(nI k1), (st, sl), rfl, ⟨rfl, Or.inr (⟨k1, rfl, by omega, c2⟩)⟩, mB.of ht hP⟩, hS.F ht⟩) hS.2.2 dX12_findIn_22
set_option maxHeartbeats 4000000 in
set_option maxRecDepth 100000 in
theorem f_readNamed0 (l : Launch) (dC : Nat → ClassId) (dI : Nat → Nat → Nat) (ar : Nat → Nat) (cy : Nat → ClassId) (sz : Nat) (hN : MN ar) (st : Nat → Nat → Int32) (sl : Nat → Nat → Int64) (vn : Nat) (B : Nat → Nat) (g m : Nat) (p : Nat) (c : Nat → Nat) (nm : Nat → Nat → Nat) (hvn : vn < 9) (hI : MI st) (hB : MBt B g m st) (hT : TM B g m p st sl) (hR : RN c nm st sl) (hvn : vn = c 0) : Met l yX12_readNamed wsX12_readNamed ({ frames := 3, cells := 0, slots := 0, locals := 69 }) (va_Pc [.ref (ar 0), .int 0, .int (nI vn)] (mPre dC dI ar cy sz st sl)) (va_Qi (fun (r : Int32) (x : MT) => MG [1, 2, 3, 6, 7, 8, 9, 10, 11, 12, 13, 14, 15, 20, 21, 22] st x.1 ∧ FM 2 st sl x.1 x.2 ∧ ((∃ n : Nat, r = 1 ∧ n < vn ∧ x.1 0 13 = nI n ∧ TM B g m (tkx B g m p) x.1 x.2 ∧ (∀ k, eOne B g m p (c 0) (nm 0) k = k (tkx B g m p)) ∧ x.1 0 10 = st 0 10) ∨ (∃ f : Nat, ∃ a : Nat, r = 0 ∧ x.1 0 10 = nI f ∧ x.1 0 11 = nI a ∧ 1 ≤ f ∧ (∀ k, eOne B g m p (c 0) (nm 0) k = fl f a)))) (mB dC dI ar cy) (MA ar sz)) 0 0 (MA ar sz) := by
  refine Met.ofW (cc := cX12_readNamed) (maxL := 3) (ret := (some .boolean)) (by decide) rfl ?_
  intro p9 e s m9 args below meth c9 s₁ B9 hml hv
  obtain ⟨rfl, hsz, hP, hK⟩ := hv
  have hx := B9.exec
  have hb := B9.bytes
  have hr := B9.returns
  have hts := atoms_spec (ws := wsX12_readNamed) B9.pre
  have hown : s.vm.findClass RX12 = some m9.cls := findClass_of_methodNamed B9.named
  subst hsz
  have hS : va_S (MA ar s.heap.size) s.heap s.heap [] := va_S.rf
  have hG : MG [1, 2, 3, 6, 7, 8, 9, 10, 11, 12, 13, 14, 15, 20, 21, 22] st st := MG.rf hI
  have hl := lv_entry ([.ref (ar 0), .int 0, .int (nI vn)]) (n := 3) (Nat.le_of_ble_eq_true rfl)
  rw [lg_entry_eq]
  generalize (lg_sl ([.ref (ar 0), .int 0, .int (nI vn)]) ++ List.replicate (3 - (lg_sl ([.ref (ar 0), .int 0, .int (nI vn)])).length) Slot.unset).toArray = ls at hl ⊢
  have hl : lv_has ls 3 [(0, .ref (ar 0)), (1, .int 0), (2, .int (nI vn))] := hl
  clear hI
  have hB1 := hB.2.2.1
  have hB2 := hB.2.2.2.1
  have hF : FM 2 st sl st sl := FM.rf
  have hp9 := hT.2.2.2.2.2.2
  have hk1 := tkd_lt (B := B) (g := g) (m := m) (p := p)
  have hk2 := tkx_le (B := B) (g := g) (m := m) (p := p) hp9
  have hk3 := tka_le (B := B) (g := g) (m := m) (p := p) hp9 hB.2.2.1
  have hk4 := tkv_lt (p := p) hB hp9
  have hk5 := tkw_lt (B := B) (g := g) (m := m) (p := p)
  have hR9 := hR.2.1
  have hT0 := hT
  have hR0 := hR
  have hw25 := @tkw_d B g m p
  refine lv_aload_n hx hb dX12_readNamed_0 rfl (lv_at hl 0 rfl) ?_
  refine va_calli (va_runV (As := []) (rest := []) ⟨hx, hb, hml, hown, hts⟩ (f_isName l dC dI ar cy _ hN st sl B g m p hG.1 (MBt.fr hB hF) hT) (cwV 0 hts gX12_readNamed_X12_isName rfl rfl rfl (by decide +kernel) ⟨Nat.le_of_ble_eq_true rfl, Nat.le_of_ble_eq_true rfl⟩) ⟨fun a U g mk q => ⟨q.1, mPre.blind q.2⟩, va_recv hK hP (ci := 11) (q0 := 0) rfl rfl, fun U hU hW => ⟨rfl, mPre.of hP hK hU hW⟩⟩ rfl rfl hl.1 rfl (lv_room (Nat.le_of_ble_eq_true rfl)) dX12_readNamed_1 ⟨Nat.le_of_ble_eq_true rfl, Nat.le_of_ble_eq_true rfl⟩) hS (fun q _ h => MA.le hS.1 q h) (MA.le hS.1) (fun r1 x t H locs ht hvm hw hB9 _ _ hS => ?_)
  have hP := mB.at ht hB9
  clear hB9 ht hvm
  obtain ⟨rfl, hw⟩ := hw
  have hP : va_P (dC, dI) vwCl (mw ar cy st sl) _ := hP
  rcases hw with ⟨rfl, hf2⟩ | ⟨rfl, hf3⟩
  · refine lv_if_ne (tgt := 13) hx hb dX12_readNamed_4 (by decide) (fun _ => ?_) (fun cc => absurd cc (by decide))
    refine lv_aload_n hx hb dX12_readNamed_13 rfl (lv_at hl 0 rfl) ?_
    refine lv_aload_n hx hb dX12_readNamed_14 rfl (lv_at hl 0 rfl) ?_
    refine va_get (D := (dC, dI)) (ci := 11) (v := .ref (ar 7)) (C := RX12) (T := TX12) (N := 47) hx hb hts ii_X12_readNamed hown hK hP 0 rfl rfl 19 (by decide) (hts _ mm_X12_readNamed_1) (fun _ hh => hh) rfl dX12_readNamed_15 ?_
    refine lv_iload_n hx hb dX12_readNamed_18 rfl (lv_at hl 1 rfl) ?_
    refine lv_iload_n hx hb dX12_readNamed_19 rfl (lv_at hl 2 rfl) ?_
    refine lv_aload_n hx hb dX12_readNamed_20 rfl (lv_at hl 0 rfl) ?_
    refine va_get (D := (dC, dI)) (ci := 11) (v := .long (sl 0 12)) (C := RX12) (T := TX12) (N := 47) hx hb hts ii_X12_readNamed hown hK hP 0 rfl rfl 12 (by decide) (hts _ mm_X12_readNamed_2) (fun _ hh => hh) rfl dX12_readNamed_21 ?_
    refine va_calli (va_runS (As := [.ref (ar 7), .int 0, .int (nI vn), .long (sl 0 12)]) (rest := [.ref (ar 0)]) ⟨hx, hb, hml, hown, hts⟩ (f_findIm0 l dC dI ar cy _ hN st sl vn (sl 0 12) (by omega) hG.1 ) (va_cwS 4 hts gX12_readNamed_X12_findIn rfl rfl rfl (by decide +kernel) ⟨Nat.le_of_ble_eq_true rfl, Nat.le_of_ble_eq_true rfl⟩) ⟨fun a U g mk q => ⟨q.1, mPre.blind q.2⟩, fun U hU hW => ⟨rfl, mPre.of hP hK hU hW⟩⟩ rfl rfl hl.1 rfl (lv_room (Nat.le_of_ble_eq_true rfl)) dX12_readNamed_24 ⟨Nat.le_of_ble_eq_true rfl, Nat.le_of_ble_eq_true rfl⟩) hS (fun q _ h => MA.le hS.1 q h) (MA.le hS.1) (fun r4 x t H locs ht hvm hw hB9 _ _ hS => ?_)
    have hP := mB.at ht hB9
    clear hB9 ht hvm
    obtain ⟨rfl, hw⟩ := hw
    have hP : va_P (dC, dI) vwCl (mw ar cy st sl) _ := hP
    rcases hw with ⟨rfl, hf5⟩ | ⟨n6, rfl, hf7, hf8⟩
    · refine va_put (D := (dC, dI)) (ci := 11) (v := .int (-1)) (ty := .int) (C := RX12) (T := TX12) (N := 47) hx hb hts ii_X12_readNamed tyX12 tyX12_ok nmX12 hown hK hP (mD hN _ _ _ _) hS 0 rfl rfl 13 (by decide) (hts _ mm_X12_readNamed_3) (fun _ hh => hh) rfl (by decide +kernel) rfl rfl (Nat.le_of_ble_eq_true rfl) dX12_readNamed_27 (fun H locs hP _ hS => ?_)
      have hP : va_P (dC, dI) vwCl (mw ar cy (up2 st 0 13 (-1)) sl) H := hP
      obtain ⟨st9, est9⟩ : ∃ y, y = up2 st 0 13 (-1) := ⟨_, rfl⟩
      have hG : MG [1, 2, 3, 6, 7, 8, 9, 10, 11, 12, 13, 14, 15, 20, 21, 22] st st9 := by rw [est9]; exact hG.up (rz (by decide : mr 0 13 = 0)) (pn (by decide : pcl 0 13 = 16) (by decide))
      rw [← est9] at hP
      have hF : FM 2 st sl st9 sl := by rw [est9]; exact hF.up (by decide)
      have hT : TM B g m p st9 sl := by rw [est9]; exact hT.up (by omega)
      have hR : RN c nm st9 sl := by rw [est9]; exact hR.up (by omega)
      refine lv_aload_n hx hb dX12_readNamed_30 rfl (lv_at hl 0 rfl) ?_
      refine va_get (D := (dC, dI)) (ci := 11) (v := .int (st9 0 13)) (C := RX12) (T := TX12) (N := 47) hx hb hts ii_X12_readNamed hown hK hP 0 rfl rfl 13 (by decide) (hts _ mm_X12_readNamed_3) (fun _ hh => hh) rfl dX12_readNamed_31 ?_
      refine zz_top (v := (-1)) (by show st9 0 13 = _; rw [est9, up2_same]) ?_
      refine lv_iconst (v := (-1)) hx hb dX12_readNamed_34 (by decide) ?_
      refine lv_icmp_ne (tgt := 44) hx hb dX12_readNamed_35 (by decide) (fun cc => absurd (by decide) cc) (fun _ => ?_)
      refine lv_aload_n hx hb dX12_readNamed_38 rfl (lv_at hl 0 rfl) ?_
      refine lv_iconst (v := 3) hx hb dX12_readNamed_39 (by decide) ?_
      refine va_calli (va_runV (As := [.int 3]) (rest := []) ⟨hx, hb, hml, hown, hts⟩ (f_bad l dC dI ar cy _ hN st9 sl 3 B g m p (by omega) hG.1 (MBt.fr hB hF) hT) (cwV 1 hts gX12_readNamed_X12_bad rfl rfl rfl (by decide +kernel) ⟨Nat.le_of_ble_eq_true rfl, Nat.le_of_ble_eq_true rfl⟩) ⟨fun a U g mk q => ⟨q.1, mPre.blind q.2⟩, va_recv hK hP (ci := 11) (q0 := 0) rfl rfl, fun U hU hW => ⟨rfl, mPre.of hP hK hU hW⟩⟩ rfl rfl hl.1 rfl (lv_room (Nat.le_of_ble_eq_true rfl)) dX12_readNamed_40 ⟨Nat.le_of_ble_eq_true rfl, Nat.le_of_ble_eq_true rfl⟩) hS (fun q _ h => MA.le hS.1 q h) (MA.le hS.1) (fun r10 x t H locs ht hvm hw hB9 _ _ hS => ?_)
      have hP := mB.at ht hB9
      clear hB9 ht hvm
      obtain ⟨st11, sl12⟩ := x
      obtain ⟨hG2, hF2, hw⟩ := hw
      dsimp only at hG2 hF2 hw
      have hP : va_P (dC, dI) vwCl (mw ar cy st11 sl12) _ := hP
      have hG : MG [1, 2, 3, 6, 7, 8, 9, 10, 11, 12, 13, 14, 15, 20, 21, 22] st st11 := hG.tr hG2 (by decide)
      have hFst11 : FM 2 st9 sl st11 sl12 := hF2
      have hF : FM 2 st sl st11 sl12 := hF.tr hFst11 (by omega) (by omega)
      clear hG2 hF2
      have hR : RN c nm st11 sl12 := hR.fr hFst11
      obtain ⟨rfl, hf13, hf14, hT⟩ := hw
      have hp9 := hT.2.2.2.2.2.2
      have hk1 := tkd_lt (B := B) (g := g) (m := m) (p := p)
      have hk2 := tkx_le (B := B) (g := g) (m := m) (p := p) hp9
      have hk3 := tka_le (B := B) (g := g) (m := m) (p := p) hp9 hB.2.2.1
      have hk4 := tkv_lt (p := p) hB hp9
      have hk5 := tkw_lt (B := B) (g := g) (m := m) (p := p)
      exact W.zret (v := 0) hx hb hr rfl (fun t ht hW => ⟨⟨0, (st11, sl12), rfl, ⟨hG, hF, Or.inr (⟨3, (tka B g m p), rfl, by show st11 0 10 = _; rw [hf13, bdk_n (by omega)], by show st11 0 11 = _; rw [hf14], by omega, fun k => by unfold eOne; rw [if_neg (by omega), if_pos (knw_f _ (hR0.nk (a := 0) (by decide) (fun i hi => by rw [← (hT0.2.2.2.2.2.1 (by omega))]; exact (fun i (hi : i < c 0) => hf5 i (by omega)) i hi)))]⟩)⟩, mB.of ht hP⟩, hS.F ht⟩) hS.2.2 dX12_readNamed_43
    · refine va_put (D := (dC, dI)) (ci := 11) (v := .int (nI n6)) (ty := .int) (C := RX12) (T := TX12) (N := 47) hx hb hts ii_X12_readNamed tyX12 tyX12_ok nmX12 hown hK hP (mD hN _ _ _ _) hS 0 rfl rfl 13 (by decide) (hts _ mm_X12_readNamed_3) (fun _ hh => hh) rfl (by decide +kernel) rfl rfl (Nat.le_of_ble_eq_true rfl) dX12_readNamed_27 (fun H locs hP _ hS => ?_)
      have hP : va_P (dC, dI) vwCl (mw ar cy (up2 st 0 13 (nI n6)) sl) H := hP
      obtain ⟨st15, est15⟩ : ∃ y, y = up2 st 0 13 (nI n6) := ⟨_, rfl⟩
      have hG : MG [1, 2, 3, 6, 7, 8, 9, 10, 11, 12, 13, 14, 15, 20, 21, 22] st st15 := by rw [est15]; exact hG.up (rz (by decide : mr 0 13 = 0)) (pn (by decide : pcl 0 13 = 16) (by decide))
      rw [← est15] at hP
      have hF : FM 2 st sl st15 sl := by rw [est15]; exact hF.up (by decide)
      have hT : TM B g m p st15 sl := by rw [est15]; exact hT.up (by omega)
      have hR : RN c nm st15 sl := by rw [est15]; exact hR.up (by omega)
      refine lv_aload_n hx hb dX12_readNamed_30 rfl (lv_at hl 0 rfl) ?_
      refine va_get (D := (dC, dI)) (ci := 11) (v := .int (st15 0 13)) (C := RX12) (T := TX12) (N := 47) hx hb hts ii_X12_readNamed hown hK hP 0 rfl rfl 13 (by decide) (hts _ mm_X12_readNamed_3) (fun _ hh => hh) rfl dX12_readNamed_31 ?_
      refine zz_top (v := (nI n6)) (by show st15 0 13 = _; rw [est15, up2_same]) ?_
      refine lv_iconst (v := (-1)) hx hb dX12_readNamed_34 (by decide) ?_
      refine lv_icmp_ne (tgt := 44) hx hb dX12_readNamed_35 (by decide) (fun _ => ?_) (fun cc => absurd cc (nI_nem (by omega)))
      refine lv_aload_n hx hb dX12_readNamed_44 rfl (lv_at hl 0 rfl) ?_
      refine va_callv (va_runV (As := []) (rest := []) ⟨hx, hb, hml, hown, hts⟩ (f_go l dC dI ar cy _ hN st15 sl B g m (tkx B g m p) hG.1 (MBt.fr hB hF) hT.1 hk2.2) (cwV 0 hts gX12_readNamed_X12_go rfl rfl rfl (by decide +kernel) ⟨Nat.le_of_ble_eq_true rfl, Nat.le_of_ble_eq_true rfl⟩) ⟨fun a U g mk q => ⟨q.1, mPre.blind q.2⟩, va_recv hK hP (ci := 11) (q0 := 0) rfl rfl, fun U hU hW => ⟨rfl, mPre.of hP hK hU hW⟩⟩ rfl rfl hl.1 rfl (lv_room (Nat.le_of_ble_eq_true rfl)) dX12_readNamed_45 ⟨Nat.le_of_ble_eq_true rfl, Nat.le_of_ble_eq_true rfl⟩) hS (fun q _ h => MA.le hS.1 q h) (MA.le hS.1) (fun x t H locs ht hvm hw hB9 _ _ hS => ?_)
      have hP := mB.at ht hB9
      clear hB9 ht hvm
      obtain ⟨st17, sl18⟩ := x
      obtain ⟨hG2, hF2, hw⟩ := hw
      dsimp only at hG2 hF2 hw
      have hP : va_P (dC, dI) vwCl (mw ar cy st17 sl18) _ := hP
      have hG : MG [1, 2, 3, 6, 7, 8, 9, 10, 11, 12, 13, 14, 15, 20, 21, 22] st st17 := hG.tr hG2 (by decide)
      have hFst17 : FM 1 st15 sl st17 sl18 := hF2
      have hF : FM 2 st sl st17 sl18 := hF.tr hFst17 (by omega) (by omega)
      clear hG2 hF2
      have hR : RN c nm st17 sl18 := hR.fr hFst17
      have hT := hw
      have hp9 := hT.2.2.2.2.2.2
      have hk1 := tkd_lt (B := B) (g := g) (m := m) (p := (tkx B g m p))
      have hk2 := tkx_le (B := B) (g := g) (m := m) (p := (tkx B g m p)) hp9
      have hk3 := tka_le (B := B) (g := g) (m := m) (p := (tkx B g m p)) hp9 hB.2.2.1
      have hk4 := tkv_lt (p := (tkx B g m p)) hB hp9
      have hk5 := tkw_lt (B := B) (g := g) (m := m) (p := (tkx B g m p))
      refine lv_iconst (v := 1) hx hb dX12_readNamed_48 (by decide) ?_
      exact W.zret (v := 1) hx hb hr rfl (fun t ht hW => ⟨⟨1, (st17, sl18), rfl, ⟨hG, hF, Or.inl (⟨n6, rfl, by omega, by show st17 0 13 = _; rw [(hFst17 0 13 (by decide)).1, est15, up2_same], hT, fun k => by unfold eOne; rw [if_neg (by omega), if_neg (by rw [knw_t (n := c 0) (i := n6) (show n6 < c 0 by omega) (hR0.kn (a := 0) (by decide) (show n6 < c 0 by omega) (tkc_V (m := m) (by omega) hB1 (by omega)) (hf8.trans (hT0.2.2.2.2.2.1 (by omega))))]; decide)], by show st17 0 10 = st 0 10; rw [(hFst17 0 10 (by decide)).1, est15, up2_ne (r := 0) (k := 13) (a := 0) (j := 10) _ _ (by omega)]⟩)⟩, mB.of ht hP⟩, hS.F ht⟩) hS.2.2 dX12_readNamed_49
  · refine lv_if_ne (tgt := 13) hx hb dX12_readNamed_4 (by decide) (fun cc => absurd (by decide) cc) (fun _ => ?_)
    refine lv_aload_n hx hb dX12_readNamed_7 rfl (lv_at hl 0 rfl) ?_
    refine lv_iconst (v := 1) hx hb dX12_readNamed_8 (by decide) ?_
    refine va_calli (va_runV (As := [.int 1]) (rest := []) ⟨hx, hb, hml, hown, hts⟩ (f_bad l dC dI ar cy _ hN st sl 1 B g m p (by omega) hG.1 (MBt.fr hB hF) hT) (cwV 1 hts gX12_readNamed_X12_bad rfl rfl rfl (by decide +kernel) ⟨Nat.le_of_ble_eq_true rfl, Nat.le_of_ble_eq_true rfl⟩) ⟨fun a U g mk q => ⟨q.1, mPre.blind q.2⟩, va_recv hK hP (ci := 11) (q0 := 0) rfl rfl, fun U hU hW => ⟨rfl, mPre.of hP hK hU hW⟩⟩ rfl rfl hl.1 rfl (lv_room (Nat.le_of_ble_eq_true rfl)) dX12_readNamed_9 ⟨Nat.le_of_ble_eq_true rfl, Nat.le_of_ble_eq_true rfl⟩) hS (fun q _ h => MA.le hS.1 q h) (MA.le hS.1) (fun r19 x t H locs ht hvm hw hB9 _ _ hS => ?_)
    have hP := mB.at ht hB9
    clear hB9 ht hvm
    obtain ⟨st20, sl21⟩ := x
    obtain ⟨hG2, hF2, hw⟩ := hw
    dsimp only at hG2 hF2 hw
    have hP : va_P (dC, dI) vwCl (mw ar cy st20 sl21) _ := hP
    have hG : MG [1, 2, 3, 6, 7, 8, 9, 10, 11, 12, 13, 14, 15, 20, 21, 22] st st20 := hG.tr hG2 (by decide)
    have hFst20 : FM 2 st sl st20 sl21 := hF2
    have hF : FM 2 st sl st20 sl21 := hF.tr hFst20 (by omega) (by omega)
    clear hG2 hF2
    have hR : RN c nm st20 sl21 := hR.fr hFst20
    obtain ⟨rfl, hf22, hf23, hT⟩ := hw
    have hp9 := hT.2.2.2.2.2.2
    have hk1 := tkd_lt (B := B) (g := g) (m := m) (p := p)
    have hk2 := tkx_le (B := B) (g := g) (m := m) (p := p) hp9
    have hk3 := tka_le (B := B) (g := g) (m := m) (p := p) hp9 hB.2.2.1
    have hk4 := tkv_lt (p := p) hB hp9
    have hk5 := tkw_lt (B := B) (g := g) (m := m) (p := p)
    exact W.zret (v := 0) hx hb hr rfl (fun t ht hW => ⟨⟨0, (st20, sl21), rfl, ⟨hG, hF, Or.inr (⟨1, (tka B g m p), rfl, by show st20 0 10 = _; rw [hf22, bdk_1], by show st20 0 11 = _; rw [hf23], by omega, fun k => by unfold eOne; rw [if_pos (by omega)]⟩)⟩, mB.of ht hP⟩, hS.F ht⟩) hS.2.2 dX12_readNamed_12
set_option maxHeartbeats 4000000 in
set_option maxRecDepth 100000 in
theorem f_readNamed1 (l : Launch) (dC : Nat → ClassId) (dI : Nat → Nat → Nat) (ar : Nat → Nat) (cy : Nat → ClassId) (sz : Nat) (hN : MN ar) (st : Nat → Nat → Int32) (sl : Nat → Nat → Int64) (vn : Nat) (B : Nat → Nat) (g m : Nat) (p : Nat) (c : Nat → Nat) (nm : Nat → Nat → Nat) (hvn : vn < 9) (hI : MI st) (hB : MBt B g m st) (hT : TM B g m p st sl) (hR : RN c nm st sl) (hvn : vn = c 1) : Met l yX12_readNamed wsX12_readNamed ({ frames := 3, cells := 0, slots := 0, locals := 69 }) (va_Pc [.ref (ar 0), .int 5, .int (nI vn)] (mPre dC dI ar cy sz st sl)) (va_Qi (fun (r : Int32) (x : MT) => MG [1, 2, 3, 6, 7, 8, 9, 10, 11, 12, 13, 14, 15, 20, 21, 22] st x.1 ∧ FM 2 st sl x.1 x.2 ∧ ((∃ n : Nat, r = 1 ∧ n < vn ∧ x.1 0 13 = nI n ∧ TM B g m (tkx B g m p) x.1 x.2 ∧ (∀ k, eOne B g m p (c 1) (nm 1) k = k (tkx B g m p)) ∧ x.1 0 10 = st 0 10) ∨ (∃ f : Nat, ∃ a : Nat, r = 0 ∧ x.1 0 10 = nI f ∧ x.1 0 11 = nI a ∧ 1 ≤ f ∧ (∀ k, eOne B g m p (c 1) (nm 1) k = fl f a)))) (mB dC dI ar cy) (MA ar sz)) 0 0 (MA ar sz) := by
  refine Met.ofW (cc := cX12_readNamed) (maxL := 3) (ret := (some .boolean)) (by decide) rfl ?_
  intro p9 e s m9 args below meth c9 s₁ B9 hml hv
  obtain ⟨rfl, hsz, hP, hK⟩ := hv
  have hx := B9.exec
  have hb := B9.bytes
  have hr := B9.returns
  have hts := atoms_spec (ws := wsX12_readNamed) B9.pre
  have hown : s.vm.findClass RX12 = some m9.cls := findClass_of_methodNamed B9.named
  subst hsz
  have hS : va_S (MA ar s.heap.size) s.heap s.heap [] := va_S.rf
  have hG : MG [1, 2, 3, 6, 7, 8, 9, 10, 11, 12, 13, 14, 15, 20, 21, 22] st st := MG.rf hI
  have hl := lv_entry ([.ref (ar 0), .int 5, .int (nI vn)]) (n := 3) (Nat.le_of_ble_eq_true rfl)
  rw [lg_entry_eq]
  generalize (lg_sl ([.ref (ar 0), .int 5, .int (nI vn)]) ++ List.replicate (3 - (lg_sl ([.ref (ar 0), .int 5, .int (nI vn)])).length) Slot.unset).toArray = ls at hl ⊢
  have hl : lv_has ls 3 [(0, .ref (ar 0)), (1, .int 5), (2, .int (nI vn))] := hl
  clear hI
  have hB1 := hB.2.2.1
  have hB2 := hB.2.2.2.1
  have hF : FM 2 st sl st sl := FM.rf
  have hp9 := hT.2.2.2.2.2.2
  have hk1 := tkd_lt (B := B) (g := g) (m := m) (p := p)
  have hk2 := tkx_le (B := B) (g := g) (m := m) (p := p) hp9
  have hk3 := tka_le (B := B) (g := g) (m := m) (p := p) hp9 hB.2.2.1
  have hk4 := tkv_lt (p := p) hB hp9
  have hk5 := tkw_lt (B := B) (g := g) (m := m) (p := p)
  have hR9 := hR.2.1
  have hT0 := hT
  have hR0 := hR
  have hw25 := @tkw_d B g m p
  refine lv_aload_n hx hb dX12_readNamed_0 rfl (lv_at hl 0 rfl) ?_
  refine va_calli (va_runV (As := []) (rest := []) ⟨hx, hb, hml, hown, hts⟩ (f_isName l dC dI ar cy _ hN st sl B g m p hG.1 (MBt.fr hB hF) hT) (cwV 0 hts gX12_readNamed_X12_isName rfl rfl rfl (by decide +kernel) ⟨Nat.le_of_ble_eq_true rfl, Nat.le_of_ble_eq_true rfl⟩) ⟨fun a U g mk q => ⟨q.1, mPre.blind q.2⟩, va_recv hK hP (ci := 11) (q0 := 0) rfl rfl, fun U hU hW => ⟨rfl, mPre.of hP hK hU hW⟩⟩ rfl rfl hl.1 rfl (lv_room (Nat.le_of_ble_eq_true rfl)) dX12_readNamed_1 ⟨Nat.le_of_ble_eq_true rfl, Nat.le_of_ble_eq_true rfl⟩) hS (fun q _ h => MA.le hS.1 q h) (MA.le hS.1) (fun r1 x t H locs ht hvm hw hB9 _ _ hS => ?_)
  have hP := mB.at ht hB9
  clear hB9 ht hvm
  obtain ⟨rfl, hw⟩ := hw
  have hP : va_P (dC, dI) vwCl (mw ar cy st sl) _ := hP
  rcases hw with ⟨rfl, hf2⟩ | ⟨rfl, hf3⟩
  · refine lv_if_ne (tgt := 13) hx hb dX12_readNamed_4 (by decide) (fun _ => ?_) (fun cc => absurd cc (by decide))
    refine lv_aload_n hx hb dX12_readNamed_13 rfl (lv_at hl 0 rfl) ?_
    refine lv_aload_n hx hb dX12_readNamed_14 rfl (lv_at hl 0 rfl) ?_
    refine va_get (D := (dC, dI)) (ci := 11) (v := .ref (ar 7)) (C := RX12) (T := TX12) (N := 47) hx hb hts ii_X12_readNamed hown hK hP 0 rfl rfl 19 (by decide) (hts _ mm_X12_readNamed_1) (fun _ hh => hh) rfl dX12_readNamed_15 ?_
    refine lv_iload_n hx hb dX12_readNamed_18 rfl (lv_at hl 1 rfl) ?_
    refine lv_iload_n hx hb dX12_readNamed_19 rfl (lv_at hl 2 rfl) ?_
    refine lv_aload_n hx hb dX12_readNamed_20 rfl (lv_at hl 0 rfl) ?_
    refine va_get (D := (dC, dI)) (ci := 11) (v := .long (sl 0 12)) (C := RX12) (T := TX12) (N := 47) hx hb hts ii_X12_readNamed hown hK hP 0 rfl rfl 12 (by decide) (hts _ mm_X12_readNamed_2) (fun _ hh => hh) rfl dX12_readNamed_21 ?_
    refine va_calli (va_runS (As := [.ref (ar 7), .int 5, .int (nI vn), .long (sl 0 12)]) (rest := [.ref (ar 0)]) ⟨hx, hb, hml, hown, hts⟩ (f_findIm1 l dC dI ar cy _ hN st sl vn (sl 0 12) (by omega) hG.1 ) (va_cwS 4 hts gX12_readNamed_X12_findIn rfl rfl rfl (by decide +kernel) ⟨Nat.le_of_ble_eq_true rfl, Nat.le_of_ble_eq_true rfl⟩) ⟨fun a U g mk q => ⟨q.1, mPre.blind q.2⟩, fun U hU hW => ⟨rfl, mPre.of hP hK hU hW⟩⟩ rfl rfl hl.1 rfl (lv_room (Nat.le_of_ble_eq_true rfl)) dX12_readNamed_24 ⟨Nat.le_of_ble_eq_true rfl, Nat.le_of_ble_eq_true rfl⟩) hS (fun q _ h => MA.le hS.1 q h) (MA.le hS.1) (fun r4 x t H locs ht hvm hw hB9 _ _ hS => ?_)
    have hP := mB.at ht hB9
    clear hB9 ht hvm
    obtain ⟨rfl, hw⟩ := hw
    have hP : va_P (dC, dI) vwCl (mw ar cy st sl) _ := hP
    rcases hw with ⟨rfl, hf5⟩ | ⟨n6, rfl, hf7, hf8⟩
    · refine va_put (D := (dC, dI)) (ci := 11) (v := .int (-1)) (ty := .int) (C := RX12) (T := TX12) (N := 47) hx hb hts ii_X12_readNamed tyX12 tyX12_ok nmX12 hown hK hP (mD hN _ _ _ _) hS 0 rfl rfl 13 (by decide) (hts _ mm_X12_readNamed_3) (fun _ hh => hh) rfl (by decide +kernel) rfl rfl (Nat.le_of_ble_eq_true rfl) dX12_readNamed_27 (fun H locs hP _ hS => ?_)
      have hP : va_P (dC, dI) vwCl (mw ar cy (up2 st 0 13 (-1)) sl) H := hP
      obtain ⟨st9, est9⟩ : ∃ y, y = up2 st 0 13 (-1) := ⟨_, rfl⟩
      have hG : MG [1, 2, 3, 6, 7, 8, 9, 10, 11, 12, 13, 14, 15, 20, 21, 22] st st9 := by rw [est9]; exact hG.up (rz (by decide : mr 0 13 = 0)) (pn (by decide : pcl 0 13 = 16) (by decide))
      rw [← est9] at hP
      have hF : FM 2 st sl st9 sl := by rw [est9]; exact hF.up (by decide)
      have hT : TM B g m p st9 sl := by rw [est9]; exact hT.up (by omega)
      have hR : RN c nm st9 sl := by rw [est9]; exact hR.up (by omega)
      refine lv_aload_n hx hb dX12_readNamed_30 rfl (lv_at hl 0 rfl) ?_
      refine va_get (D := (dC, dI)) (ci := 11) (v := .int (st9 0 13)) (C := RX12) (T := TX12) (N := 47) hx hb hts ii_X12_readNamed hown hK hP 0 rfl rfl 13 (by decide) (hts _ mm_X12_readNamed_3) (fun _ hh => hh) rfl dX12_readNamed_31 ?_
      refine zz_top (v := (-1)) (by show st9 0 13 = _; rw [est9, up2_same]) ?_
      refine lv_iconst (v := (-1)) hx hb dX12_readNamed_34 (by decide) ?_
      refine lv_icmp_ne (tgt := 44) hx hb dX12_readNamed_35 (by decide) (fun cc => absurd (by decide) cc) (fun _ => ?_)
      refine lv_aload_n hx hb dX12_readNamed_38 rfl (lv_at hl 0 rfl) ?_
      refine lv_iconst (v := 3) hx hb dX12_readNamed_39 (by decide) ?_
      refine va_calli (va_runV (As := [.int 3]) (rest := []) ⟨hx, hb, hml, hown, hts⟩ (f_bad l dC dI ar cy _ hN st9 sl 3 B g m p (by omega) hG.1 (MBt.fr hB hF) hT) (cwV 1 hts gX12_readNamed_X12_bad rfl rfl rfl (by decide +kernel) ⟨Nat.le_of_ble_eq_true rfl, Nat.le_of_ble_eq_true rfl⟩) ⟨fun a U g mk q => ⟨q.1, mPre.blind q.2⟩, va_recv hK hP (ci := 11) (q0 := 0) rfl rfl, fun U hU hW => ⟨rfl, mPre.of hP hK hU hW⟩⟩ rfl rfl hl.1 rfl (lv_room (Nat.le_of_ble_eq_true rfl)) dX12_readNamed_40 ⟨Nat.le_of_ble_eq_true rfl, Nat.le_of_ble_eq_true rfl⟩) hS (fun q _ h => MA.le hS.1 q h) (MA.le hS.1) (fun r10 x t H locs ht hvm hw hB9 _ _ hS => ?_)
      have hP := mB.at ht hB9
      clear hB9 ht hvm
      obtain ⟨st11, sl12⟩ := x
      obtain ⟨hG2, hF2, hw⟩ := hw
      dsimp only at hG2 hF2 hw
      have hP : va_P (dC, dI) vwCl (mw ar cy st11 sl12) _ := hP
      have hG : MG [1, 2, 3, 6, 7, 8, 9, 10, 11, 12, 13, 14, 15, 20, 21, 22] st st11 := hG.tr hG2 (by decide)
      have hFst11 : FM 2 st9 sl st11 sl12 := hF2
      have hF : FM 2 st sl st11 sl12 := hF.tr hFst11 (by omega) (by omega)
      clear hG2 hF2
      have hR : RN c nm st11 sl12 := hR.fr hFst11
      obtain ⟨rfl, hf13, hf14, hT⟩ := hw
      have hp9 := hT.2.2.2.2.2.2
      have hk1 := tkd_lt (B := B) (g := g) (m := m) (p := p)
      have hk2 := tkx_le (B := B) (g := g) (m := m) (p := p) hp9
      have hk3 := tka_le (B := B) (g := g) (m := m) (p := p) hp9 hB.2.2.1
      have hk4 := tkv_lt (p := p) hB hp9
      have hk5 := tkw_lt (B := B) (g := g) (m := m) (p := p)
      exact W.zret (v := 0) hx hb hr rfl (fun t ht hW => ⟨⟨0, (st11, sl12), rfl, ⟨hG, hF, Or.inr (⟨3, (tka B g m p), rfl, by show st11 0 10 = _; rw [hf13, bdk_n (by omega)], by show st11 0 11 = _; rw [hf14], by omega, fun k => by unfold eOne; rw [if_neg (by omega), if_pos (knw_f _ (hR0.nk (a := 1) (by decide) (fun i hi => by rw [← (hT0.2.2.2.2.2.1 (by omega))]; exact (fun i (hi : i < c 1) => hf5 i (by omega)) i hi)))]⟩)⟩, mB.of ht hP⟩, hS.F ht⟩) hS.2.2 dX12_readNamed_43
    · refine va_put (D := (dC, dI)) (ci := 11) (v := .int (nI n6)) (ty := .int) (C := RX12) (T := TX12) (N := 47) hx hb hts ii_X12_readNamed tyX12 tyX12_ok nmX12 hown hK hP (mD hN _ _ _ _) hS 0 rfl rfl 13 (by decide) (hts _ mm_X12_readNamed_3) (fun _ hh => hh) rfl (by decide +kernel) rfl rfl (Nat.le_of_ble_eq_true rfl) dX12_readNamed_27 (fun H locs hP _ hS => ?_)
      have hP : va_P (dC, dI) vwCl (mw ar cy (up2 st 0 13 (nI n6)) sl) H := hP
      obtain ⟨st15, est15⟩ : ∃ y, y = up2 st 0 13 (nI n6) := ⟨_, rfl⟩
      have hG : MG [1, 2, 3, 6, 7, 8, 9, 10, 11, 12, 13, 14, 15, 20, 21, 22] st st15 := by rw [est15]; exact hG.up (rz (by decide : mr 0 13 = 0)) (pn (by decide : pcl 0 13 = 16) (by decide))
      rw [← est15] at hP
      have hF : FM 2 st sl st15 sl := by rw [est15]; exact hF.up (by decide)
      have hT : TM B g m p st15 sl := by rw [est15]; exact hT.up (by omega)
      have hR : RN c nm st15 sl := by rw [est15]; exact hR.up (by omega)
      refine lv_aload_n hx hb dX12_readNamed_30 rfl (lv_at hl 0 rfl) ?_
      refine va_get (D := (dC, dI)) (ci := 11) (v := .int (st15 0 13)) (C := RX12) (T := TX12) (N := 47) hx hb hts ii_X12_readNamed hown hK hP 0 rfl rfl 13 (by decide) (hts _ mm_X12_readNamed_3) (fun _ hh => hh) rfl dX12_readNamed_31 ?_
      refine zz_top (v := (nI n6)) (by show st15 0 13 = _; rw [est15, up2_same]) ?_
      refine lv_iconst (v := (-1)) hx hb dX12_readNamed_34 (by decide) ?_
      refine lv_icmp_ne (tgt := 44) hx hb dX12_readNamed_35 (by decide) (fun _ => ?_) (fun cc => absurd cc (nI_nem (by omega)))
      refine lv_aload_n hx hb dX12_readNamed_44 rfl (lv_at hl 0 rfl) ?_
      refine va_callv (va_runV (As := []) (rest := []) ⟨hx, hb, hml, hown, hts⟩ (f_go l dC dI ar cy _ hN st15 sl B g m (tkx B g m p) hG.1 (MBt.fr hB hF) hT.1 hk2.2) (cwV 0 hts gX12_readNamed_X12_go rfl rfl rfl (by decide +kernel) ⟨Nat.le_of_ble_eq_true rfl, Nat.le_of_ble_eq_true rfl⟩) ⟨fun a U g mk q => ⟨q.1, mPre.blind q.2⟩, va_recv hK hP (ci := 11) (q0 := 0) rfl rfl, fun U hU hW => ⟨rfl, mPre.of hP hK hU hW⟩⟩ rfl rfl hl.1 rfl (lv_room (Nat.le_of_ble_eq_true rfl)) dX12_readNamed_45 ⟨Nat.le_of_ble_eq_true rfl, Nat.le_of_ble_eq_true rfl⟩) hS (fun q _ h => MA.le hS.1 q h) (MA.le hS.1) (fun x t H locs ht hvm hw hB9 _ _ hS => ?_)
      have hP := mB.at ht hB9
      clear hB9 ht hvm
      obtain ⟨st17, sl18⟩ := x
      obtain ⟨hG2, hF2, hw⟩ := hw
      dsimp only at hG2 hF2 hw
      have hP : va_P (dC, dI) vwCl (mw ar cy st17 sl18) _ := hP
      have hG : MG [1, 2, 3, 6, 7, 8, 9, 10, 11, 12, 13, 14, 15, 20, 21, 22] st st17 := hG.tr hG2 (by decide)
      have hFst17 : FM 1 st15 sl st17 sl18 := hF2
      have hF : FM 2 st sl st17 sl18 := hF.tr hFst17 (by omega) (by omega)
      clear hG2 hF2
      have hR : RN c nm st17 sl18 := hR.fr hFst17
      have hT := hw
      have hp9 := hT.2.2.2.2.2.2
      have hk1 := tkd_lt (B := B) (g := g) (m := m) (p := (tkx B g m p))
      have hk2 := tkx_le (B := B) (g := g) (m := m) (p := (tkx B g m p)) hp9
      have hk3 := tka_le (B := B) (g := g) (m := m) (p := (tkx B g m p)) hp9 hB.2.2.1
      have hk4 := tkv_lt (p := (tkx B g m p)) hB hp9
      have hk5 := tkw_lt (B := B) (g := g) (m := m) (p := (tkx B g m p))
      refine lv_iconst (v := 1) hx hb dX12_readNamed_48 (by decide) ?_
      exact W.zret (v := 1) hx hb hr rfl (fun t ht hW => ⟨⟨1, (st17, sl18), rfl, ⟨hG, hF, Or.inl (⟨n6, rfl, by omega, by show st17 0 13 = _; rw [(hFst17 0 13 (by decide)).1, est15, up2_same], hT, fun k => by unfold eOne; rw [if_neg (by omega), if_neg (by rw [knw_t (n := c 1) (i := n6) (show n6 < c 1 by omega) (hR0.kn (a := 1) (by decide) (show n6 < c 1 by omega) (tkc_V (m := m) (by omega) hB1 (by omega)) (hf8.trans (hT0.2.2.2.2.2.1 (by omega))))]; decide)], by show st17 0 10 = st 0 10; rw [(hFst17 0 10 (by decide)).1, est15, up2_ne (r := 0) (k := 13) (a := 0) (j := 10) _ _ (by omega)]⟩)⟩, mB.of ht hP⟩, hS.F ht⟩) hS.2.2 dX12_readNamed_49
  · refine lv_if_ne (tgt := 13) hx hb dX12_readNamed_4 (by decide) (fun cc => absurd (by decide) cc) (fun _ => ?_)
    refine lv_aload_n hx hb dX12_readNamed_7 rfl (lv_at hl 0 rfl) ?_
    refine lv_iconst (v := 1) hx hb dX12_readNamed_8 (by decide) ?_
    refine va_calli (va_runV (As := [.int 1]) (rest := []) ⟨hx, hb, hml, hown, hts⟩ (f_bad l dC dI ar cy _ hN st sl 1 B g m p (by omega) hG.1 (MBt.fr hB hF) hT) (cwV 1 hts gX12_readNamed_X12_bad rfl rfl rfl (by decide +kernel) ⟨Nat.le_of_ble_eq_true rfl, Nat.le_of_ble_eq_true rfl⟩) ⟨fun a U g mk q => ⟨q.1, mPre.blind q.2⟩, va_recv hK hP (ci := 11) (q0 := 0) rfl rfl, fun U hU hW => ⟨rfl, mPre.of hP hK hU hW⟩⟩ rfl rfl hl.1 rfl (lv_room (Nat.le_of_ble_eq_true rfl)) dX12_readNamed_9 ⟨Nat.le_of_ble_eq_true rfl, Nat.le_of_ble_eq_true rfl⟩) hS (fun q _ h => MA.le hS.1 q h) (MA.le hS.1) (fun r19 x t H locs ht hvm hw hB9 _ _ hS => ?_)
    have hP := mB.at ht hB9
    clear hB9 ht hvm
    obtain ⟨st20, sl21⟩ := x
    obtain ⟨hG2, hF2, hw⟩ := hw
    dsimp only at hG2 hF2 hw
    have hP : va_P (dC, dI) vwCl (mw ar cy st20 sl21) _ := hP
    have hG : MG [1, 2, 3, 6, 7, 8, 9, 10, 11, 12, 13, 14, 15, 20, 21, 22] st st20 := hG.tr hG2 (by decide)
    have hFst20 : FM 2 st sl st20 sl21 := hF2
    have hF : FM 2 st sl st20 sl21 := hF.tr hFst20 (by omega) (by omega)
    clear hG2 hF2
    have hR : RN c nm st20 sl21 := hR.fr hFst20
    obtain ⟨rfl, hf22, hf23, hT⟩ := hw
    have hp9 := hT.2.2.2.2.2.2
    have hk1 := tkd_lt (B := B) (g := g) (m := m) (p := p)
    have hk2 := tkx_le (B := B) (g := g) (m := m) (p := p) hp9
    have hk3 := tka_le (B := B) (g := g) (m := m) (p := p) hp9 hB.2.2.1
    have hk4 := tkv_lt (p := p) hB hp9
    have hk5 := tkw_lt (B := B) (g := g) (m := m) (p := p)
    exact W.zret (v := 0) hx hb hr rfl (fun t ht hW => ⟨⟨0, (st20, sl21), rfl, ⟨hG, hF, Or.inr (⟨1, (tka B g m p), rfl, by show st20 0 10 = _; rw [hf22, bdk_1], by show st20 0 11 = _; rw [hf23], by omega, fun k => by unfold eOne; rw [if_pos (by omega)]⟩)⟩, mB.of ht hP⟩, hS.F ht⟩) hS.2.2 dX12_readNamed_12
set_option maxHeartbeats 4000000 in
set_option maxRecDepth 100000 in
theorem f_saysOne (l : Launch) (dC : Nat → ClassId) (dI : Nat → Nat → Nat) (ar : Nat → Nat) (cy : Nat → ClassId) (sz : Nat) (hN : MN ar) (st : Nat → Nat → Int32) (sl : Nat → Nat → Int64) (va : Int32) (vb : Int32) (vc : Int32) (vd : Int32) (B : Nat → Nat) (g m : Nat) (p : Nat) (gn : Nat) (hI : MI st) (hB : MBt B g m st) (hT : TM B g m p st sl) (h43 : st 0 43 = nI gn) (hgn : gn < 60) : Met l yX12_saysOne wsX12_saysOne ({ frames := 0, cells := 0, slots := 0, locals := 0 }) (va_Pc [.ref (ar 0), .int va, .int vb, .int vc, .int vd] (mPre dC dI ar cy sz st sl)) (va_Qi (fun (r : Int32) (x : MT) => MG [1, 2, 3, 4, 5, 6, 7, 10, 11, 12, 13, 14, 15, 16, 17, 19, 20, 21, 22, 23] st x.1 ∧ FM 5 st sl x.1 x.2 ∧ (∃ n : Nat, r = nI n ∧ n = gn ∧ x.1 0 43 = nI (gn + 1) ∧ TM B g m p x.1 x.2 ∧ x.1 0 10 = st 0 10)) (mB dC dI ar cy) (MA ar sz)) 0 0 (MA ar sz) := by
  refine Met.ofW (cc := cX12_saysOne) (maxL := 6) (ret := (some .int)) (by decide) rfl ?_
  intro p9 e s m9 args below meth c9 s₁ B9 hml hv
  obtain ⟨rfl, hsz, hP, hK⟩ := hv
  have hx := B9.exec
  have hb := B9.bytes
  have hr := B9.returns
  have hts := atoms_spec (ws := wsX12_saysOne) B9.pre
  have hown : s.vm.findClass RX12 = some m9.cls := findClass_of_methodNamed B9.named
  subst hsz
  have hS : va_S (MA ar s.heap.size) s.heap s.heap [] := va_S.rf
  have hG : MG [1, 2, 3, 4, 5, 6, 7, 10, 11, 12, 13, 14, 15, 16, 17, 19, 20, 21, 22, 23] st st := MG.rf hI
  have hl := lv_entry ([.ref (ar 0), .int va, .int vb, .int vc, .int vd]) (n := 6) (Nat.le_of_ble_eq_true rfl)
  rw [lg_entry_eq]
  generalize (lg_sl ([.ref (ar 0), .int va, .int vb, .int vc, .int vd]) ++ List.replicate (6 - (lg_sl ([.ref (ar 0), .int va, .int vb, .int vc, .int vd])).length) Slot.unset).toArray = ls at hl ⊢
  have hl : lv_has ls 6 [(0, .ref (ar 0)), (1, .int va), (2, .int vb), (3, .int vc), (4, .int vd)] := hl
  clear hI
  have hB1 := hB.2.2.1
  have hB2 := hB.2.2.2.1
  have hF : FM 5 st sl st sl := FM.rf
  have hp9 := hT.2.2.2.2.2.2
  have hk1 := tkd_lt (B := B) (g := g) (m := m) (p := p)
  have hk2 := tkx_le (B := B) (g := g) (m := m) (p := p) hp9
  have hk3 := tka_le (B := B) (g := g) (m := m) (p := p) hp9 hB.2.2.1
  have hk4 := tkv_lt (p := p) hB hp9
  have hk5 := tkw_lt (B := B) (g := g) (m := m) (p := p)
  refine lv_iconst (v := 4) hx hb dX12_saysOne_0 (by decide) ?_
  refine lv_aload_n hx hb dX12_saysOne_1 rfl (lv_at hl 0 rfl) ?_
  refine va_get (D := (dC, dI)) (ci := 11) (v := .int (st 0 43)) (C := RX12) (T := TX12) (N := 47) hx hb hts ii_X12_saysOne hown hK hP 0 rfl rfl 43 (by decide) (hts _ mm_X12_saysOne_1) (fun _ hh => hh) rfl dX12_saysOne_2 ?_
  refine zz_top (v := (nI gn)) (by show st 0 43 = _; rw [h43]) ?_
  refine lv_imul hx hb dX12_saysOne_5 ?_
  refine zz_top (v := nI (4 * gn)) (nI_mul 4 gn) ?_
  refine lv_istore (lv' := [(5, .int (nI (4 * gn))), (0, .ref (ar 0)), (1, .int va), (2, .int vb), (3, .int vc), (4, .int vd)]) hx hb dX12_saysOne_6 hl (by decide) rfl (fun ls hl => ?_)
  refine lv_aload_n hx hb dX12_saysOne_8 rfl (lv_at hl 1 rfl) ?_
  refine va_get (D := (dC, dI)) (ci := 11) (v := .ref (ar 16)) (C := RX12) (T := TX12) (N := 47) hx hb hts ii_X12_saysOne hown hK hP 0 rfl rfl 42 (by decide) (hts _ mm_X12_saysOne_2) (fun _ hh => hh) rfl dX12_saysOne_9 ?_
  refine lv_iload hx hb dX12_saysOne_12 (lv_at hl 0 rfl) ?_
  refine lv_iload_n hx hb dX12_saysOne_14 rfl (lv_at hl 2 rfl) ?_
  refine va_iast hx hb hK hP (mD hN _ _ _ _) hS 16 15 rfl rfl (i := (nI (4 * gn))) (vp_in_nI (by omega) (by decide)) dX12_saysOne_15 (fun H locs hP _ hS => ?_)
  rw [nI_clamp (by omega)] at hP
  have hP : va_P (dC, dI) vwCl (mw ar cy (up2 st 16 (4 * gn) va) sl) H := hP
  obtain ⟨st1, est1⟩ : ∃ y, y = up2 st 16 (4 * gn) va := ⟨_, rfl⟩
  have hG : MG [1, 2, 3, 4, 5, 6, 7, 10, 11, 12, 13, 14, 15, 16, 17, 19, 20, 21, 22, 23] st st1 := by rw [est1]; exact hG.up (rz (mr_16_0_237 (4 * gn) (by omega) (by omega))) (pn (pcl_16_0_237 (4 * gn) (by omega) (by omega)) (by decide))
  rw [← est1] at hP
  have hF : FM 5 st sl st1 sl := by rw [est1]; exact hF.up (dm_nd _).1
  have hT : TM B g m p st1 sl := by rw [est1]; exact hT.up (by omega)
  refine lv_aload_n hx hb dX12_saysOne_16 rfl (lv_at hl 1 rfl) ?_
  refine va_get (D := (dC, dI)) (ci := 11) (v := .ref (ar 16)) (C := RX12) (T := TX12) (N := 47) hx hb hts ii_X12_saysOne hown hK hP 0 rfl rfl 42 (by decide) (hts _ mm_X12_saysOne_2) (fun _ hh => hh) rfl dX12_saysOne_17 ?_
  refine lv_iload hx hb dX12_saysOne_20 (lv_at hl 0 rfl) ?_
  refine lv_iconst (v := 1) hx hb dX12_saysOne_22 (by decide) ?_
  refine lv_iadd hx hb dX12_saysOne_23 ?_
  refine zz_top (v := nI ((4 * gn) + 1)) (nI_add (4 * gn) 1) ?_
  refine lv_iload_n hx hb dX12_saysOne_24 rfl (lv_at hl 3 rfl) ?_
  refine va_iast hx hb hK hP (mD hN _ _ _ _) hS 16 15 rfl rfl (i := (nI ((4 * gn) + 1))) (vp_in_nI (by omega) (by decide)) dX12_saysOne_25 (fun H locs hP _ hS => ?_)
  rw [nI_clamp (by omega)] at hP
  have hP : va_P (dC, dI) vwCl (mw ar cy (up2 st1 16 ((4 * gn) + 1) vb) sl) H := hP
  obtain ⟨st2, est2⟩ : ∃ y, y = up2 st1 16 ((4 * gn) + 1) vb := ⟨_, rfl⟩
  have hG : MG [1, 2, 3, 4, 5, 6, 7, 10, 11, 12, 13, 14, 15, 16, 17, 19, 20, 21, 22, 23] st st2 := by rw [est2]; exact hG.up (rz (mr_16_1_238 ((4 * gn) + 1) (by omega) (by omega))) (pn (pcl_16_1_238 ((4 * gn) + 1) (by omega) (by omega)) (by decide))
  rw [← est2] at hP
  have hF : FM 5 st sl st2 sl := by rw [est2]; exact hF.up (dm_nd _).1
  have hT : TM B g m p st2 sl := by rw [est2]; exact hT.up (by omega)
  refine lv_aload_n hx hb dX12_saysOne_26 rfl (lv_at hl 1 rfl) ?_
  refine va_get (D := (dC, dI)) (ci := 11) (v := .ref (ar 16)) (C := RX12) (T := TX12) (N := 47) hx hb hts ii_X12_saysOne hown hK hP 0 rfl rfl 42 (by decide) (hts _ mm_X12_saysOne_2) (fun _ hh => hh) rfl dX12_saysOne_27 ?_
  refine lv_iload hx hb dX12_saysOne_30 (lv_at hl 0 rfl) ?_
  refine lv_iconst (v := 2) hx hb dX12_saysOne_32 (by decide) ?_
  refine lv_iadd hx hb dX12_saysOne_33 ?_
  refine zz_top (v := nI ((4 * gn) + 2)) (nI_add (4 * gn) 2) ?_
  refine lv_iload_n hx hb dX12_saysOne_34 rfl (lv_at hl 4 rfl) ?_
  refine va_iast hx hb hK hP (mD hN _ _ _ _) hS 16 15 rfl rfl (i := (nI ((4 * gn) + 2))) (vp_in_nI (by omega) (by decide)) dX12_saysOne_35 (fun H locs hP _ hS => ?_)
  rw [nI_clamp (by omega)] at hP
  have hP : va_P (dC, dI) vwCl (mw ar cy (up2 st2 16 ((4 * gn) + 2) vc) sl) H := hP
  obtain ⟨st3, est3⟩ : ∃ y, y = up2 st2 16 ((4 * gn) + 2) vc := ⟨_, rfl⟩
  have hG : MG [1, 2, 3, 4, 5, 6, 7, 10, 11, 12, 13, 14, 15, 16, 17, 19, 20, 21, 22, 23] st st3 := by rw [est3]; exact hG.up (rz (mr_16_2_239 ((4 * gn) + 2) (by omega) (by omega))) (pn (pcl_16_2_239 ((4 * gn) + 2) (by omega) (by omega)) (by decide))
  rw [← est3] at hP
  have hF : FM 5 st sl st3 sl := by rw [est3]; exact hF.up (dm_nd _).1
  have hT : TM B g m p st3 sl := by rw [est3]; exact hT.up (by omega)
  refine lv_aload_n hx hb dX12_saysOne_36 rfl (lv_at hl 1 rfl) ?_
  refine va_get (D := (dC, dI)) (ci := 11) (v := .ref (ar 16)) (C := RX12) (T := TX12) (N := 47) hx hb hts ii_X12_saysOne hown hK hP 0 rfl rfl 42 (by decide) (hts _ mm_X12_saysOne_2) (fun _ hh => hh) rfl dX12_saysOne_37 ?_
  refine lv_iload hx hb dX12_saysOne_40 (lv_at hl 0 rfl) ?_
  refine lv_iconst (v := 3) hx hb dX12_saysOne_42 (by decide) ?_
  refine lv_iadd hx hb dX12_saysOne_43 ?_
  refine zz_top (v := nI ((4 * gn) + 3)) (nI_add (4 * gn) 3) ?_
  refine lv_iload hx hb dX12_saysOne_44 (lv_at hl 5 rfl) ?_
  refine va_iast hx hb hK hP (mD hN _ _ _ _) hS 16 15 rfl rfl (i := (nI ((4 * gn) + 3))) (vp_in_nI (by omega) (by decide)) dX12_saysOne_46 (fun H locs hP _ hS => ?_)
  rw [nI_clamp (by omega)] at hP
  have hP : va_P (dC, dI) vwCl (mw ar cy (up2 st3 16 ((4 * gn) + 3) vd) sl) H := hP
  obtain ⟨st4, est4⟩ : ∃ y, y = up2 st3 16 ((4 * gn) + 3) vd := ⟨_, rfl⟩
  have hG : MG [1, 2, 3, 4, 5, 6, 7, 10, 11, 12, 13, 14, 15, 16, 17, 19, 20, 21, 22, 23] st st4 := by rw [est4]; exact hG.up (rz (mr_16_3_240 ((4 * gn) + 3) (by omega) (by omega))) (pn (pcl_16_3_240 ((4 * gn) + 3) (by omega) (by omega)) (by decide))
  rw [← est4] at hP
  have hF : FM 5 st sl st4 sl := by rw [est4]; exact hF.up (dm_nd _).1
  have hT : TM B g m p st4 sl := by rw [est4]; exact hT.up (by omega)
  refine lv_aload_n hx hb dX12_saysOne_47 rfl (lv_at hl 1 rfl) ?_
  refine lv_dup hx hb dX12_saysOne_48 rfl ?_
  refine va_get (D := (dC, dI)) (ci := 11) (v := .int (st4 0 43)) (C := RX12) (T := TX12) (N := 47) hx hb hts ii_X12_saysOne hown hK hP 0 rfl rfl 43 (by decide) (hts _ mm_X12_saysOne_1) (fun _ hh => hh) rfl dX12_saysOne_49 ?_
  refine zz_top (v := (nI gn)) (by show st4 0 43 = _; rw [est4, up2_ne (r := 16) (k := ((4 * gn) + 3)) (a := 0) (j := 43) _ _ (by omega), est3, up2_ne (r := 16) (k := ((4 * gn) + 2)) (a := 0) (j := 43) _ _ (by omega), est2, up2_ne (r := 16) (k := ((4 * gn) + 1)) (a := 0) (j := 43) _ _ (by omega), est1, up2_ne (r := 16) (k := (4 * gn)) (a := 0) (j := 43) _ _ (by omega), h43]) ?_
  refine lv_iconst (v := 1) hx hb dX12_saysOne_52 (by decide) ?_
  refine lv_iadd hx hb dX12_saysOne_53 ?_
  refine zz_top (v := nI (gn + 1)) (nI_add gn 1) ?_
  refine va_put (D := (dC, dI)) (ci := 11) (v := .int (nI (gn + 1))) (ty := .int) (C := RX12) (T := TX12) (N := 47) hx hb hts ii_X12_saysOne tyX12 tyX12_ok nmX12 hown hK hP (mD hN _ _ _ _) hS 0 rfl rfl 43 (by decide) (hts _ mm_X12_saysOne_1) (fun _ hh => hh) rfl (by decide +kernel) rfl rfl (Nat.le_of_ble_eq_true rfl) dX12_saysOne_54 (fun H locs hP _ hS => ?_)
  have hP : va_P (dC, dI) vwCl (mw ar cy (up2 st4 0 43 (nI (gn + 1))) sl) H := hP
  obtain ⟨st5, est5⟩ : ∃ y, y = up2 st4 0 43 (nI (gn + 1)) := ⟨_, rfl⟩
  have hG : MG [1, 2, 3, 4, 5, 6, 7, 10, 11, 12, 13, 14, 15, 16, 17, 19, 20, 21, 22, 23] st st5 := by rw [est5]; exact hG.up (rn (n := (gn + 1)) (by decide : mr 0 43 = 61) (by omega)) (pn (by decide : pcl 0 43 = 9) (by decide))
  rw [← est5] at hP
  have hF : FM 5 st sl st5 sl := by rw [est5]; exact hF.up (by decide)
  have hT : TM B g m p st5 sl := by rw [est5]; exact hT.up (by omega)
  refine lv_aload_n hx hb dX12_saysOne_57 rfl (lv_at hl 1 rfl) ?_
  refine va_get (D := (dC, dI)) (ci := 11) (v := .int (st5 0 43)) (C := RX12) (T := TX12) (N := 47) hx hb hts ii_X12_saysOne hown hK hP 0 rfl rfl 43 (by decide) (hts _ mm_X12_saysOne_1) (fun _ hh => hh) rfl dX12_saysOne_58 ?_
  refine zz_top (v := (nI (gn + 1))) (by show st5 0 43 = _; rw [est5, up2_same]) ?_
  refine lv_iconst (v := 1) hx hb dX12_saysOne_61 (by decide) ?_
  refine lv_isub hx hb dX12_saysOne_62 ?_
  refine zz_top (v := nI ((gn + 1) - 1)) (nI_subN (a := (gn + 1)) (b := 1) (by omega) (by omega)) ?_
  exact W.iret (v := (nI ((gn + 1) - 1))) hx hb hr (fun t ht hW => ⟨⟨(nI ((gn + 1) - 1)), (st5, sl), rfl, ⟨hG, hF, ⟨((gn + 1) - 1), rfl, by omega, by show st5 0 43 = _; rw [est5, up2_same], hT, by show st5 0 10 = st 0 10; rw [est5, up2_ne (r := 0) (k := 43) (a := 0) (j := 10) _ _ (by omega), est4, up2_ne (r := 16) (k := ((4 * gn) + 3)) (a := 0) (j := 10) _ _ (by omega), est3, up2_ne (r := 16) (k := ((4 * gn) + 2)) (a := 0) (j := 10) _ _ (by omega), est2, up2_ne (r := 16) (k := ((4 * gn) + 1)) (a := 0) (j := 10) _ _ (by omega), est1, up2_ne (r := 16) (k := (4 * gn)) (a := 0) (j := 10) _ _ (by omega)]⟩⟩, mB.of ht hP⟩, hS.F ht⟩) hS.2.2 dX12_saysOne_63
set_option maxHeartbeats 4000000 in
set_option maxRecDepth 100000 in
theorem f_readOf18 (l : Launch) (dC : Nat → ClassId) (dI : Nat → Nat → Nat) (ar : Nat → Nat) (cy : Nat → ClassId) (sz : Nat) (hN : MN ar) (st : Nat → Nat → Int32) (sl : Nat → Nat → Int64) (B : Nat → Nat) (g m : Nat) (p : Nat) (c : Nat → Nat) (nm : Nat → Nat → Nat) (gn : Nat) (hI : MI st) (hB : MBt B g m st) (hT : TM B g m p st sl) (hR : RN c nm st sl) (h43 : st 0 43 = nI gn) (hgn : gn < 60) : Met l yX12_readOf wsX12_readOf ({ frames := 4, cells := 0, slots := 0, locals := 91 }) (va_Pc [.ref (ar 0), .int 18] (mPre dC dI ar cy sz st sl)) (va_Qi (fun (r : Int32) (x : MT) => MG [1, 2, 3, 6, 7, 13, 14, 15, 20, 21, 22] st x.1 ∧ FM 5 st sl x.1 x.2 ∧ ((r = 1 ∧ TM B g m (tkx B g m p) x.1 x.2 ∧ x.1 0 43 = nI (gn + 1) ∧ x.1 0 46 = nI gn ∧ (∀ o, sNam B g m p (c 1) (nm 1) o = (0, (tkx B g m p), o)) ∧ x.1 0 10 = st 0 10) ∨ (∃ f : Nat, ∃ a : Nat, r = 0 ∧ x.1 0 10 = nI f ∧ x.1 0 11 = nI a ∧ 1 ≤ f ∧ (∀ o, sNam B g m p (c 1) (nm 1) o = sf f a)))) (mB dC dI ar cy) (MA ar sz)) 0 0 (MA ar sz) := by
  refine Met.ofW (cc := cX12_readOf) (maxL := 2) (ret := (some .boolean)) (by decide) rfl ?_
  intro p9 e s m9 args below meth c9 s₁ B9 hml hv
  obtain ⟨rfl, hsz, hP, hK⟩ := hv
  have hx := B9.exec
  have hb := B9.bytes
  have hr := B9.returns
  have hts := atoms_spec (ws := wsX12_readOf) B9.pre
  have hown : s.vm.findClass RX12 = some m9.cls := findClass_of_methodNamed B9.named
  subst hsz
  have hS : va_S (MA ar s.heap.size) s.heap s.heap [] := va_S.rf
  have hG : MG [1, 2, 3, 6, 7, 13, 14, 15, 20, 21, 22] st st := MG.rf hI
  have hl := lv_entry ([.ref (ar 0), .int 18]) (n := 2) (Nat.le_of_ble_eq_true rfl)
  rw [lg_entry_eq]
  generalize (lg_sl ([.ref (ar 0), .int 18]) ++ List.replicate (2 - (lg_sl ([.ref (ar 0), .int 18])).length) Slot.unset).toArray = ls at hl ⊢
  have hl : lv_has ls 2 [(0, .ref (ar 0)), (1, .int 18)] := hl
  clear hI
  have hB1 := hB.2.2.1
  have hB2 := hB.2.2.2.1
  have hF : FM 5 st sl st sl := FM.rf
  have hp9 := hT.2.2.2.2.2.2
  have hk1 := tkd_lt (B := B) (g := g) (m := m) (p := p)
  have hk2 := tkx_le (B := B) (g := g) (m := m) (p := p) hp9
  have hk3 := tka_le (B := B) (g := g) (m := m) (p := p) hp9 hB.2.2.1
  have hk4 := tkv_lt (p := p) hB hp9
  have hk5 := tkw_lt (B := B) (g := g) (m := m) (p := p)
  have hR9 := hR.2.1
  refine lv_aload_n hx hb dX12_readOf_0 rfl (lv_at hl 0 rfl) ?_
  refine lv_iload_n hx hb dX12_readOf_1 rfl (lv_at hl 1 rfl) ?_
  refine lv_bipush (v := 18) hx hb dX12_readOf_2 (by decide) ?_
  refine lv_icmp_ne (tgt := 11) hx hb dX12_readOf_4 (by decide) (fun cc => absurd (by decide) cc) (fun _ => ?_)
  refine lv_iconst (v := 5) hx hb dX12_readOf_7 (by decide) ?_
  refine lv_goto (tgt := 12) hx hb dX12_readOf_8 (by decide) ?_
  refine lv_aload_n hx hb dX12_readOf_12 rfl (lv_at hl 0 rfl) ?_
  refine va_get (D := (dC, dI)) (ci := 11) (v := .ref (ar 2)) (C := RX12) (T := TX12) (N := 47) hx hb hts ii_X12_readOf hown hK hP 0 rfl rfl 14 (by decide) (hts _ mm_X12_readOf_1) (fun _ hh => hh) rfl dX12_readOf_13 ?_
  refine lv_iload_n hx hb dX12_readOf_16 rfl (lv_at hl 1 rfl) ?_
  refine lv_bipush (v := 18) hx hb dX12_readOf_17 (by decide) ?_
  refine lv_icmp_ne (tgt := 26) hx hb dX12_readOf_19 (by decide) (fun cc => absurd (by decide) cc) (fun _ => ?_)
  refine lv_iconst (v := 1) hx hb dX12_readOf_22 (by decide) ?_
  refine lv_goto (tgt := 27) hx hb dX12_readOf_23 (by decide) ?_
  refine va_iald hx hb hK hP 2 1 rfl rfl (i := 1) (zz_in (by decide)) dX12_readOf_27 ?_
  refine zz_top (v := (nI (c 1))) (by show st 2 1 = _; rw [hR.1 1 (by decide)]) ?_
  refine va_calli (va_runV (As := [.int 5, .int (nI (c 1))]) (rest := []) ⟨hx, hb, hml, hown, hts⟩ (f_readNamed1 l dC dI ar cy _ hN st sl (c 1) B g m p c nm (by omega) hG.1 (MBt.fr hB hF) hT hR (rfl)) (cwV 2 hts gX12_readOf_X12_readNamed rfl rfl rfl (by decide +kernel) ⟨Nat.le_of_ble_eq_true rfl, Nat.le_of_ble_eq_true rfl⟩) ⟨fun a U g mk q => ⟨q.1, mPre.blind q.2⟩, va_recv hK hP (ci := 11) (q0 := 0) rfl rfl, fun U hU hW => ⟨rfl, mPre.of hP hK hU hW⟩⟩ rfl rfl hl.1 rfl (lv_room (Nat.le_of_ble_eq_true rfl)) dX12_readOf_28 ⟨Nat.le_of_ble_eq_true rfl, Nat.le_of_ble_eq_true rfl⟩) hS (fun q _ h => MA.le hS.1 q h) (MA.le hS.1) (fun r1 x t H locs ht hvm hw hB9 _ _ hS => ?_)
  have hP := mB.at ht hB9
  clear hB9 ht hvm
  obtain ⟨st2, sl3⟩ := x
  obtain ⟨hG2, hF2, hw⟩ := hw
  dsimp only at hG2 hF2 hw
  have hP : va_P (dC, dI) vwCl (mw ar cy st2 sl3) _ := hP
  have hG : MG [1, 2, 3, 6, 7, 13, 14, 15, 20, 21, 22] st st2 := hG.tr hG2 (by decide)
  have hFst2 : FM 2 st sl st2 sl3 := hF2
  have hF : FM 5 st sl st2 sl3 := hF.tr hFst2 (by omega) (by omega)
  clear hG2 hF2
  have hR : RN c nm st2 sl3 := hR.fr hFst2
  rcases hw with ⟨n4, rfl, hf5, hf6, hT, hf7, hk8⟩ | ⟨n9, n10, rfl, hf11, hf12, hf13, hf14⟩
  · have hp9 := hT.2.2.2.2.2.2
    have hk1 := tkd_lt (B := B) (g := g) (m := m) (p := (tkx B g m p))
    have hk2 := tkx_le (B := B) (g := g) (m := m) (p := (tkx B g m p)) hp9
    have hk3 := tka_le (B := B) (g := g) (m := m) (p := (tkx B g m p)) hp9 hB.2.2.1
    have hk4 := tkv_lt (p := (tkx B g m p)) hB hp9
    have hk5 := tkw_lt (B := B) (g := g) (m := m) (p := (tkx B g m p))
    refine lv_if_ne (tgt := 36) hx hb dX12_readOf_31 (by decide) (fun _ => ?_) (fun cc => absurd cc (by decide))
    refine lv_aload_n hx hb dX12_readOf_36 rfl (lv_at hl 0 rfl) ?_
    refine lv_aload_n hx hb dX12_readOf_37 rfl (lv_at hl 0 rfl) ?_
    refine lv_bipush (v := 50) hx hb dX12_readOf_38 (by decide) ?_
    refine lv_iload_n hx hb dX12_readOf_40 rfl (lv_at hl 1 rfl) ?_
    refine lv_iadd hx hb dX12_readOf_41 ?_
    refine zz_top (v := 68) (by decide) ?_
    refine lv_aload_n hx hb dX12_readOf_42 rfl (lv_at hl 0 rfl) ?_
    refine va_get (D := (dC, dI)) (ci := 11) (v := .int (st2 0 13)) (C := RX12) (T := TX12) (N := 47) hx hb hts ii_X12_readOf hown hK hP 0 rfl rfl 13 (by decide) (hts _ mm_X12_readOf_2) (fun _ hh => hh) rfl dX12_readOf_43 ?_
    refine zz_top (v := (nI n4)) (by show st2 0 13 = _; rw [hf6]) ?_
    refine lv_iconst (v := 0) hx hb dX12_readOf_46 (by decide) ?_
    refine lv_iconst (v := 0) hx hb dX12_readOf_47 (by decide) ?_
    refine va_calli (va_runV (As := [.int 68, .int (nI n4), .int 0, .int 0]) (rest := [.ref (ar 0)]) ⟨hx, hb, hml, hown, hts⟩ (f_saysOne l dC dI ar cy _ hN st2 sl3 68 (nI n4) 0 0 B g m (tkx B g m p) gn hG.1 (MBt.fr hB hF) hT (by rw [(hFst2 0 43 (by decide)).1, h43]) (by omega)) (cwV 4 hts gX12_readOf_X12_saysOne rfl rfl rfl (by decide +kernel) ⟨Nat.le_of_ble_eq_true rfl, Nat.le_of_ble_eq_true rfl⟩) ⟨fun a U g mk q => ⟨q.1, mPre.blind q.2⟩, va_recv hK hP (ci := 11) (q0 := 0) rfl rfl, fun U hU hW => ⟨rfl, mPre.of hP hK hU hW⟩⟩ rfl rfl hl.1 rfl (lv_room (Nat.le_of_ble_eq_true rfl)) dX12_readOf_48 ⟨Nat.le_of_ble_eq_true rfl, Nat.le_of_ble_eq_true rfl⟩) hS (fun q _ h => MA.le hS.1 q h) (MA.le hS.1) (fun r15 x t H locs ht hvm hw hB9 _ _ hS => ?_)
    have hP := mB.at ht hB9
    clear hB9 ht hvm
    obtain ⟨st16, sl17⟩ := x
    obtain ⟨hG2, hF2, hw⟩ := hw
    dsimp only at hG2 hF2 hw
    have hP : va_P (dC, dI) vwCl (mw ar cy st16 sl17) _ := hP
    have hG : MG [1, 2, 3, 6, 7, 13, 14, 15, 20, 21, 22] st st16 := hG.tr hG2 (by decide)
    have hFst16 : FM 5 st2 sl3 st16 sl17 := hF2
    have hF : FM 5 st sl st16 sl17 := hF.tr hFst16 (by omega) (by omega)
    clear hG2 hF2
    have hR : RN c nm st16 sl17 := hR.fr hFst16
    obtain ⟨n18, rfl, hf19, hf20, hT, hk21⟩ := hw
    have hp9 := hT.2.2.2.2.2.2
    have hk1 := tkd_lt (B := B) (g := g) (m := m) (p := (tkx B g m p))
    have hk2 := tkx_le (B := B) (g := g) (m := m) (p := (tkx B g m p)) hp9
    have hk3 := tka_le (B := B) (g := g) (m := m) (p := (tkx B g m p)) hp9 hB.2.2.1
    have hk4 := tkv_lt (p := (tkx B g m p)) hB hp9
    have hk5 := tkw_lt (B := B) (g := g) (m := m) (p := (tkx B g m p))
    refine va_put (D := (dC, dI)) (ci := 11) (v := .int (nI n18)) (ty := .int) (C := RX12) (T := TX12) (N := 47) hx hb hts ii_X12_readOf tyX12 tyX12_ok nmX12 hown hK hP (mD hN _ _ _ _) hS 0 rfl rfl 46 (by decide) (hts _ mm_X12_readOf_3) (fun _ hh => hh) rfl (by decide +kernel) rfl rfl (Nat.le_of_ble_eq_true rfl) dX12_readOf_51 (fun H locs hP _ hS => ?_)
    have hP : va_P (dC, dI) vwCl (mw ar cy (up2 st16 0 46 (nI n18)) sl17) H := hP
    obtain ⟨st22, est22⟩ : ∃ y, y = up2 st16 0 46 (nI n18) := ⟨_, rfl⟩
    have hG : MG [1, 2, 3, 6, 7, 13, 14, 15, 20, 21, 22] st st22 := by rw [est22]; exact hG.up (rn (n := n18) (by decide : mr 0 46 = 60) (by omega)) (pn (by decide : pcl 0 46 = 12) (by decide))
    rw [← est22] at hP
    have hF : FM 5 st sl st22 sl17 := by rw [est22]; exact hF.up (by decide)
    have hT : TM B g m (tkx B g m p) st22 sl17 := by rw [est22]; exact hT.up (by omega)
    have hR : RN c nm st22 sl17 := by rw [est22]; exact hR.up (by omega)
    refine lv_iconst (v := 1) hx hb dX12_readOf_54 (by decide) ?_
    exact W.zret (v := 1) hx hb hr rfl (fun t ht hW => ⟨⟨1, (st22, sl17), rfl, ⟨hG, hF, Or.inl (⟨rfl, hT, by show st22 0 43 = _; rw [est22, up2_ne (r := 0) (k := 46) (a := 0) (j := 43) _ _ (by omega), hf20], by show st22 0 46 = _; rw [est22, up2_same, hf19], fun o => sNam_y hf7, by show st22 0 10 = st 0 10; rw [est22, up2_ne (r := 0) (k := 46) (a := 0) (j := 10) _ _ (by omega), hk21, hk8]⟩)⟩, mB.of ht hP⟩, hS.F ht⟩) hS.2.2 dX12_readOf_55
  · refine lv_if_ne (tgt := 36) hx hb dX12_readOf_31 (by decide) (fun cc => absurd (by decide) cc) (fun _ => ?_)
    refine lv_iconst (v := 0) hx hb dX12_readOf_34 (by decide) ?_
    exact W.zret (v := 0) hx hb hr rfl (fun t ht hW => ⟨⟨0, (st2, sl3), rfl, ⟨hG, hF, Or.inr (⟨n9, n10, rfl, by show st2 0 10 = _; rw [hf11], by show st2 0 11 = _; rw [hf12], by omega, fun o => sNam_f hf14 hf13⟩)⟩, mB.of ht hP⟩, hS.F ht⟩) hS.2.2 dX12_readOf_35
