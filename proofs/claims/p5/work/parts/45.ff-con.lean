set_option maxHeartbeats 4000000 in
set_option maxRecDepth 100000 in
theorem f_isWord4 (l : Launch) (dC : Nat → ClassId) (dI : Nat → Nat → Nat) (ar : Nat → Nat) (cy : Nat → ClassId) (sz : Nat) (hN : MN ar) (st : Nat → Nat → Int32) (sl : Nat → Nat → Int64) (B : Nat → Nat) (g m : Nat) (p : Nat) (hI : MI st) (hB : MBt B g m st) (hT : TM B g m p st sl) : Met l yX12_isWord wsX12_isWord ({ frames := 2, cells := 0, slots := 0, locals := 48 }) (va_Pc [.ref (ar 0), .int 4] (mPre dC dI ar cy sz st sl)) (va_Qi (fun (r : Int32) (x : MT) => x = (st, sl) ∧ ((r = 1 ∧ tkw B g m p = 4) ∨ (r = 0 ∧ ¬ tkw B g m p = 4))) (mB dC dI ar cy) (MA ar sz)) 0 0 (MA ar sz) := by
  refine Met.ofW (cc := cX12_isWord) (maxL := 2) (ret := (some .boolean)) (by decide) rfl ?_
  intro p9 e s m9 args below meth c9 s₁ B9 hml hv
  obtain ⟨rfl, hsz, hP, hK⟩ := hv
  have hx := B9.exec
  have hb := B9.bytes
  have hr := B9.returns
  have hts := atoms_spec (ws := wsX12_isWord) B9.pre
  have hown : s.vm.findClass RX12 = some m9.cls := findClass_of_methodNamed B9.named
  subst hsz
  have hS : va_S (MA ar s.heap.size) s.heap s.heap [] := va_S.rf
  have hG : MG [1, 2, 3, 4, 5, 6, 7, 8, 9, 10, 11, 12, 13, 14, 15, 16, 17, 19, 20, 21, 22, 23] st st := MG.rf hI
  have hl := lv_entry ([.ref (ar 0), .int 4]) (n := 2) (Nat.le_of_ble_eq_true rfl)
  rw [lg_entry_eq]
  generalize (lg_sl ([.ref (ar 0), .int 4]) ++ List.replicate (2 - (lg_sl ([.ref (ar 0), .int 4])).length) Slot.unset).toArray = ls at hl ⊢
  have hl : lv_has ls 2 [(0, .ref (ar 0)), (1, .int 4)] := hl
  clear hI
  have hB1 := hB.2.2.1
  have hB2 := hB.2.2.2.1
  have hF : FM 0 st sl st sl := FM.rf
  have hp9 := hT.2.2.2.2.2.2
  have hk1 := tkd_lt (B := B) (g := g) (m := m) (p := p)
  have hk2 := tkx_le (B := B) (g := g) (m := m) (p := p) hp9
  have hk3 := tka_le (B := B) (g := g) (m := m) (p := p) hp9 hB.2.2.1
  have hk4 := tkv_lt (p := p) hB hp9
  have hk5 := tkw_lt (B := B) (g := g) (m := m) (p := p)
  refine lv_aload_n hx hb dX12_isWord_0 rfl (lv_at hl 0 rfl) ?_
  refine va_get (D := (dC, dI)) (ci := 11) (v := .int (st 0 7)) (C := RX12) (T := TX12) (N := 47) hx hb hts ii_X12_isWord hown hK hP 0 rfl rfl 7 (by decide) (hts _ mm_X12_isWord_1) (fun _ hh => hh) rfl dX12_isWord_1 ?_
  refine zz_top (v := (nI (tkd B g m p))) (by show st 0 7 = _; rw [hT.2.2.1]) ?_
  refine lv_iconst (v := 2) hx hb dX12_isWord_4 (by decide) ?_
  refine lv_icmp_ne (tgt := 24) hx hb dX12_isWord_5 (by decide) (fun c1 => ?_) (fun c1 => ?_)
  · have c1 : ¬ (tkd B g m p) = 2 := fun hh => c1 ((nI_eq (a := (tkd B g m p)) (b := 2) (by omega) (by omega)).mpr hh)
    refine lv_iconst (v := 0) hx hb dX12_isWord_24 (by decide) ?_
    exact W.zret (v := 0) hx hb hr rfl (fun t ht hW => ⟨⟨0, (st, sl), rfl, ⟨rfl, Or.inr (⟨rfl, by rw [tkw_n (by omega)]; omega⟩)⟩, mB.of ht hP⟩, hS.F ht⟩) hS.2.2 dX12_isWord_25
  · have c1 : (tkd B g m p) = 2 := (nI_eq (a := (tkd B g m p)) (b := 2) (by omega) (by omega)).mp c1
    refine lv_aload_n hx hb dX12_isWord_8 rfl (lv_at hl 0 rfl) ?_
    refine va_get (D := (dC, dI)) (ci := 11) (v := .long (sl 0 12)) (C := RX12) (T := TX12) (N := 47) hx hb hts ii_X12_isWord hown hK hP 0 rfl rfl 12 (by decide) (hts _ mm_X12_isWord_2) (fun _ hh => hh) rfl dX12_isWord_9 ?_
    refine lv_iload_n hx hb dX12_isWord_12 rfl (lv_at hl 1 rfl) ?_
    refine va_calll (va_runS (As := [.int 4]) (rest := [.long (sl 0 12)]) ⟨hx, hb, hml, hown, hts⟩ (f_wordOf4 l dC dI ar cy _ hN st sl hG.1 ) (va_cwS 1 hts gX12_isWord_X12_wordOf rfl rfl rfl (by decide +kernel) ⟨Nat.le_of_ble_eq_true rfl, Nat.le_of_ble_eq_true rfl⟩) ⟨fun a U g mk q => ⟨q.1, mPre.blind q.2⟩, fun U hU hW => ⟨rfl, mPre.of hP hK hU hW⟩⟩ rfl rfl hl.1 rfl (lv_room (Nat.le_of_ble_eq_true rfl)) dX12_isWord_13 ⟨Nat.le_of_ble_eq_true rfl, Nat.le_of_ble_eq_true rfl⟩) hS (fun q _ h => MA.le hS.1 q h) (MA.le hS.1) (fun r1 x t H locs ht hvm hw hB9 _ _ hS => ?_)
    have hP := mB.at ht hB9
    clear hB9 ht hvm
    obtain ⟨rfl, hw⟩ := hw
    have hP : va_P (dC, dI) vwCl (mw ar cy st sl) _ := hP
    obtain rfl := hw
    refine W.lcmp hx hb dX12_isWord_16 ?_
    refine lv_topi (fun z2 ez2 => ?_)
    refine lv_if_ne (tgt := 24) hx hb dX12_isWord_17 (by decide) (fun c2 => ?_) (fun c2 => ?_)
    · have c2 : ¬ (sl 0 12) = 131360 := fun hh => c2 (by rw [ez2]; exact (lg_cmp_eq _ _).mpr hh)
      have c2 : ¬ tkw B g m p = 4 := fun hh => c2 ((tkw_k (p := p) (m := m) hp9 hB1 (by omega) (hT.2.2.2.2.2.1 (by omega)) (k := 4) (by decide) (w' := 131360) (by decide +kernel)).mpr hh)
      refine lv_iconst (v := 0) hx hb dX12_isWord_24 (by decide) ?_
      exact W.zret (v := 0) hx hb hr rfl (fun t ht hW => ⟨⟨0, (st, sl), rfl, ⟨rfl, Or.inr (⟨rfl, by omega⟩)⟩, mB.of ht hP⟩, hS.F ht⟩) hS.2.2 dX12_isWord_25
    · have c2 : (sl 0 12) = 131360 := (lg_cmp_eq _ _).mp (by rw [← ez2]; exact c2)
      have c2 : tkw B g m p = 4 := (tkw_k (p := p) (m := m) hp9 hB1 (by omega) (hT.2.2.2.2.2.1 (by omega)) (k := 4) (by decide) (w' := 131360) (by decide +kernel)).mp c2
      refine lv_iconst (v := 1) hx hb dX12_isWord_20 (by decide) ?_
      refine lv_goto (tgt := 25) hx hb dX12_isWord_21 (by decide) ?_
      exact W.zret (v := 1) hx hb hr rfl (fun t ht hW => ⟨⟨1, (st, sl), rfl, ⟨rfl, Or.inl (⟨rfl, by omega⟩)⟩, mB.of ht hP⟩, hS.F ht⟩) hS.2.2 dX12_isWord_25
set_option maxHeartbeats 4000000 in
set_option maxRecDepth 100000 in
theorem f_isWord5 (l : Launch) (dC : Nat → ClassId) (dI : Nat → Nat → Nat) (ar : Nat → Nat) (cy : Nat → ClassId) (sz : Nat) (hN : MN ar) (st : Nat → Nat → Int32) (sl : Nat → Nat → Int64) (B : Nat → Nat) (g m : Nat) (p : Nat) (hI : MI st) (hB : MBt B g m st) (hT : TM B g m p st sl) : Met l yX12_isWord wsX12_isWord ({ frames := 2, cells := 0, slots := 0, locals := 48 }) (va_Pc [.ref (ar 0), .int 5] (mPre dC dI ar cy sz st sl)) (va_Qi (fun (r : Int32) (x : MT) => x = (st, sl) ∧ ((r = 1 ∧ tkw B g m p = 5) ∨ (r = 0 ∧ ¬ tkw B g m p = 5))) (mB dC dI ar cy) (MA ar sz)) 0 0 (MA ar sz) := by
  refine Met.ofW (cc := cX12_isWord) (maxL := 2) (ret := (some .boolean)) (by decide) rfl ?_
  intro p9 e s m9 args below meth c9 s₁ B9 hml hv
  obtain ⟨rfl, hsz, hP, hK⟩ := hv
  have hx := B9.exec
  have hb := B9.bytes
  have hr := B9.returns
  have hts := atoms_spec (ws := wsX12_isWord) B9.pre
  have hown : s.vm.findClass RX12 = some m9.cls := findClass_of_methodNamed B9.named
  subst hsz
  have hS : va_S (MA ar s.heap.size) s.heap s.heap [] := va_S.rf
  have hG : MG [1, 2, 3, 4, 5, 6, 7, 8, 9, 10, 11, 12, 13, 14, 15, 16, 17, 19, 20, 21, 22, 23] st st := MG.rf hI
  have hl := lv_entry ([.ref (ar 0), .int 5]) (n := 2) (Nat.le_of_ble_eq_true rfl)
  rw [lg_entry_eq]
  generalize (lg_sl ([.ref (ar 0), .int 5]) ++ List.replicate (2 - (lg_sl ([.ref (ar 0), .int 5])).length) Slot.unset).toArray = ls at hl ⊢
  have hl : lv_has ls 2 [(0, .ref (ar 0)), (1, .int 5)] := hl
  clear hI
  have hB1 := hB.2.2.1
  have hB2 := hB.2.2.2.1
  have hF : FM 0 st sl st sl := FM.rf
  have hp9 := hT.2.2.2.2.2.2
  have hk1 := tkd_lt (B := B) (g := g) (m := m) (p := p)
  have hk2 := tkx_le (B := B) (g := g) (m := m) (p := p) hp9
  have hk3 := tka_le (B := B) (g := g) (m := m) (p := p) hp9 hB.2.2.1
  have hk4 := tkv_lt (p := p) hB hp9
  have hk5 := tkw_lt (B := B) (g := g) (m := m) (p := p)
  refine lv_aload_n hx hb dX12_isWord_0 rfl (lv_at hl 0 rfl) ?_
  refine va_get (D := (dC, dI)) (ci := 11) (v := .int (st 0 7)) (C := RX12) (T := TX12) (N := 47) hx hb hts ii_X12_isWord hown hK hP 0 rfl rfl 7 (by decide) (hts _ mm_X12_isWord_1) (fun _ hh => hh) rfl dX12_isWord_1 ?_
  refine zz_top (v := (nI (tkd B g m p))) (by show st 0 7 = _; rw [hT.2.2.1]) ?_
  refine lv_iconst (v := 2) hx hb dX12_isWord_4 (by decide) ?_
  refine lv_icmp_ne (tgt := 24) hx hb dX12_isWord_5 (by decide) (fun c1 => ?_) (fun c1 => ?_)
  · have c1 : ¬ (tkd B g m p) = 2 := fun hh => c1 ((nI_eq (a := (tkd B g m p)) (b := 2) (by omega) (by omega)).mpr hh)
    refine lv_iconst (v := 0) hx hb dX12_isWord_24 (by decide) ?_
    exact W.zret (v := 0) hx hb hr rfl (fun t ht hW => ⟨⟨0, (st, sl), rfl, ⟨rfl, Or.inr (⟨rfl, by rw [tkw_n (by omega)]; omega⟩)⟩, mB.of ht hP⟩, hS.F ht⟩) hS.2.2 dX12_isWord_25
  · have c1 : (tkd B g m p) = 2 := (nI_eq (a := (tkd B g m p)) (b := 2) (by omega) (by omega)).mp c1
    refine lv_aload_n hx hb dX12_isWord_8 rfl (lv_at hl 0 rfl) ?_
    refine va_get (D := (dC, dI)) (ci := 11) (v := .long (sl 0 12)) (C := RX12) (T := TX12) (N := 47) hx hb hts ii_X12_isWord hown hK hP 0 rfl rfl 12 (by decide) (hts _ mm_X12_isWord_2) (fun _ hh => hh) rfl dX12_isWord_9 ?_
    refine lv_iload_n hx hb dX12_isWord_12 rfl (lv_at hl 1 rfl) ?_
    refine va_calll (va_runS (As := [.int 5]) (rest := [.long (sl 0 12)]) ⟨hx, hb, hml, hown, hts⟩ (f_wordOf5 l dC dI ar cy _ hN st sl hG.1 ) (va_cwS 1 hts gX12_isWord_X12_wordOf rfl rfl rfl (by decide +kernel) ⟨Nat.le_of_ble_eq_true rfl, Nat.le_of_ble_eq_true rfl⟩) ⟨fun a U g mk q => ⟨q.1, mPre.blind q.2⟩, fun U hU hW => ⟨rfl, mPre.of hP hK hU hW⟩⟩ rfl rfl hl.1 rfl (lv_room (Nat.le_of_ble_eq_true rfl)) dX12_isWord_13 ⟨Nat.le_of_ble_eq_true rfl, Nat.le_of_ble_eq_true rfl⟩) hS (fun q _ h => MA.le hS.1 q h) (MA.le hS.1) (fun r1 x t H locs ht hvm hw hB9 _ _ hS => ?_)
    have hP := mB.at ht hB9
    clear hB9 ht hvm
    obtain ⟨rfl, hw⟩ := hw
    have hP : va_P (dC, dI) vwCl (mw ar cy st sl) _ := hP
    obtain rfl := hw
    refine W.lcmp hx hb dX12_isWord_16 ?_
    refine lv_topi (fun z2 ez2 => ?_)
    refine lv_if_ne (tgt := 24) hx hb dX12_isWord_17 (by decide) (fun c2 => ?_) (fun c2 => ?_)
    · have c2 : ¬ (sl 0 12) = 380741 := fun hh => c2 (by rw [ez2]; exact (lg_cmp_eq _ _).mpr hh)
      have c2 : ¬ tkw B g m p = 5 := fun hh => c2 ((tkw_k (p := p) (m := m) hp9 hB1 (by omega) (hT.2.2.2.2.2.1 (by omega)) (k := 5) (by decide) (w' := 380741) (by decide +kernel)).mpr hh)
      refine lv_iconst (v := 0) hx hb dX12_isWord_24 (by decide) ?_
      exact W.zret (v := 0) hx hb hr rfl (fun t ht hW => ⟨⟨0, (st, sl), rfl, ⟨rfl, Or.inr (⟨rfl, by omega⟩)⟩, mB.of ht hP⟩, hS.F ht⟩) hS.2.2 dX12_isWord_25
    · have c2 : (sl 0 12) = 380741 := (lg_cmp_eq _ _).mp (by rw [← ez2]; exact c2)
      have c2 : tkw B g m p = 5 := (tkw_k (p := p) (m := m) hp9 hB1 (by omega) (hT.2.2.2.2.2.1 (by omega)) (k := 5) (by decide) (w' := 380741) (by decide +kernel)).mp c2
      refine lv_iconst (v := 1) hx hb dX12_isWord_20 (by decide) ?_
      refine lv_goto (tgt := 25) hx hb dX12_isWord_21 (by decide) ?_
      exact W.zret (v := 1) hx hb hr rfl (fun t ht hW => ⟨⟨1, (st, sl), rfl, ⟨rfl, Or.inl (⟨rfl, by omega⟩)⟩, mB.of ht hP⟩, hS.F ht⟩) hS.2.2 dX12_isWord_25
set_option maxHeartbeats 4000000 in
set_option maxRecDepth 100000 in
theorem f_isSign59 (l : Launch) (dC : Nat → ClassId) (dI : Nat → Nat → Nat) (ar : Nat → Nat) (cy : Nat → ClassId) (sz : Nat) (hN : MN ar) (st : Nat → Nat → Int32) (sl : Nat → Nat → Int64) (B : Nat → Nat) (g m : Nat) (p : Nat) (hI : MI st) (hB : MBt B g m st) (hT : TM B g m p st sl) : Met l yX12_isSign wsX12_isSign ({ frames := 0, cells := 0, slots := 0, locals := 0 }) (va_Pc [.ref (ar 0), .int 59] (mPre dC dI ar cy sz st sl)) (va_Qi (fun (r : Int32) (x : MT) => x = (st, sl) ∧ ((r = 1 ∧ tkd B g m p = 4 ∧ tkv B g p = 59) ∨ (r = 0 ∧ ¬ (tkd B g m p = 4 ∧ tkv B g p = 59)))) (mB dC dI ar cy) (MA ar sz)) 0 0 (MA ar sz) := by
  refine Met.ofW (cc := cX12_isSign) (maxL := 2) (ret := (some .boolean)) (by decide) rfl ?_
  intro p9 e s m9 args below meth c9 s₁ B9 hml hv
  obtain ⟨rfl, hsz, hP, hK⟩ := hv
  have hx := B9.exec
  have hb := B9.bytes
  have hr := B9.returns
  have hts := atoms_spec (ws := wsX12_isSign) B9.pre
  have hown : s.vm.findClass RX12 = some m9.cls := findClass_of_methodNamed B9.named
  subst hsz
  have hS : va_S (MA ar s.heap.size) s.heap s.heap [] := va_S.rf
  have hG : MG [1, 2, 3, 4, 5, 6, 7, 8, 9, 10, 11, 12, 13, 14, 15, 16, 17, 19, 20, 21, 22, 23] st st := MG.rf hI
  have hl := lv_entry ([.ref (ar 0), .int 59]) (n := 2) (Nat.le_of_ble_eq_true rfl)
  rw [lg_entry_eq]
  generalize (lg_sl ([.ref (ar 0), .int 59]) ++ List.replicate (2 - (lg_sl ([.ref (ar 0), .int 59])).length) Slot.unset).toArray = ls at hl ⊢
  have hl : lv_has ls 2 [(0, .ref (ar 0)), (1, .int 59)] := hl
  clear hI
  have hB1 := hB.2.2.1
  have hB2 := hB.2.2.2.1
  have hF : FM 0 st sl st sl := FM.rf
  have hp9 := hT.2.2.2.2.2.2
  have hk1 := tkd_lt (B := B) (g := g) (m := m) (p := p)
  have hk2 := tkx_le (B := B) (g := g) (m := m) (p := p) hp9
  have hk3 := tka_le (B := B) (g := g) (m := m) (p := p) hp9 hB.2.2.1
  have hk4 := tkv_lt (p := p) hB hp9
  have hk5 := tkw_lt (B := B) (g := g) (m := m) (p := p)
  refine lv_aload_n hx hb dX12_isSign_0 rfl (lv_at hl 0 rfl) ?_
  refine va_get (D := (dC, dI)) (ci := 11) (v := .int (st 0 7)) (C := RX12) (T := TX12) (N := 47) hx hb hts ii_X12_isSign hown hK hP 0 rfl rfl 7 (by decide) (hts _ mm_X12_isSign_1) (fun _ hh => hh) rfl dX12_isSign_1 ?_
  refine zz_top (v := (nI (tkd B g m p))) (by show st 0 7 = _; rw [hT.2.2.1]) ?_
  refine lv_iconst (v := 4) hx hb dX12_isSign_4 (by decide) ?_
  refine lv_icmp_ne (tgt := 20) hx hb dX12_isSign_5 (by decide) (fun c1 => ?_) (fun c1 => ?_)
  · have c1 : ¬ (tkd B g m p) = 4 := fun hh => c1 ((nI_eq (a := (tkd B g m p)) (b := 4) (by omega) (by omega)).mpr hh)
    refine lv_iconst (v := 0) hx hb dX12_isSign_20 (by decide) ?_
    exact W.zret (v := 0) hx hb hr rfl (fun t ht hW => ⟨⟨0, (st, sl), rfl, ⟨rfl, Or.inr (⟨rfl, by omega⟩)⟩, mB.of ht hP⟩, hS.F ht⟩) hS.2.2 dX12_isSign_21
  · have c1 : (tkd B g m p) = 4 := (nI_eq (a := (tkd B g m p)) (b := 4) (by omega) (by omega)).mp c1
    refine lv_aload_n hx hb dX12_isSign_8 rfl (lv_at hl 0 rfl) ?_
    refine va_get (D := (dC, dI)) (ci := 11) (v := .int (st 0 9)) (C := RX12) (T := TX12) (N := 47) hx hb hts ii_X12_isSign hown hK hP 0 rfl rfl 9 (by decide) (hts _ mm_X12_isSign_2) (fun _ hh => hh) rfl dX12_isSign_9 ?_
    refine zz_top (v := (nI (tkv B g p))) (by show st 0 9 = _; rw [(hT.2.2.2.2.1 (by omega))]) ?_
    refine lv_iload_n hx hb dX12_isSign_12 rfl (lv_at hl 1 rfl) ?_
    refine lv_icmp_ne (tgt := 20) hx hb dX12_isSign_13 (by decide) (fun c2 => ?_) (fun c2 => ?_)
    · have c2 : ¬ (tkv B g p) = 59 := fun hh => c2 ((nI_eq (a := (tkv B g p)) (b := 59) (by omega) (by omega)).mpr hh)
      refine lv_iconst (v := 0) hx hb dX12_isSign_20 (by decide) ?_
      exact W.zret (v := 0) hx hb hr rfl (fun t ht hW => ⟨⟨0, (st, sl), rfl, ⟨rfl, Or.inr (⟨rfl, by omega⟩)⟩, mB.of ht hP⟩, hS.F ht⟩) hS.2.2 dX12_isSign_21
    · have c2 : (tkv B g p) = 59 := (nI_eq (a := (tkv B g p)) (b := 59) (by omega) (by omega)).mp c2
      refine lv_iconst (v := 1) hx hb dX12_isSign_16 (by decide) ?_
      refine lv_goto (tgt := 21) hx hb dX12_isSign_17 (by decide) ?_
      exact W.zret (v := 1) hx hb hr rfl (fun t ht hW => ⟨⟨1, (st, sl), rfl, ⟨rfl, Or.inl (⟨rfl, by omega, by omega⟩)⟩, mB.of ht hP⟩, hS.F ht⟩) hS.2.2 dX12_isSign_21
set_option maxHeartbeats 4000000 in
set_option maxRecDepth 100000 in
theorem f_isName (l : Launch) (dC : Nat → ClassId) (dI : Nat → Nat → Nat) (ar : Nat → Nat) (cy : Nat → ClassId) (sz : Nat) (hN : MN ar) (st : Nat → Nat → Int32) (sl : Nat → Nat → Int64) (B : Nat → Nat) (g m : Nat) (p : Nat) (hI : MI st) (hB : MBt B g m st) (hT : TM B g m p st sl) : Met l yX12_isName wsX12_isName ({ frames := 2, cells := 0, slots := 0, locals := 48 }) (va_Pc [.ref (ar 0)] (mPre dC dI ar cy sz st sl)) (va_Qi (fun (r : Int32) (x : MT) => x = (st, sl) ∧ ((r = 1 ∧ tkw B g m p = 24) ∨ (r = 0 ∧ ¬ tkw B g m p = 24))) (mB dC dI ar cy) (MA ar sz)) 0 0 (MA ar sz) := by
  refine Met.ofW (cc := cX12_isName) (maxL := 2) (ret := (some .boolean)) (by decide) rfl ?_
  intro p9 e s m9 args below meth c9 s₁ B9 hml hv
  obtain ⟨rfl, hsz, hP, hK⟩ := hv
  have hx := B9.exec
  have hb := B9.bytes
  have hr := B9.returns
  have hts := atoms_spec (ws := wsX12_isName) B9.pre
  have hown : s.vm.findClass RX12 = some m9.cls := findClass_of_methodNamed B9.named
  subst hsz
  have hS : va_S (MA ar s.heap.size) s.heap s.heap [] := va_S.rf
  have hG : MG [1, 2, 3, 4, 5, 6, 7, 8, 9, 10, 11, 12, 13, 14, 15, 16, 17, 19, 20, 21, 22, 23] st st := MG.rf hI
  have hl := lv_entry ([.ref (ar 0)]) (n := 2) (Nat.le_of_ble_eq_true rfl)
  rw [lg_entry_eq]
  generalize (lg_sl ([.ref (ar 0)]) ++ List.replicate (2 - (lg_sl ([.ref (ar 0)])).length) Slot.unset).toArray = ls at hl ⊢
  have hl : lv_has ls 2 [(0, .ref (ar 0))] := hl
  clear hI
  have hB1 := hB.2.2.1
  have hB2 := hB.2.2.2.1
  have hF : FM 0 st sl st sl := FM.rf
  have hp9 := hT.2.2.2.2.2.2
  have hk1 := tkd_lt (B := B) (g := g) (m := m) (p := p)
  have hk2 := tkx_le (B := B) (g := g) (m := m) (p := p) hp9
  have hk3 := tka_le (B := B) (g := g) (m := m) (p := p) hp9 hB.2.2.1
  have hk4 := tkv_lt (p := p) hB hp9
  have hk5 := tkw_lt (B := B) (g := g) (m := m) (p := p)
  refine lv_aload_n hx hb dX12_isName_0 rfl (lv_at hl 0 rfl) ?_
  refine va_get (D := (dC, dI)) (ci := 11) (v := .int (st 0 7)) (C := RX12) (T := TX12) (N := 47) hx hb hts ii_X12_isName hown hK hP 0 rfl rfl 7 (by decide) (hts _ mm_X12_isName_1) (fun _ hh => hh) rfl dX12_isName_1 ?_
  refine zz_top (v := (nI (tkd B g m p))) (by show st 0 7 = _; rw [hT.2.2.1]) ?_
  refine lv_iconst (v := 2) hx hb dX12_isName_4 (by decide) ?_
  refine lv_icmp_eq (tgt := 10) hx hb dX12_isName_5 (by decide) (fun c1 => ?_) (fun c1 => ?_)
  · have c1 : (tkd B g m p) = 2 := (nI_eq (a := (tkd B g m p)) (b := 2) (by omega) (by omega)).mp c1
    refine lv_iconst (v := 0) hx hb dX12_isName_10 (by decide) ?_
    refine lv_istore_n (lv' := [(1, .int 0), (0, .ref (ar 0))]) hx hb dX12_isName_11 rfl hl (by decide) rfl (fun ls hl => ?_)
    refine zz_wf (fun n stk H locs ls => ∃ k1 : Nat, n = 25 - k1 ∧ 0 ≤ k1 ∧ k1 < 25 ∧ (∀ i, i < k1 → ¬ tkw B g m p = i) ∧ va_P (dC, dI) vwCl (mw ar cy st sl) H ∧ va_S (MA ar s.heap.size) s.heap H locs ∧ lv_has ls 2 [(1, .int (nI k1)), (0, .ref (ar 0))] ∧ stk = []) ?_ (25 - 0) _ _ _ _ ⟨0, rfl, by omega, by omega, fun i hi => absurd hi (by omega), hP, hS, lv_sub hl [0, 1] rfl, rfl⟩
    rintro nn stk H locs ls ⟨k1, hm4, hv2_0, hv3_1, hv4_0, hP, hS, hl, rfl⟩ ih5
    refine lv_iload_n hx hb dX12_isName_12 rfl (lv_at hl 0 rfl) ?_
    refine lv_bipush (v := 23) hx hb dX12_isName_13 (by decide) ?_
    refine lv_icmp_gt (tgt := 38) hx hb dX12_isName_15 (by decide) (fun c2 => ?_) (fun c2 => ?_)
    · have c2 : 23 < k1 := (nI_ltI (a := 23) (b := k1) (by omega) (by omega)).mp c2
      refine lv_iconst (v := 1) hx hb dX12_isName_38 (by decide) ?_
      exact W.zret (v := 1) hx hb hr rfl (fun t ht hW => ⟨⟨1, (st, sl), rfl, ⟨rfl, Or.inl (⟨rfl, by have h1 := tkw_y (B := B) (g := g) (m := m) (p := p) (by omega); have h2 := kwi_le (tkc B g p); have h3 := hv4_0 (tkw B g m p); omega⟩)⟩, mB.of ht hP⟩, hS.F ht⟩) hS.2.2 dX12_isName_39
    · have c2 : ¬ 23 < k1 := fun hh => c2 ((nI_ltI (a := 23) (b := k1) (by omega) (by omega)).mpr hh)
      refine lv_aload_n hx hb dX12_isName_18 rfl (lv_at hl 1 rfl) ?_
      refine va_get (D := (dC, dI)) (ci := 11) (v := .long (sl 0 12)) (C := RX12) (T := TX12) (N := 47) hx hb hts ii_X12_isName hown hK hP 0 rfl rfl 12 (by decide) (hts _ mm_X12_isName_2) (fun _ hh => hh) rfl dX12_isName_19 ?_
      refine lv_iload_n hx hb dX12_isName_22 rfl (lv_at hl 0 rfl) ?_
      refine va_calll (va_runS (As := [.int (nI k1)]) (rest := [.long (sl 0 12)]) ⟨hx, hb, hml, hown, hts⟩ (f_wordOfN l dC dI ar cy _ hN st sl k1 (by omega) hG.1 ) (va_cwS 1 hts gX12_isName_X12_wordOf rfl rfl rfl (by decide +kernel) ⟨Nat.le_of_ble_eq_true rfl, Nat.le_of_ble_eq_true rfl⟩) ⟨fun a U g mk q => ⟨q.1, mPre.blind q.2⟩, fun U hU hW => ⟨rfl, mPre.of hP hK hU hW⟩⟩ rfl rfl hl.1 rfl (lv_room (Nat.le_of_ble_eq_true rfl)) dX12_isName_23 ⟨Nat.le_of_ble_eq_true rfl, Nat.le_of_ble_eq_true rfl⟩) hS (fun q _ h => MA.le hS.1 q h) (MA.le hS.1) (fun r6 x t H locs ht hvm hw hB9 _ _ hS => ?_)
      have hP := mB.at ht hB9
      clear hB9 ht hvm
      obtain ⟨rfl, hw⟩ := hw
      have hP : va_P (dC, dI) vwCl (mw ar cy st sl) _ := hP
      have hf7 := hw
      refine W.lcmp hx hb dX12_isName_26 ?_
      refine lv_topi (fun z8 ez8 => ?_)
      refine lv_if_ne (tgt := 32) hx hb dX12_isName_27 (by decide) (fun c3 => ?_) (fun c3 => ?_)
      · have c3 : ¬ (sl 0 12) = r6 := fun hh => c3 (by rw [ez8]; exact (lg_cmp_eq _ _).mpr hh)
        have c3 : ¬ tkw B g m p = k1 := fun hh => c3 ((tkw_k (p := p) (m := m) hp9 hB1 (by omega) (hT.2.2.2.2.2.1 (by omega)) (k := k1) (by omega) hf7).mpr hh)
        refine lv_iinc (v := (nI (k1 + 1))) (lv' := [(1, .int (nI (k1 + 1))), (0, .ref (ar 0))]) hx hb dX12_isName_32 hl (k := 0) rfl (nI_add k1 1) (by decide) rfl (fun ls hl => ?_)
        refine lv_goto (tgt := 12) hx hb dX12_isName_35 (by decide) ?_
        exact ih5 (25 - (k1 + 1)) _ _ _ _ (by omega) ⟨(k1 + 1), rfl, by omega, by omega, fun i hi hz => if h9 : i = k1 then (by omega) else hv4_0 i (by omega) hz, hP, hS, lv_sub hl [0, 1] rfl, rfl⟩
      · have c3 : (sl 0 12) = r6 := (lg_cmp_eq _ _).mp (by rw [← ez8]; exact c3)
        have c3 : tkw B g m p = k1 := (tkw_k (p := p) (m := m) hp9 hB1 (by omega) (hT.2.2.2.2.2.1 (by omega)) (k := k1) (by omega) hf7).mp c3
        refine lv_iconst (v := 0) hx hb dX12_isName_30 (by decide) ?_
        exact W.zret (v := 0) hx hb hr rfl (fun t ht hW => ⟨⟨0, (st, sl), rfl, ⟨rfl, Or.inr (⟨rfl, by omega⟩)⟩, mB.of ht hP⟩, hS.F ht⟩) hS.2.2 dX12_isName_31
  · have c1 : ¬ (tkd B g m p) = 2 := fun hh => c1 ((nI_eq (a := (tkd B g m p)) (b := 2) (by omega) (by omega)).mpr hh)
    refine lv_iconst (v := 0) hx hb dX12_isName_8 (by decide) ?_
    exact W.zret (v := 0) hx hb hr rfl (fun t ht hW => ⟨⟨0, (st, sl), rfl, ⟨rfl, Or.inr (⟨rfl, by rw [tkw_n (by omega)]; omega⟩)⟩, mB.of ht hP⟩, hS.F ht⟩) hS.2.2 dX12_isName_9
set_option maxHeartbeats 4000000 in
set_option maxRecDepth 100000 in
theorem f_bad (l : Launch) (dC : Nat → ClassId) (dI : Nat → Nat → Nat) (ar : Nat → Nat) (cy : Nat → ClassId) (sz : Nat) (hN : MN ar) (st : Nat → Nat → Int32) (sl : Nat → Nat → Int64) (va : Nat) (B : Nat → Nat) (g m : Nat) (p : Nat) (hva : va < 5) (hI : MI st) (hB : MBt B g m st) (hT : TM B g m p st sl) : Met l yX12_bad wsX12_bad ({ frames := 0, cells := 0, slots := 0, locals := 0 }) (va_Pc [.ref (ar 0), .int (nI va)] (mPre dC dI ar cy sz st sl)) (va_Qi (fun (r : Int32) (x : MT) => MG [1, 2, 3, 6, 7, 8, 9, 10, 11, 12, 13, 14, 15, 20, 21, 22] st x.1 ∧ FM 2 st sl x.1 x.2 ∧ (r = 0 ∧ x.1 0 10 = nI (bdk (tkd B g m p) va) ∧ x.1 0 11 = nI (tka B g m p) ∧ TM B g m p x.1 x.2)) (mB dC dI ar cy) (MA ar sz)) 0 0 (MA ar sz) := by
  refine Met.ofW (cc := cX12_bad) (maxL := 2) (ret := (some .boolean)) (by decide) rfl ?_
  intro p9 e s m9 args below meth c9 s₁ B9 hml hv
  obtain ⟨rfl, hsz, hP, hK⟩ := hv
  have hx := B9.exec
  have hb := B9.bytes
  have hr := B9.returns
  have hts := atoms_spec (ws := wsX12_bad) B9.pre
  have hown : s.vm.findClass RX12 = some m9.cls := findClass_of_methodNamed B9.named
  subst hsz
  have hS : va_S (MA ar s.heap.size) s.heap s.heap [] := va_S.rf
  have hG : MG [1, 2, 3, 6, 7, 8, 9, 10, 11, 12, 13, 14, 15, 20, 21, 22] st st := MG.rf hI
  have hl := lv_entry ([.ref (ar 0), .int (nI va)]) (n := 2) (Nat.le_of_ble_eq_true rfl)
  rw [lg_entry_eq]
  generalize (lg_sl ([.ref (ar 0), .int (nI va)]) ++ List.replicate (2 - (lg_sl ([.ref (ar 0), .int (nI va)])).length) Slot.unset).toArray = ls at hl ⊢
  have hl : lv_has ls 2 [(0, .ref (ar 0)), (1, .int (nI va))] := hl
  clear hI
  have hB1 := hB.2.2.1
  have hB2 := hB.2.2.2.1
  have hF : FM 2 st sl st sl := FM.rf
  have hp9 := hT.2.2.2.2.2.2
  have hk1 := tkd_lt (B := B) (g := g) (m := m) (p := p)
  have hk2 := tkx_le (B := B) (g := g) (m := m) (p := p) hp9
  have hk3 := tka_le (B := B) (g := g) (m := m) (p := p) hp9 hB.2.2.1
  have hk4 := tkv_lt (p := p) hB hp9
  have hk5 := tkw_lt (B := B) (g := g) (m := m) (p := p)
  refine lv_aload_n hx hb dX12_bad_0 rfl (lv_at hl 0 rfl) ?_
  refine lv_aload_n hx hb dX12_bad_1 rfl (lv_at hl 0 rfl) ?_
  refine va_get (D := (dC, dI)) (ci := 11) (v := .int (st 0 7)) (C := RX12) (T := TX12) (N := 47) hx hb hts ii_X12_bad hown hK hP 0 rfl rfl 7 (by decide) (hts _ mm_X12_bad_1) (fun _ hh => hh) rfl dX12_bad_2 ?_
  refine zz_top (v := (nI (tkd B g m p))) (by show st 0 7 = _; rw [hT.2.2.1]) ?_
  refine lv_iconst (v := 1) hx hb dX12_bad_5 (by decide) ?_
  refine lv_icmp_ne (tgt := 13) hx hb dX12_bad_6 (by decide) (fun c1 => ?_) (fun c1 => ?_)
  · have c1 : ¬ (tkd B g m p) = 1 := fun hh => c1 ((nI_eq (a := (tkd B g m p)) (b := 1) (by omega) (by omega)).mpr hh)
    refine lv_iload_n hx hb dX12_bad_13 rfl (lv_at hl 1 rfl) ?_
    refine va_put (D := (dC, dI)) (ci := 11) (v := .int (nI va)) (ty := .int) (C := RX12) (T := TX12) (N := 47) hx hb hts ii_X12_bad tyX12 tyX12_ok nmX12 hown hK hP (mD hN _ _ _ _) hS 0 rfl rfl 10 (by decide) (hts _ mm_X12_bad_2) (fun _ hh => hh) rfl (by decide +kernel) rfl rfl (Nat.le_of_ble_eq_true rfl) dX12_bad_14 (fun H locs hP _ hS => ?_)
    have hP : va_P (dC, dI) vwCl (mw ar cy (up2 st 0 10 (nI va)) sl) H := hP
    obtain ⟨st1, est1⟩ : ∃ y, y = up2 st 0 10 (nI va) := ⟨_, rfl⟩
    have hG : MG [1, 2, 3, 6, 7, 8, 9, 10, 11, 12, 13, 14, 15, 20, 21, 22] st st1 := by rw [est1]; exact hG.up (rz (by decide : mr 0 10 = 0)) (pn (by decide : pcl 0 10 = 23) (by decide))
    rw [← est1] at hP
    have hF : FM 2 st sl st1 sl := by rw [est1]; exact hF.up (by decide)
    have hT : TM B g m p st1 sl := by rw [est1]; exact hT.up (by omega)
    refine lv_aload_n hx hb dX12_bad_17 rfl (lv_at hl 0 rfl) ?_
    refine lv_aload_n hx hb dX12_bad_18 rfl (lv_at hl 0 rfl) ?_
    refine va_get (D := (dC, dI)) (ci := 11) (v := .int (st1 0 6)) (C := RX12) (T := TX12) (N := 47) hx hb hts ii_X12_bad hown hK hP 0 rfl rfl 6 (by decide) (hts _ mm_X12_bad_3) (fun _ hh => hh) rfl dX12_bad_19 ?_
    refine zz_top (v := (nI (tka B g m p))) (by show st1 0 6 = _; rw [hT.2.1]) ?_
    refine va_put (D := (dC, dI)) (ci := 11) (v := .int (nI (tka B g m p))) (ty := .int) (C := RX12) (T := TX12) (N := 47) hx hb hts ii_X12_bad tyX12 tyX12_ok nmX12 hown hK hP (mD hN _ _ _ _) hS 0 rfl rfl 11 (by decide) (hts _ mm_X12_bad_4) (fun _ hh => hh) rfl (by decide +kernel) rfl rfl (Nat.le_of_ble_eq_true rfl) dX12_bad_22 (fun H locs hP _ hS => ?_)
    have hP : va_P (dC, dI) vwCl (mw ar cy (up2 st1 0 11 (nI (tka B g m p))) sl) H := hP
    obtain ⟨st2, est2⟩ : ∃ y, y = up2 st1 0 11 (nI (tka B g m p)) := ⟨_, rfl⟩
    have hG : MG [1, 2, 3, 6, 7, 8, 9, 10, 11, 12, 13, 14, 15, 20, 21, 22] st st2 := by rw [est2]; exact hG.up (rz (by decide : mr 0 11 = 0)) (pn (by decide : pcl 0 11 = 0) (by decide))
    rw [← est2] at hP
    have hF : FM 2 st sl st2 sl := by rw [est2]; exact hF.up (by decide)
    have hT : TM B g m p st2 sl := by rw [est2]; exact hT.up (by omega)
    refine lv_iconst (v := 0) hx hb dX12_bad_25 (by decide) ?_
    exact W.zret (v := 0) hx hb hr rfl (fun t ht hW => ⟨⟨0, (st2, sl), rfl, ⟨hG, hF, ⟨rfl, by show st2 0 10 = _; rw [est2, up2_ne (r := 0) (k := 11) (a := 0) (j := 10) _ _ (by omega), est1, up2_same, bdk_n (by omega)], by show st2 0 11 = _; rw [est2, up2_same], hT⟩⟩, mB.of ht hP⟩, hS.F ht⟩) hS.2.2 dX12_bad_26
  · have c1 : (tkd B g m p) = 1 := (nI_eq (a := (tkd B g m p)) (b := 1) (by omega) (by omega)).mp c1
    refine lv_iconst (v := 1) hx hb dX12_bad_9 (by decide) ?_
    refine lv_goto (tgt := 14) hx hb dX12_bad_10 (by decide) ?_
    refine va_put (D := (dC, dI)) (ci := 11) (v := .int 1) (ty := .int) (C := RX12) (T := TX12) (N := 47) hx hb hts ii_X12_bad tyX12 tyX12_ok nmX12 hown hK hP (mD hN _ _ _ _) hS 0 rfl rfl 10 (by decide) (hts _ mm_X12_bad_2) (fun _ hh => hh) rfl (by decide +kernel) rfl rfl (Nat.le_of_ble_eq_true rfl) dX12_bad_14 (fun H locs hP _ hS => ?_)
    have hP : va_P (dC, dI) vwCl (mw ar cy (up2 st 0 10 1) sl) H := hP
    obtain ⟨st3, est3⟩ : ∃ y, y = up2 st 0 10 1 := ⟨_, rfl⟩
    have hG : MG [1, 2, 3, 6, 7, 8, 9, 10, 11, 12, 13, 14, 15, 20, 21, 22] st st3 := by rw [est3]; exact hG.up (rz (by decide : mr 0 10 = 0)) (pn (by decide : pcl 0 10 = 23) (by decide))
    rw [← est3] at hP
    have hF : FM 2 st sl st3 sl := by rw [est3]; exact hF.up (by decide)
    have hT : TM B g m p st3 sl := by rw [est3]; exact hT.up (by omega)
    refine lv_aload_n hx hb dX12_bad_17 rfl (lv_at hl 0 rfl) ?_
    refine lv_aload_n hx hb dX12_bad_18 rfl (lv_at hl 0 rfl) ?_
    refine va_get (D := (dC, dI)) (ci := 11) (v := .int (st3 0 6)) (C := RX12) (T := TX12) (N := 47) hx hb hts ii_X12_bad hown hK hP 0 rfl rfl 6 (by decide) (hts _ mm_X12_bad_3) (fun _ hh => hh) rfl dX12_bad_19 ?_
    refine zz_top (v := (nI (tka B g m p))) (by show st3 0 6 = _; rw [hT.2.1]) ?_
    refine va_put (D := (dC, dI)) (ci := 11) (v := .int (nI (tka B g m p))) (ty := .int) (C := RX12) (T := TX12) (N := 47) hx hb hts ii_X12_bad tyX12 tyX12_ok nmX12 hown hK hP (mD hN _ _ _ _) hS 0 rfl rfl 11 (by decide) (hts _ mm_X12_bad_4) (fun _ hh => hh) rfl (by decide +kernel) rfl rfl (Nat.le_of_ble_eq_true rfl) dX12_bad_22 (fun H locs hP _ hS => ?_)
    have hP : va_P (dC, dI) vwCl (mw ar cy (up2 st3 0 11 (nI (tka B g m p))) sl) H := hP
    obtain ⟨st4, est4⟩ : ∃ y, y = up2 st3 0 11 (nI (tka B g m p)) := ⟨_, rfl⟩
    have hG : MG [1, 2, 3, 6, 7, 8, 9, 10, 11, 12, 13, 14, 15, 20, 21, 22] st st4 := by rw [est4]; exact hG.up (rz (by decide : mr 0 11 = 0)) (pn (by decide : pcl 0 11 = 0) (by decide))
    rw [← est4] at hP
    have hF : FM 2 st sl st4 sl := by rw [est4]; exact hF.up (by decide)
    have hT : TM B g m p st4 sl := by rw [est4]; exact hT.up (by omega)
    refine lv_iconst (v := 0) hx hb dX12_bad_25 (by decide) ?_
    exact W.zret (v := 0) hx hb hr rfl (fun t ht hW => ⟨⟨0, (st4, sl), rfl, ⟨hG, hF, ⟨rfl, by show st4 0 10 = _; rw [est4, up2_ne (r := 0) (k := 11) (a := 0) (j := 10) _ _ (by omega), est3, up2_same, bdk_y (by omega)]; rfl, by show st4 0 11 = _; rw [est4, up2_same], hT⟩⟩, mB.of ht hP⟩, hS.F ht⟩) hS.2.2 dX12_bad_26
set_option maxHeartbeats 4000000 in
set_option maxRecDepth 100000 in
theorem f_readNumber (l : Launch) (dC : Nat → ClassId) (dI : Nat → Nat → Nat) (ar : Nat → Nat) (cy : Nat → ClassId) (sz : Nat) (hN : MN ar) (st : Nat → Nat → Int32) (sl : Nat → Nat → Int64) (va : Nat) (vb : Nat) (B : Nat → Nat) (g m : Nat) (p : Nat) (hva : va < 1000) (hvb : vb < 1000) (hI : MI st) (hB : MBt B g m st) (hT : TM B g m p st sl) : Met l yX12_readNumber wsX12_readNumber ({ frames := 2, cells := 0, slots := 0, locals := 45 }) (va_Pc [.ref (ar 0), .int (nI va), .int (nI vb)] (mPre dC dI ar cy sz st sl)) (va_Qi (fun (r : Int32) (x : MT) => MG [1, 2, 3, 6, 7, 8, 9, 10, 11, 12, 13, 14, 15, 20, 21, 22] st x.1 ∧ FM 2 st sl x.1 x.2 ∧ ((r = 1 ∧ va ≤ tkv B g p ∧ tkv B g p ≤ vb ∧ tkd B g m p = 3 ∧ x.1 0 13 = nI (tkv B g p) ∧ TM B g m (tkx B g m p) x.1 x.2 ∧ (∀ k, eNum B g m p va vb k = k (tkx B g m p) (tkv B g p)) ∧ x.1 0 10 = st 0 10) ∨ (∃ f : Nat, ∃ a : Nat, r = 0 ∧ x.1 0 10 = nI f ∧ x.1 0 11 = nI a ∧ 1 ≤ f ∧ (∀ k, eNum B g m p va vb k = fl f a)))) (mB dC dI ar cy) (MA ar sz)) 0 0 (MA ar sz) := by
  refine Met.ofW (cc := cX12_readNumber) (maxL := 3) (ret := (some .boolean)) (by decide) rfl ?_
  intro p9 e s m9 args below meth c9 s₁ B9 hml hv
  obtain ⟨rfl, hsz, hP, hK⟩ := hv
  have hx := B9.exec
  have hb := B9.bytes
  have hr := B9.returns
  have hts := atoms_spec (ws := wsX12_readNumber) B9.pre
  have hown : s.vm.findClass RX12 = some m9.cls := findClass_of_methodNamed B9.named
  subst hsz
  have hS : va_S (MA ar s.heap.size) s.heap s.heap [] := va_S.rf
  have hG : MG [1, 2, 3, 6, 7, 8, 9, 10, 11, 12, 13, 14, 15, 20, 21, 22] st st := MG.rf hI
  have hl := lv_entry ([.ref (ar 0), .int (nI va), .int (nI vb)]) (n := 3) (Nat.le_of_ble_eq_true rfl)
  rw [lg_entry_eq]
  generalize (lg_sl ([.ref (ar 0), .int (nI va), .int (nI vb)]) ++ List.replicate (3 - (lg_sl ([.ref (ar 0), .int (nI va), .int (nI vb)])).length) Slot.unset).toArray = ls at hl ⊢
  have hl : lv_has ls 3 [(0, .ref (ar 0)), (1, .int (nI va)), (2, .int (nI vb))] := hl
  clear hI
  have hB1 := hB.2.2.1
  have hB2 := hB.2.2.2.1
  have hF : FM 2 st sl st sl := FM.rf
  have hp9 := hT.2.2.2.2.2.2
  have hk1 := tkd_lt (B := B) (g := g) (m := m) (p := p)
  have hk2 := tkx_le (B := B) (g := g) (m := m) (p := p) hp9
  have hk3 := tka_le (B := B) (g := g) (m := m) (p := p) hp9 hB.2.2.1
  have hk4 := tkv_lt (p := p) hB hp9
  have hk5 := tkw_lt (B := B) (g := g) (m := m) (p := p)
  refine lv_aload_n hx hb dX12_readNumber_0 rfl (lv_at hl 0 rfl) ?_
  refine va_get (D := (dC, dI)) (ci := 11) (v := .int (st 0 7)) (C := RX12) (T := TX12) (N := 47) hx hb hts ii_X12_readNumber hown hK hP 0 rfl rfl 7 (by decide) (hts _ mm_X12_readNumber_1) (fun _ hh => hh) rfl dX12_readNumber_1 ?_
  refine zz_top (v := (nI (tkd B g m p))) (by show st 0 7 = _; rw [hT.2.2.1]) ?_
  refine lv_iconst (v := 3) hx hb dX12_readNumber_4 (by decide) ?_
  refine lv_icmp_eq (tgt := 14) hx hb dX12_readNumber_5 (by decide) (fun c1 => ?_) (fun c1 => ?_)
  · have c1 : (tkd B g m p) = 3 := (nI_eq (a := (tkd B g m p)) (b := 3) (by omega) (by omega)).mp c1
    refine lv_aload_n hx hb dX12_readNumber_14 rfl (lv_at hl 0 rfl) ?_
    refine va_get (D := (dC, dI)) (ci := 11) (v := .int (st 0 8)) (C := RX12) (T := TX12) (N := 47) hx hb hts ii_X12_readNumber hown hK hP 0 rfl rfl 8 (by decide) (hts _ mm_X12_readNumber_2) (fun _ hh => hh) rfl dX12_readNumber_15 ?_
    refine zz_top (v := (nI (tkv B g p))) (by show st 0 8 = _; rw [(hT.2.2.2.1 (by omega))]) ?_
    refine lv_iload_n hx hb dX12_readNumber_18 rfl (lv_at hl 1 rfl) ?_
    refine lv_iload_n hx hb dX12_readNumber_19 rfl (lv_at hl 2 rfl) ?_
    refine va_calli (va_runS (As := [.int (nI (tkv B g p)), .int (nI va), .int (nI vb)]) (rest := []) ⟨hx, hb, hml, hown, hts⟩ (f_isInN l dC dI ar cy _ hN st sl (tkv B g p) va vb (by omega) (by omega) (by omega) hG.1 ) (va_cwS 3 hts gX12_readNumber_X12_isIn rfl rfl rfl (by decide +kernel) ⟨Nat.le_of_ble_eq_true rfl, Nat.le_of_ble_eq_true rfl⟩) ⟨fun a U g mk q => ⟨q.1, mPre.blind q.2⟩, fun U hU hW => ⟨rfl, mPre.of hP hK hU hW⟩⟩ rfl rfl hl.1 rfl (lv_room (Nat.le_of_ble_eq_true rfl)) dX12_readNumber_20 ⟨Nat.le_of_ble_eq_true rfl, Nat.le_of_ble_eq_true rfl⟩) hS (fun q _ h => MA.le hS.1 q h) (MA.le hS.1) (fun r1 x t H locs ht hvm hw hB9 _ _ hS => ?_)
    have hP := mB.at ht hB9
    clear hB9 ht hvm
    obtain ⟨rfl, hw⟩ := hw
    have hP : va_P (dC, dI) vwCl (mw ar cy st sl) _ := hP
    rcases hw with ⟨rfl, hf2, hf3⟩ | ⟨rfl, hf4⟩
    · refine lv_if_ne (tgt := 32) hx hb dX12_readNumber_23 (by decide) (fun _ => ?_) (fun cc => absurd cc (by decide))
      refine lv_aload_n hx hb dX12_readNumber_32 rfl (lv_at hl 0 rfl) ?_
      refine lv_aload_n hx hb dX12_readNumber_33 rfl (lv_at hl 0 rfl) ?_
      refine va_get (D := (dC, dI)) (ci := 11) (v := .int (st 0 8)) (C := RX12) (T := TX12) (N := 47) hx hb hts ii_X12_readNumber hown hK hP 0 rfl rfl 8 (by decide) (hts _ mm_X12_readNumber_2) (fun _ hh => hh) rfl dX12_readNumber_34 ?_
      refine zz_top (v := (nI (tkv B g p))) (by show st 0 8 = _; rw [(hT.2.2.2.1 (by omega))]) ?_
      refine va_put (D := (dC, dI)) (ci := 11) (v := .int (nI (tkv B g p))) (ty := .int) (C := RX12) (T := TX12) (N := 47) hx hb hts ii_X12_readNumber tyX12 tyX12_ok nmX12 hown hK hP (mD hN _ _ _ _) hS 0 rfl rfl 13 (by decide) (hts _ mm_X12_readNumber_3) (fun _ hh => hh) rfl (by decide +kernel) rfl rfl (Nat.le_of_ble_eq_true rfl) dX12_readNumber_37 (fun H locs hP _ hS => ?_)
      have hP : va_P (dC, dI) vwCl (mw ar cy (up2 st 0 13 (nI (tkv B g p))) sl) H := hP
      obtain ⟨st5, est5⟩ : ∃ y, y = up2 st 0 13 (nI (tkv B g p)) := ⟨_, rfl⟩
      have hG : MG [1, 2, 3, 6, 7, 8, 9, 10, 11, 12, 13, 14, 15, 20, 21, 22] st st5 := by rw [est5]; exact hG.up (rz (by decide : mr 0 13 = 0)) (pn (by decide : pcl 0 13 = 16) (by decide))
      rw [← est5] at hP
      have hF : FM 2 st sl st5 sl := by rw [est5]; exact hF.up (by decide)
      have hT : TM B g m p st5 sl := by rw [est5]; exact hT.up (by omega)
      refine lv_aload_n hx hb dX12_readNumber_40 rfl (lv_at hl 0 rfl) ?_
      refine va_callv (va_runV (As := []) (rest := []) ⟨hx, hb, hml, hown, hts⟩ (f_go l dC dI ar cy _ hN st5 sl B g m (tkx B g m p) hG.1 (MBt.fr hB hF) hT.1 hk2.2) (cwV 0 hts gX12_readNumber_X12_go rfl rfl rfl (by decide +kernel) ⟨Nat.le_of_ble_eq_true rfl, Nat.le_of_ble_eq_true rfl⟩) ⟨fun a U g mk q => ⟨q.1, mPre.blind q.2⟩, va_recv hK hP (ci := 11) (q0 := 0) rfl rfl, fun U hU hW => ⟨rfl, mPre.of hP hK hU hW⟩⟩ rfl rfl hl.1 rfl (lv_room (Nat.le_of_ble_eq_true rfl)) dX12_readNumber_41 ⟨Nat.le_of_ble_eq_true rfl, Nat.le_of_ble_eq_true rfl⟩) hS (fun q _ h => MA.le hS.1 q h) (MA.le hS.1) (fun x t H locs ht hvm hw hB9 _ _ hS => ?_)
      have hP := mB.at ht hB9
      clear hB9 ht hvm
      obtain ⟨st7, sl8⟩ := x
      obtain ⟨hG2, hF2, hw⟩ := hw
      dsimp only at hG2 hF2 hw
      have hP : va_P (dC, dI) vwCl (mw ar cy st7 sl8) _ := hP
      have hG : MG [1, 2, 3, 6, 7, 8, 9, 10, 11, 12, 13, 14, 15, 20, 21, 22] st st7 := hG.tr hG2 (by decide)
      have hFst7 : FM 1 st5 sl st7 sl8 := hF2
      have hF : FM 2 st sl st7 sl8 := hF.tr hFst7 (by omega) (by omega)
      clear hG2 hF2
      have hT := hw
      have hp9 := hT.2.2.2.2.2.2
      have hk1 := tkd_lt (B := B) (g := g) (m := m) (p := (tkx B g m p))
      have hk2 := tkx_le (B := B) (g := g) (m := m) (p := (tkx B g m p)) hp9
      have hk3 := tka_le (B := B) (g := g) (m := m) (p := (tkx B g m p)) hp9 hB.2.2.1
      have hk4 := tkv_lt (p := (tkx B g m p)) hB hp9
      have hk5 := tkw_lt (B := B) (g := g) (m := m) (p := (tkx B g m p))
      refine lv_iconst (v := 1) hx hb dX12_readNumber_44 (by decide) ?_
      exact W.zret (v := 1) hx hb hr rfl (fun t ht hW => ⟨⟨1, (st7, sl8), rfl, ⟨hG, hF, Or.inl (⟨rfl, by omega, by omega, by omega, by show st7 0 13 = _; rw [(hFst7 0 13 (by decide)).1, est5, up2_same], hT, fun k => by unfold eNum; rw [if_neg (by omega), if_neg (by omega)], by show st7 0 10 = st 0 10; rw [(hFst7 0 10 (by decide)).1, est5, up2_ne (r := 0) (k := 13) (a := 0) (j := 10) _ _ (by omega)]⟩)⟩, mB.of ht hP⟩, hS.F ht⟩) hS.2.2 dX12_readNumber_45
    · refine lv_if_ne (tgt := 32) hx hb dX12_readNumber_23 (by decide) (fun cc => absurd (by decide) cc) (fun _ => ?_)
      refine lv_aload_n hx hb dX12_readNumber_26 rfl (lv_at hl 0 rfl) ?_
      refine lv_iconst (v := 2) hx hb dX12_readNumber_27 (by decide) ?_
      refine va_calli (va_runV (As := [.int 2]) (rest := []) ⟨hx, hb, hml, hown, hts⟩ (f_bad l dC dI ar cy _ hN st sl 2 B g m p (by omega) hG.1 (MBt.fr hB hF) hT) (cwV 1 hts gX12_readNumber_X12_bad rfl rfl rfl (by decide +kernel) ⟨Nat.le_of_ble_eq_true rfl, Nat.le_of_ble_eq_true rfl⟩) ⟨fun a U g mk q => ⟨q.1, mPre.blind q.2⟩, va_recv hK hP (ci := 11) (q0 := 0) rfl rfl, fun U hU hW => ⟨rfl, mPre.of hP hK hU hW⟩⟩ rfl rfl hl.1 rfl (lv_room (Nat.le_of_ble_eq_true rfl)) dX12_readNumber_28 ⟨Nat.le_of_ble_eq_true rfl, Nat.le_of_ble_eq_true rfl⟩) hS (fun q _ h => MA.le hS.1 q h) (MA.le hS.1) (fun r9 x t H locs ht hvm hw hB9 _ _ hS => ?_)
      have hP := mB.at ht hB9
      clear hB9 ht hvm
      obtain ⟨st10, sl11⟩ := x
      obtain ⟨hG2, hF2, hw⟩ := hw
      dsimp only at hG2 hF2 hw
      have hP : va_P (dC, dI) vwCl (mw ar cy st10 sl11) _ := hP
      have hG : MG [1, 2, 3, 6, 7, 8, 9, 10, 11, 12, 13, 14, 15, 20, 21, 22] st st10 := hG.tr hG2 (by decide)
      have hFst10 : FM 2 st sl st10 sl11 := hF2
      have hF : FM 2 st sl st10 sl11 := hF.tr hFst10 (by omega) (by omega)
      clear hG2 hF2
      obtain ⟨rfl, hf12, hf13, hT⟩ := hw
      have hp9 := hT.2.2.2.2.2.2
      have hk1 := tkd_lt (B := B) (g := g) (m := m) (p := p)
      have hk2 := tkx_le (B := B) (g := g) (m := m) (p := p) hp9
      have hk3 := tka_le (B := B) (g := g) (m := m) (p := p) hp9 hB.2.2.1
      have hk4 := tkv_lt (p := p) hB hp9
      have hk5 := tkw_lt (B := B) (g := g) (m := m) (p := p)
      exact W.zret (v := 0) hx hb hr rfl (fun t ht hW => ⟨⟨0, (st10, sl11), rfl, ⟨hG, hF, Or.inr (⟨2, (tka B g m p), rfl, by show st10 0 10 = _; rw [hf12, bdk_n (by omega)], by show st10 0 11 = _; rw [hf13], by omega, fun k => by unfold eNum; rw [if_neg (by omega), if_pos (by omega)]⟩)⟩, mB.of ht hP⟩, hS.F ht⟩) hS.2.2 dX12_readNumber_31
  · have c1 : ¬ (tkd B g m p) = 3 := fun hh => c1 ((nI_eq (a := (tkd B g m p)) (b := 3) (by omega) (by omega)).mpr hh)
    refine lv_aload_n hx hb dX12_readNumber_8 rfl (lv_at hl 0 rfl) ?_
    refine lv_iconst (v := 1) hx hb dX12_readNumber_9 (by decide) ?_
    refine va_calli (va_runV (As := [.int 1]) (rest := []) ⟨hx, hb, hml, hown, hts⟩ (f_bad l dC dI ar cy _ hN st sl 1 B g m p (by omega) hG.1 (MBt.fr hB hF) hT) (cwV 1 hts gX12_readNumber_X12_bad rfl rfl rfl (by decide +kernel) ⟨Nat.le_of_ble_eq_true rfl, Nat.le_of_ble_eq_true rfl⟩) ⟨fun a U g mk q => ⟨q.1, mPre.blind q.2⟩, va_recv hK hP (ci := 11) (q0 := 0) rfl rfl, fun U hU hW => ⟨rfl, mPre.of hP hK hU hW⟩⟩ rfl rfl hl.1 rfl (lv_room (Nat.le_of_ble_eq_true rfl)) dX12_readNumber_10 ⟨Nat.le_of_ble_eq_true rfl, Nat.le_of_ble_eq_true rfl⟩) hS (fun q _ h => MA.le hS.1 q h) (MA.le hS.1) (fun r14 x t H locs ht hvm hw hB9 _ _ hS => ?_)
    have hP := mB.at ht hB9
    clear hB9 ht hvm
    obtain ⟨st15, sl16⟩ := x
    obtain ⟨hG2, hF2, hw⟩ := hw
    dsimp only at hG2 hF2 hw
    have hP : va_P (dC, dI) vwCl (mw ar cy st15 sl16) _ := hP
    have hG : MG [1, 2, 3, 6, 7, 8, 9, 10, 11, 12, 13, 14, 15, 20, 21, 22] st st15 := hG.tr hG2 (by decide)
    have hFst15 : FM 2 st sl st15 sl16 := hF2
    have hF : FM 2 st sl st15 sl16 := hF.tr hFst15 (by omega) (by omega)
    clear hG2 hF2
    obtain ⟨rfl, hf17, hf18, hT⟩ := hw
    have hp9 := hT.2.2.2.2.2.2
    have hk1 := tkd_lt (B := B) (g := g) (m := m) (p := p)
    have hk2 := tkx_le (B := B) (g := g) (m := m) (p := p) hp9
    have hk3 := tka_le (B := B) (g := g) (m := m) (p := p) hp9 hB.2.2.1
    have hk4 := tkv_lt (p := p) hB hp9
    have hk5 := tkw_lt (B := B) (g := g) (m := m) (p := p)
    exact W.zret (v := 0) hx hb hr rfl (fun t ht hW => ⟨⟨0, (st15, sl16), rfl, ⟨hG, hF, Or.inr (⟨1, (tka B g m p), rfl, by show st15 0 10 = _; rw [hf17, bdk_1], by show st15 0 11 = _; rw [hf18], by omega, fun k => by unfold eNum; rw [if_pos (by omega)]⟩)⟩, mB.of ht hP⟩, hS.F ht⟩) hS.2.2 dX12_readNumber_13
set_option maxHeartbeats 4000000 in
set_option maxRecDepth 100000 in
theorem f_readEnd (l : Launch) (dC : Nat → ClassId) (dI : Nat → Nat → Nat) (ar : Nat → Nat) (cy : Nat → ClassId) (sz : Nat) (hN : MN ar) (st : Nat → Nat → Int32) (sl : Nat → Nat → Int64) (B : Nat → Nat) (g m : Nat) (p : Nat) (hI : MI st) (hB : MBt B g m st) (hT : TM B g m p st sl) : Met l yX12_readEnd wsX12_readEnd ({ frames := 2, cells := 0, slots := 0, locals := 45 }) (va_Pc [.ref (ar 0)] (mPre dC dI ar cy sz st sl)) (va_Qi (fun (r : Int32) (x : MT) => MG [1, 2, 3, 6, 7, 8, 9, 10, 11, 12, 13, 14, 15, 20, 21, 22] st x.1 ∧ FM 2 st sl x.1 x.2 ∧ ((r = 1 ∧ TM B g m (tkx B g m p) x.1 x.2 ∧ (∀ k, eEnd B g m p k = k (tkx B g m p)) ∧ x.1 0 10 = st 0 10) ∨ (∃ f : Nat, ∃ a : Nat, r = 0 ∧ x.1 0 10 = nI f ∧ x.1 0 11 = nI a ∧ 1 ≤ f ∧ (∀ k, eEnd B g m p k = fl f a)))) (mB dC dI ar cy) (MA ar sz)) 0 0 (MA ar sz) := by
  refine Met.ofW (cc := cX12_readEnd) (maxL := 1) (ret := (some .boolean)) (by decide) rfl ?_
  intro p9 e s m9 args below meth c9 s₁ B9 hml hv
  obtain ⟨rfl, hsz, hP, hK⟩ := hv
  have hx := B9.exec
  have hb := B9.bytes
  have hr := B9.returns
  have hts := atoms_spec (ws := wsX12_readEnd) B9.pre
  have hown : s.vm.findClass RX12 = some m9.cls := findClass_of_methodNamed B9.named
  subst hsz
  have hS : va_S (MA ar s.heap.size) s.heap s.heap [] := va_S.rf
  have hG : MG [1, 2, 3, 6, 7, 8, 9, 10, 11, 12, 13, 14, 15, 20, 21, 22] st st := MG.rf hI
  have hl := lv_entry ([.ref (ar 0)]) (n := 1) (Nat.le_of_ble_eq_true rfl)
  rw [lg_entry_eq]
  generalize (lg_sl ([.ref (ar 0)]) ++ List.replicate (1 - (lg_sl ([.ref (ar 0)])).length) Slot.unset).toArray = ls at hl ⊢
  have hl : lv_has ls 1 [(0, .ref (ar 0))] := hl
  clear hI
  have hB1 := hB.2.2.1
  have hB2 := hB.2.2.2.1
  have hF : FM 2 st sl st sl := FM.rf
  have hp9 := hT.2.2.2.2.2.2
  have hk1 := tkd_lt (B := B) (g := g) (m := m) (p := p)
  have hk2 := tkx_le (B := B) (g := g) (m := m) (p := p) hp9
  have hk3 := tka_le (B := B) (g := g) (m := m) (p := p) hp9 hB.2.2.1
  have hk4 := tkv_lt (p := p) hB hp9
  have hk5 := tkw_lt (B := B) (g := g) (m := m) (p := p)
  refine lv_aload_n hx hb dX12_readEnd_0 rfl (lv_at hl 0 rfl) ?_
  refine lv_bipush (v := 59) hx hb dX12_readEnd_1 (by decide) ?_
  refine va_calli (va_runV (As := [.int 59]) (rest := []) ⟨hx, hb, hml, hown, hts⟩ (f_isSign59 l dC dI ar cy _ hN st sl B g m p hG.1 (MBt.fr hB hF) hT) (cwV 1 hts gX12_readEnd_X12_isSign rfl rfl rfl (by decide +kernel) ⟨Nat.le_of_ble_eq_true rfl, Nat.le_of_ble_eq_true rfl⟩) ⟨fun a U g mk q => ⟨q.1, mPre.blind q.2⟩, va_recv hK hP (ci := 11) (q0 := 0) rfl rfl, fun U hU hW => ⟨rfl, mPre.of hP hK hU hW⟩⟩ rfl rfl hl.1 rfl (lv_room (Nat.le_of_ble_eq_true rfl)) dX12_readEnd_3 ⟨Nat.le_of_ble_eq_true rfl, Nat.le_of_ble_eq_true rfl⟩) hS (fun q _ h => MA.le hS.1 q h) (MA.le hS.1) (fun r1 x t H locs ht hvm hw hB9 _ _ hS => ?_)
  have hP := mB.at ht hB9
  clear hB9 ht hvm
  obtain ⟨rfl, hw⟩ := hw
  have hP : va_P (dC, dI) vwCl (mw ar cy st sl) _ := hP
  rcases hw with ⟨rfl, hf2, hf3⟩ | ⟨rfl, hf4⟩
  · refine lv_if_ne (tgt := 15) hx hb dX12_readEnd_6 (by decide) (fun _ => ?_) (fun cc => absurd cc (by decide))
    refine lv_aload_n hx hb dX12_readEnd_15 rfl (lv_at hl 0 rfl) ?_
    refine va_callv (va_runV (As := []) (rest := []) ⟨hx, hb, hml, hown, hts⟩ (f_go l dC dI ar cy _ hN st sl B g m (tkx B g m p) hG.1 (MBt.fr hB hF) hT.1 hk2.2) (cwV 0 hts gX12_readEnd_X12_go rfl rfl rfl (by decide +kernel) ⟨Nat.le_of_ble_eq_true rfl, Nat.le_of_ble_eq_true rfl⟩) ⟨fun a U g mk q => ⟨q.1, mPre.blind q.2⟩, va_recv hK hP (ci := 11) (q0 := 0) rfl rfl, fun U hU hW => ⟨rfl, mPre.of hP hK hU hW⟩⟩ rfl rfl hl.1 rfl (lv_room (Nat.le_of_ble_eq_true rfl)) dX12_readEnd_16 ⟨Nat.le_of_ble_eq_true rfl, Nat.le_of_ble_eq_true rfl⟩) hS (fun q _ h => MA.le hS.1 q h) (MA.le hS.1) (fun x t H locs ht hvm hw hB9 _ _ hS => ?_)
    have hP := mB.at ht hB9
    clear hB9 ht hvm
    obtain ⟨st6, sl7⟩ := x
    obtain ⟨hG2, hF2, hw⟩ := hw
    dsimp only at hG2 hF2 hw
    have hP : va_P (dC, dI) vwCl (mw ar cy st6 sl7) _ := hP
    have hG : MG [1, 2, 3, 6, 7, 8, 9, 10, 11, 12, 13, 14, 15, 20, 21, 22] st st6 := hG.tr hG2 (by decide)
    have hFst6 : FM 1 st sl st6 sl7 := hF2
    have hF : FM 2 st sl st6 sl7 := hF.tr hFst6 (by omega) (by omega)
    clear hG2 hF2
    have hT := hw
    have hp9 := hT.2.2.2.2.2.2
    have hk1 := tkd_lt (B := B) (g := g) (m := m) (p := (tkx B g m p))
    have hk2 := tkx_le (B := B) (g := g) (m := m) (p := (tkx B g m p)) hp9
    have hk3 := tka_le (B := B) (g := g) (m := m) (p := (tkx B g m p)) hp9 hB.2.2.1
    have hk4 := tkv_lt (p := (tkx B g m p)) hB hp9
    have hk5 := tkw_lt (B := B) (g := g) (m := m) (p := (tkx B g m p))
    refine lv_iconst (v := 1) hx hb dX12_readEnd_19 (by decide) ?_
    exact W.zret (v := 1) hx hb hr rfl (fun t ht hW => ⟨⟨1, (st6, sl7), rfl, ⟨hG, hF, Or.inl (⟨rfl, hT, fun k => by unfold eEnd; rw [if_neg (by omega)], by show st6 0 10 = st 0 10; rw [(hFst6 0 10 (by decide)).1]⟩)⟩, mB.of ht hP⟩, hS.F ht⟩) hS.2.2 dX12_readEnd_20
  · refine lv_if_ne (tgt := 15) hx hb dX12_readEnd_6 (by decide) (fun cc => absurd (by decide) cc) (fun _ => ?_)
    refine lv_aload_n hx hb dX12_readEnd_9 rfl (lv_at hl 0 rfl) ?_
    refine lv_iconst (v := 1) hx hb dX12_readEnd_10 (by decide) ?_
    refine va_calli (va_runV (As := [.int 1]) (rest := []) ⟨hx, hb, hml, hown, hts⟩ (f_bad l dC dI ar cy _ hN st sl 1 B g m p (by omega) hG.1 (MBt.fr hB hF) hT) (cwV 1 hts gX12_readEnd_X12_bad rfl rfl rfl (by decide +kernel) ⟨Nat.le_of_ble_eq_true rfl, Nat.le_of_ble_eq_true rfl⟩) ⟨fun a U g mk q => ⟨q.1, mPre.blind q.2⟩, va_recv hK hP (ci := 11) (q0 := 0) rfl rfl, fun U hU hW => ⟨rfl, mPre.of hP hK hU hW⟩⟩ rfl rfl hl.1 rfl (lv_room (Nat.le_of_ble_eq_true rfl)) dX12_readEnd_11 ⟨Nat.le_of_ble_eq_true rfl, Nat.le_of_ble_eq_true rfl⟩) hS (fun q _ h => MA.le hS.1 q h) (MA.le hS.1) (fun r8 x t H locs ht hvm hw hB9 _ _ hS => ?_)
    have hP := mB.at ht hB9
    clear hB9 ht hvm
    obtain ⟨st9, sl10⟩ := x
    obtain ⟨hG2, hF2, hw⟩ := hw
    dsimp only at hG2 hF2 hw
    have hP : va_P (dC, dI) vwCl (mw ar cy st9 sl10) _ := hP
    have hG : MG [1, 2, 3, 6, 7, 8, 9, 10, 11, 12, 13, 14, 15, 20, 21, 22] st st9 := hG.tr hG2 (by decide)
    have hFst9 : FM 2 st sl st9 sl10 := hF2
    have hF : FM 2 st sl st9 sl10 := hF.tr hFst9 (by omega) (by omega)
    clear hG2 hF2
    obtain ⟨rfl, hf11, hf12, hT⟩ := hw
    have hp9 := hT.2.2.2.2.2.2
    have hk1 := tkd_lt (B := B) (g := g) (m := m) (p := p)
    have hk2 := tkx_le (B := B) (g := g) (m := m) (p := p) hp9
    have hk3 := tka_le (B := B) (g := g) (m := m) (p := p) hp9 hB.2.2.1
    have hk4 := tkv_lt (p := p) hB hp9
    have hk5 := tkw_lt (B := B) (g := g) (m := m) (p := p)
    exact W.zret (v := 0) hx hb hr rfl (fun t ht hW => ⟨⟨0, (st9, sl10), rfl, ⟨hG, hF, Or.inr (⟨1, (tka B g m p), rfl, by show st9 0 10 = _; rw [hf11, bdk_1], by show st9 0 11 = _; rw [hf12], by omega, fun k => by unfold eEnd; rw [if_pos (by omega)]⟩)⟩, mB.of ht hP⟩, hS.F ht⟩) hS.2.2 dX12_readEnd_14
set_option maxHeartbeats 4000000 in
set_option maxRecDepth 100000 in
theorem f_findIn0 (l : Launch) (dC : Nat → ClassId) (dI : Nat → Nat → Nat) (ar : Nat → Nat) (cy : Nat → ClassId) (sz : Nat) (hN : MN ar) (st : Nat → Nat → Int32) (sl : Nat → Nat → Int64) (vn : Nat) (vw : Int64) (hvn : vn < 6) (hI : MI st) : Met l yX12_findIn wsX12_findIn ({ frames := 0, cells := 0, slots := 0, locals := 0 }) (va_Pc [.ref (ar 8), .int 0, .int (nI vn), .long vw] (mPre dC dI ar cy sz st sl)) (va_Qi (fun (r : Int32) (x : MT) => x = (st, sl) ∧ ((r = (-1) ∧ (∀ i, i < vn → ¬ sl 8 (0 + i) = vw)) ∨ (∃ n : Nat, r = nI n ∧ n < vn ∧ sl 8 (0 + n) = vw))) (mB dC dI ar cy) (MA ar sz)) 0 0 (MA ar sz) := by
  refine Met.ofW (cc := cX12_findIn) (maxL := 6) (ret := (some .int)) (by decide) rfl ?_
  intro p9 e s m9 args below meth c9 s₁ B9 hml hv
  obtain ⟨rfl, hsz, hP, hK⟩ := hv
  have hx := B9.exec
  have hb := B9.bytes
  have hr := B9.returns
  have hts := atoms_spec (ws := wsX12_findIn) B9.pre
  have hown : s.vm.findClass RX12 = some m9.cls := findClass_of_methodNamed B9.named
  subst hsz
  have hS : va_S (MA ar s.heap.size) s.heap s.heap [] := va_S.rf
  have hG : MG [1, 2, 3, 4, 5, 6, 7, 8, 9, 10, 11, 12, 13, 14, 15, 16, 17, 19, 20, 21, 22, 23] st st := MG.rf hI
  have hl := lv_entry ([.ref (ar 8), .int 0, .int (nI vn), .long vw]) (n := 6) (Nat.le_of_ble_eq_true rfl)
  rw [lg_entry_eq]
  generalize (lg_sl ([.ref (ar 8), .int 0, .int (nI vn), .long vw]) ++ List.replicate (6 - (lg_sl ([.ref (ar 8), .int 0, .int (nI vn), .long vw])).length) Slot.unset).toArray = ls at hl ⊢
  have hl : lv_has ls 6 [(0, .ref (ar 8)), (1, .int 0), (2, .int (nI vn)), (3, .long vw)] := hl
  clear hI
  refine lv_iconst (v := 0) hx hb dX12_findIn_0 (by decide) ?_
  refine lv_istore (lv' := [(5, .int 0), (0, .ref (ar 8)), (1, .int 0), (2, .int (nI vn)), (3, .long vw)]) hx hb dX12_findIn_1 hl (by decide) rfl (fun ls hl => ?_)
  refine zz_wf (fun n stk H locs ls => ∃ k1 : Nat, n = 9 - k1 ∧ 0 ≤ k1 ∧ k1 < 9 ∧ k1 ≤ vn ∧ (∀ i, i < k1 → ¬ sl 8 (0 + i) = vw) ∧ va_P (dC, dI) vwCl (mw ar cy st sl) H ∧ va_S (MA ar s.heap.size) s.heap H locs ∧ lv_has ls 6 [(5, .int (nI k1)), (0, .ref (ar 8)), (1, .int 0), (2, .int (nI vn)), (3, .long vw)] ∧ stk = []) ?_ (9 - 0) _ _ _ _ ⟨0, rfl, by omega, by omega, by omega, fun i hi => absurd hi (by omega), hP, hS, lv_sub hl [0, 1, 2, 3, 4] rfl, rfl⟩
  rintro nn stk H locs ls ⟨k1, hm5, hv2_0, hv3_1, hv4_0, hv5_1, hP, hS, hl, rfl⟩ ih6
  refine lv_iload hx hb dX12_findIn_3 (lv_at hl 0 rfl) ?_
  refine lv_iload_n hx hb dX12_findIn_5 rfl (lv_at hl 3 rfl) ?_
  refine lv_icmp_ge (tgt := 29) hx hb dX12_findIn_6 (by decide) (fun c1 => ?_) (fun c1 => ?_)
  · have c1 : vn ≤ k1 := (nI_leI (a := vn) (b := k1) (by omega) (by omega)).mp c1
    refine lv_iconst (v := (-1)) hx hb dX12_findIn_29 (by decide) ?_
    exact W.iret (v := (-1)) hx hb hr (fun t ht hW => ⟨⟨(-1), (st, sl), rfl, ⟨rfl, Or.inl (⟨rfl, fun i hi => hv5_1 i (by omega)⟩)⟩, mB.of ht hP⟩, hS.F ht⟩) hS.2.2 dX12_findIn_30
  · have c1 : ¬ vn ≤ k1 := fun hh => c1 ((nI_leI (a := vn) (b := k1) (by omega) (by omega)).mpr hh)
    refine lv_aload_n hx hb dX12_findIn_9 rfl (lv_at hl 1 rfl) ?_
    refine lv_iload_n hx hb dX12_findIn_10 rfl (lv_at hl 2 rfl) ?_
    refine lv_iload hx hb dX12_findIn_11 (lv_at hl 0 rfl) ?_
    refine lv_iadd hx hb dX12_findIn_13 ?_
    refine zz_top (v := nI (0 + k1)) (nI_add 0 k1) ?_
    refine va_lald hx hb hK hP 8 7 rfl rfl (i := (nI (0 + k1))) (vp_in_nI (by omega) (by decide)) dX12_findIn_14 ?_
    refine zz_topl (v := sl 8 (0 + k1)) (by rw [nI_clamp (by omega)]) ?_
    refine lv_lload_n hx hb dX12_findIn_15 rfl (lv_at hl 4 rfl) ?_
    refine W.lcmp hx hb dX12_findIn_16 ?_
    refine lv_topi (fun z7 ez7 => ?_)
    refine lv_if_ne (tgt := 23) hx hb dX12_findIn_17 (by decide) (fun c2 => ?_) (fun c2 => ?_)
    · have c2 : ¬ (sl 8 (0 + k1)) = vw := fun hh => c2 (by rw [ez7]; exact (lg_cmp_eq _ _).mpr hh)
      refine lv_iinc (v := (nI (k1 + 1))) (lv' := [(5, .int (nI (k1 + 1))), (0, .ref (ar 8)), (1, .int 0), (2, .int (nI vn)), (3, .long vw)]) hx hb dX12_findIn_23 hl (k := 0) rfl (nI_add k1 1) (by decide) rfl (fun ls hl => ?_)
      refine lv_goto (tgt := 3) hx hb dX12_findIn_26 (by decide) ?_
      exact ih6 (9 - (k1 + 1)) _ _ _ _ (by omega) ⟨(k1 + 1), rfl, by omega, by omega, by omega, fun i hi hz => if h9 : i = k1 then c2 (by rw [← h9]; exact hz) else hv5_1 i (by omega) hz, hP, hS, lv_sub hl [0, 1, 2, 3, 4] rfl, rfl⟩
    · have c2 : (sl 8 (0 + k1)) = vw := (lg_cmp_eq _ _).mp (by rw [← ez7]; exact c2)
      refine lv_iload hx hb dX12_findIn_20 (lv_at hl 0 rfl) ?_
      exact W.iret (v := (nI k1)) hx hb hr (fun t ht hW => ⟨⟨(nI k1), (st, sl), rfl, ⟨rfl, Or.inr (⟨k1, rfl, by omega, c2⟩)⟩, mB.of ht hP⟩, hS.F ht⟩) hS.2.2 dX12_findIn_22
set_option maxHeartbeats 4000000 in
set_option maxRecDepth 100000 in
theorem f_findIn1 (l : Launch) (dC : Nat → ClassId) (dI : Nat → Nat → Nat) (ar : Nat → Nat) (cy : Nat → ClassId) (sz : Nat) (hN : MN ar) (st : Nat → Nat → Int32) (sl : Nat → Nat → Int64) (vn : Nat) (vw : Int64) (hvn : vn < 9) (hI : MI st) : Met l yX12_findIn wsX12_findIn ({ frames := 0, cells := 0, slots := 0, locals := 0 }) (va_Pc [.ref (ar 8), .int 5, .int (nI vn), .long vw] (mPre dC dI ar cy sz st sl)) (va_Qi (fun (r : Int32) (x : MT) => x = (st, sl) ∧ ((r = (-1) ∧ (∀ i, i < vn → ¬ sl 8 (5 + i) = vw)) ∨ (∃ n : Nat, r = nI n ∧ n < vn ∧ sl 8 (5 + n) = vw))) (mB dC dI ar cy) (MA ar sz)) 0 0 (MA ar sz) := by
  refine Met.ofW (cc := cX12_findIn) (maxL := 6) (ret := (some .int)) (by decide) rfl ?_
  intro p9 e s m9 args below meth c9 s₁ B9 hml hv
  obtain ⟨rfl, hsz, hP, hK⟩ := hv
  have hx := B9.exec
  have hb := B9.bytes
  have hr := B9.returns
  have hts := atoms_spec (ws := wsX12_findIn) B9.pre
  have hown : s.vm.findClass RX12 = some m9.cls := findClass_of_methodNamed B9.named
  subst hsz
  have hS : va_S (MA ar s.heap.size) s.heap s.heap [] := va_S.rf
  have hG : MG [1, 2, 3, 4, 5, 6, 7, 8, 9, 10, 11, 12, 13, 14, 15, 16, 17, 19, 20, 21, 22, 23] st st := MG.rf hI
  have hl := lv_entry ([.ref (ar 8), .int 5, .int (nI vn), .long vw]) (n := 6) (Nat.le_of_ble_eq_true rfl)
  rw [lg_entry_eq]
  generalize (lg_sl ([.ref (ar 8), .int 5, .int (nI vn), .long vw]) ++ List.replicate (6 - (lg_sl ([.ref (ar 8), .int 5, .int (nI vn), .long vw])).length) Slot.unset).toArray = ls at hl ⊢
  have hl : lv_has ls 6 [(0, .ref (ar 8)), (1, .int 5), (2, .int (nI vn)), (3, .long vw)] := hl
  clear hI
  refine lv_iconst (v := 0) hx hb dX12_findIn_0 (by decide) ?_
  refine lv_istore (lv' := [(5, .int 0), (0, .ref (ar 8)), (1, .int 5), (2, .int (nI vn)), (3, .long vw)]) hx hb dX12_findIn_1 hl (by decide) rfl (fun ls hl => ?_)
  refine zz_wf (fun n stk H locs ls => ∃ k1 : Nat, n = 9 - k1 ∧ 0 ≤ k1 ∧ k1 < 9 ∧ k1 ≤ vn ∧ (∀ i, i < k1 → ¬ sl 8 (5 + i) = vw) ∧ va_P (dC, dI) vwCl (mw ar cy st sl) H ∧ va_S (MA ar s.heap.size) s.heap H locs ∧ lv_has ls 6 [(5, .int (nI k1)), (0, .ref (ar 8)), (1, .int 5), (2, .int (nI vn)), (3, .long vw)] ∧ stk = []) ?_ (9 - 0) _ _ _ _ ⟨0, rfl, by omega, by omega, by omega, fun i hi => absurd hi (by omega), hP, hS, lv_sub hl [0, 1, 2, 3, 4] rfl, rfl⟩
  rintro nn stk H locs ls ⟨k1, hm5, hv2_0, hv3_1, hv4_0, hv5_1, hP, hS, hl, rfl⟩ ih6
  refine lv_iload hx hb dX12_findIn_3 (lv_at hl 0 rfl) ?_
  refine lv_iload_n hx hb dX12_findIn_5 rfl (lv_at hl 3 rfl) ?_
  refine lv_icmp_ge (tgt := 29) hx hb dX12_findIn_6 (by decide) (fun c1 => ?_) (fun c1 => ?_)
  · have c1 : vn ≤ k1 := (nI_leI (a := vn) (b := k1) (by omega) (by omega)).mp c1
    refine lv_iconst (v := (-1)) hx hb dX12_findIn_29 (by decide) ?_
    exact W.iret (v := (-1)) hx hb hr (fun t ht hW => ⟨⟨(-1), (st, sl), rfl, ⟨rfl, Or.inl (⟨rfl, fun i hi => hv5_1 i (by omega)⟩)⟩, mB.of ht hP⟩, hS.F ht⟩) hS.2.2 dX12_findIn_30
  · have c1 : ¬ vn ≤ k1 := fun hh => c1 ((nI_leI (a := vn) (b := k1) (by omega) (by omega)).mpr hh)
    refine lv_aload_n hx hb dX12_findIn_9 rfl (lv_at hl 1 rfl) ?_
    refine lv_iload_n hx hb dX12_findIn_10 rfl (lv_at hl 2 rfl) ?_
    refine lv_iload hx hb dX12_findIn_11 (lv_at hl 0 rfl) ?_
    refine lv_iadd hx hb dX12_findIn_13 ?_
    refine zz_top (v := nI (5 + k1)) (nI_add 5 k1) ?_
    refine va_lald hx hb hK hP 8 7 rfl rfl (i := (nI (5 + k1))) (vp_in_nI (by omega) (by decide)) dX12_findIn_14 ?_
    refine zz_topl (v := sl 8 (5 + k1)) (by rw [nI_clamp (by omega)]) ?_
    refine lv_lload_n hx hb dX12_findIn_15 rfl (lv_at hl 4 rfl) ?_
    refine W.lcmp hx hb dX12_findIn_16 ?_
    refine lv_topi (fun z7 ez7 => ?_)
    refine lv_if_ne (tgt := 23) hx hb dX12_findIn_17 (by decide) (fun c2 => ?_) (fun c2 => ?_)
    · have c2 : ¬ (sl 8 (5 + k1)) = vw := fun hh => c2 (by rw [ez7]; exact (lg_cmp_eq _ _).mpr hh)
      refine lv_iinc (v := (nI (k1 + 1))) (lv' := [(5, .int (nI (k1 + 1))), (0, .ref (ar 8)), (1, .int 5), (2, .int (nI vn)), (3, .long vw)]) hx hb dX12_findIn_23 hl (k := 0) rfl (nI_add k1 1) (by decide) rfl (fun ls hl => ?_)
      refine lv_goto (tgt := 3) hx hb dX12_findIn_26 (by decide) ?_
      exact ih6 (9 - (k1 + 1)) _ _ _ _ (by omega) ⟨(k1 + 1), rfl, by omega, by omega, by omega, fun i hi hz => if h9 : i = k1 then c2 (by rw [← h9]; exact hz) else hv5_1 i (by omega) hz, hP, hS, lv_sub hl [0, 1, 2, 3, 4] rfl, rfl⟩
    · have c2 : (sl 8 (5 + k1)) = vw := (lg_cmp_eq _ _).mp (by rw [← ez7]; exact c2)
      refine lv_iload hx hb dX12_findIn_20 (lv_at hl 0 rfl) ?_
      exact W.iret (v := (nI k1)) hx hb hr (fun t ht hW => ⟨⟨(nI k1), (st, sl), rfl, ⟨rfl, Or.inr (⟨k1, rfl, by omega, c2⟩)⟩, mB.of ht hP⟩, hS.F ht⟩) hS.2.2 dX12_findIn_22
set_option maxHeartbeats 4000000 in
set_option maxRecDepth 100000 in
theorem f_findIn2 (l : Launch) (dC : Nat → ClassId) (dI : Nat → Nat → Nat) (ar : Nat → Nat) (cy : Nat → ClassId) (sz : Nat) (hN : MN ar) (st : Nat → Nat → Int32) (sl : Nat → Nat → Int64) (vn : Nat) (vw : Int64) (hvn : vn < 7) (hI : MI st) : Met l yX12_findIn wsX12_findIn ({ frames := 0, cells := 0, slots := 0, locals := 0 }) (va_Pc [.ref (ar 8), .int 13, .int (nI vn), .long vw] (mPre dC dI ar cy sz st sl)) (va_Qi (fun (r : Int32) (x : MT) => x = (st, sl) ∧ ((r = (-1) ∧ (∀ i, i < vn → ¬ sl 8 (13 + i) = vw)) ∨ (∃ n : Nat, r = nI n ∧ n < vn ∧ sl 8 (13 + n) = vw))) (mB dC dI ar cy) (MA ar sz)) 0 0 (MA ar sz) := by
  refine Met.ofW (cc := cX12_findIn) (maxL := 6) (ret := (some .int)) (by decide) rfl ?_
  intro p9 e s m9 args below meth c9 s₁ B9 hml hv
  obtain ⟨rfl, hsz, hP, hK⟩ := hv
  have hx := B9.exec
  have hb := B9.bytes
  have hr := B9.returns
  have hts := atoms_spec (ws := wsX12_findIn) B9.pre
  have hown : s.vm.findClass RX12 = some m9.cls := findClass_of_methodNamed B9.named
  subst hsz
  have hS : va_S (MA ar s.heap.size) s.heap s.heap [] := va_S.rf
  have hG : MG [1, 2, 3, 4, 5, 6, 7, 8, 9, 10, 11, 12, 13, 14, 15, 16, 17, 19, 20, 21, 22, 23] st st := MG.rf hI
  have hl := lv_entry ([.ref (ar 8), .int 13, .int (nI vn), .long vw]) (n := 6) (Nat.le_of_ble_eq_true rfl)
  rw [lg_entry_eq]
  generalize (lg_sl ([.ref (ar 8), .int 13, .int (nI vn), .long vw]) ++ List.replicate (6 - (lg_sl ([.ref (ar 8), .int 13, .int (nI vn), .long vw])).length) Slot.unset).toArray = ls at hl ⊢
  have hl : lv_has ls 6 [(0, .ref (ar 8)), (1, .int 13), (2, .int (nI vn)), (3, .long vw)] := hl
  clear hI
  refine lv_iconst (v := 0) hx hb dX12_findIn_0 (by decide) ?_
  refine lv_istore (lv' := [(5, .int 0), (0, .ref (ar 8)), (1, .int 13), (2, .int (nI vn)), (3, .long vw)]) hx hb dX12_findIn_1 hl (by decide) rfl (fun ls hl => ?_)
  refine zz_wf (fun n stk H locs ls => ∃ k1 : Nat, n = 9 - k1 ∧ 0 ≤ k1 ∧ k1 < 9 ∧ k1 ≤ vn ∧ (∀ i, i < k1 → ¬ sl 8 (13 + i) = vw) ∧ va_P (dC, dI) vwCl (mw ar cy st sl) H ∧ va_S (MA ar s.heap.size) s.heap H locs ∧ lv_has ls 6 [(5, .int (nI k1)), (0, .ref (ar 8)), (1, .int 13), (2, .int (nI vn)), (3, .long vw)] ∧ stk = []) ?_ (9 - 0) _ _ _ _ ⟨0, rfl, by omega, by omega, by omega, fun i hi => absurd hi (by omega), hP, hS, lv_sub hl [0, 1, 2, 3, 4] rfl, rfl⟩
  rintro nn stk H locs ls ⟨k1, hm5, hv2_0, hv3_1, hv4_0, hv5_1, hP, hS, hl, rfl⟩ ih6
  refine lv_iload hx hb dX12_findIn_3 (lv_at hl 0 rfl) ?_
  refine lv_iload_n hx hb dX12_findIn_5 rfl (lv_at hl 3 rfl) ?_
  refine lv_icmp_ge (tgt := 29) hx hb dX12_findIn_6 (by decide) (fun c1 => ?_) (fun c1 => ?_)
  · have c1 : vn ≤ k1 := (nI_leI (a := vn) (b := k1) (by omega) (by omega)).mp c1
    refine lv_iconst (v := (-1)) hx hb dX12_findIn_29 (by decide) ?_
    exact W.iret (v := (-1)) hx hb hr (fun t ht hW => ⟨⟨(-1), (st, sl), rfl, ⟨rfl, Or.inl (⟨rfl, fun i hi => hv5_1 i (by omega)⟩)⟩, mB.of ht hP⟩, hS.F ht⟩) hS.2.2 dX12_findIn_30
  · have c1 : ¬ vn ≤ k1 := fun hh => c1 ((nI_leI (a := vn) (b := k1) (by omega) (by omega)).mpr hh)
    refine lv_aload_n hx hb dX12_findIn_9 rfl (lv_at hl 1 rfl) ?_
    refine lv_iload_n hx hb dX12_findIn_10 rfl (lv_at hl 2 rfl) ?_
    refine lv_iload hx hb dX12_findIn_11 (lv_at hl 0 rfl) ?_
    refine lv_iadd hx hb dX12_findIn_13 ?_
    refine zz_top (v := nI (13 + k1)) (nI_add 13 k1) ?_
    refine va_lald hx hb hK hP 8 7 rfl rfl (i := (nI (13 + k1))) (vp_in_nI (by omega) (by decide)) dX12_findIn_14 ?_
    refine zz_topl (v := sl 8 (13 + k1)) (by rw [nI_clamp (by omega)]) ?_
    refine lv_lload_n hx hb dX12_findIn_15 rfl (lv_at hl 4 rfl) ?_
    refine W.lcmp hx hb dX12_findIn_16 ?_
    refine lv_topi (fun z7 ez7 => ?_)
    refine lv_if_ne (tgt := 23) hx hb dX12_findIn_17 (by decide) (fun c2 => ?_) (fun c2 => ?_)
    · have c2 : ¬ (sl 8 (13 + k1)) = vw := fun hh => c2 (by rw [ez7]; exact (lg_cmp_eq _ _).mpr hh)
      refine lv_iinc (v := (nI (k1 + 1))) (lv' := [(5, .int (nI (k1 + 1))), (0, .ref (ar 8)), (1, .int 13), (2, .int (nI vn)), (3, .long vw)]) hx hb dX12_findIn_23 hl (k := 0) rfl (nI_add k1 1) (by decide) rfl (fun ls hl => ?_)
      refine lv_goto (tgt := 3) hx hb dX12_findIn_26 (by decide) ?_
      exact ih6 (9 - (k1 + 1)) _ _ _ _ (by omega) ⟨(k1 + 1), rfl, by omega, by omega, by omega, fun i hi hz => if h9 : i = k1 then c2 (by rw [← h9]; exact hz) else hv5_1 i (by omega) hz, hP, hS, lv_sub hl [0, 1, 2, 3, 4] rfl, rfl⟩
    · have c2 : (sl 8 (13 + k1)) = vw := (lg_cmp_eq _ _).mp (by rw [← ez7]; exact c2)
      refine lv_iload hx hb dX12_findIn_20 (lv_at hl 0 rfl) ?_
      exact W.iret (v := (nI k1)) hx hb hr (fun t ht hW => ⟨⟨(nI k1), (st, sl), rfl, ⟨rfl, Or.inr (⟨k1, rfl, by omega, c2⟩)⟩, mB.of ht hP⟩, hS.F ht⟩) hS.2.2 dX12_findIn_22
set_option maxHeartbeats 4000000 in
set_option maxRecDepth 100000 in
theorem f_readNew (l : Launch) (dC : Nat → ClassId) (dI : Nat → Nat → Nat) (ar : Nat → Nat) (cy : Nat → ClassId) (sz : Nat) (hN : MN ar) (st : Nat → Nat → Int32) (sl : Nat → Nat → Int64) (vs : Nat) (B : Nat → Nat) (g m : Nat) (p : Nat) (c : Nat → Nat) (nm : Nat → Nat → Nat) (hvs : vs < 19) (hI : MI st) (hB : MBt B g m st) (hT : TM B g m p st sl) (hR : RT c nm st sl) (hvs : ∀ a, a < 3 → ∀ i, i < c a → ¬ bs a + i = vs) : Met l yX12_readNew wsX12_readNew ({ frames := 3, cells := 0, slots := 0, locals := 69 }) (va_Pc [.ref (ar 0), .int (nI vs)] (mPre dC dI ar cy sz st sl)) (va_Qi (fun (r : Int32) (x : MT) => MG [1, 2, 3, 6, 7, 8, 9, 10, 11, 12, 13, 14, 15, 20, 21, 22] st x.1 ∧ FM 3 st sl x.1 x.2 ∧ ((r = 1 ∧ tkw B g m p = 24 ∧ x.2 8 vs = lN (c7 7 (tkc B g p)) ∧ V5 (tkc B g p) ∧ RT c nm x.1 x.2 ∧ TM B g m (tkx B g m p) x.1 x.2 ∧ (∀ k, eNew B g m p c nm k = k (tkx B g m p) (tkc B g p)) ∧ x.1 0 10 = st 0 10) ∨ (∃ f : Nat, ∃ a : Nat, r = 0 ∧ x.1 0 10 = nI f ∧ x.1 0 11 = nI a ∧ 1 ≤ f ∧ (∀ k, eNew B g m p c nm k = fl f a)))) (mB dC dI ar cy) (MA ar sz)) 0 0 (MA ar sz) := by
  refine Met.ofW (cc := cX12_readNew) (maxL := 2) (ret := (some .boolean)) (by decide) rfl ?_
  intro p9 e s m9 args below meth c9 s₁ B9 hml hv
  obtain ⟨rfl, hsz, hP, hK⟩ := hv
  have hx := B9.exec
  have hb := B9.bytes
  have hr := B9.returns
  have hts := atoms_spec (ws := wsX12_readNew) B9.pre
  have hown : s.vm.findClass RX12 = some m9.cls := findClass_of_methodNamed B9.named
  subst hsz
  have hS : va_S (MA ar s.heap.size) s.heap s.heap [] := va_S.rf
  have hG : MG [1, 2, 3, 6, 7, 8, 9, 10, 11, 12, 13, 14, 15, 20, 21, 22] st st := MG.rf hI
  have hl := lv_entry ([.ref (ar 0), .int (nI vs)]) (n := 2) (Nat.le_of_ble_eq_true rfl)
  rw [lg_entry_eq]
  generalize (lg_sl ([.ref (ar 0), .int (nI vs)]) ++ List.replicate (2 - (lg_sl ([.ref (ar 0), .int (nI vs)])).length) Slot.unset).toArray = ls at hl ⊢
  have hl : lv_has ls 2 [(0, .ref (ar 0)), (1, .int (nI vs))] := hl
  clear hI
  have hB1 := hB.2.2.1
  have hB2 := hB.2.2.2.1
  have hF : FM 3 st sl st sl := FM.rf
  have hp9 := hT.2.2.2.2.2.2
  have hk1 := tkd_lt (B := B) (g := g) (m := m) (p := p)
  have hk2 := tkx_le (B := B) (g := g) (m := m) (p := p) hp9
  have hk3 := tka_le (B := B) (g := g) (m := m) (p := p) hp9 hB.2.2.1
  have hk4 := tkv_lt (p := p) hB hp9
  have hk5 := tkw_lt (B := B) (g := g) (m := m) (p := p)
  have hR9 := hR.2.2.2.2.2.1
  have hT0 := hT
  have hR0 := hR
  have hw25 := @tkw_d B g m p
  refine lv_aload_n hx hb dX12_readNew_0 rfl (lv_at hl 0 rfl) ?_
  refine va_calli (va_runV (As := []) (rest := []) ⟨hx, hb, hml, hown, hts⟩ (f_isName l dC dI ar cy _ hN st sl B g m p hG.1 (MBt.fr hB hF) hT) (cwV 0 hts gX12_readNew_X12_isName rfl rfl rfl (by decide +kernel) ⟨Nat.le_of_ble_eq_true rfl, Nat.le_of_ble_eq_true rfl⟩) ⟨fun a U g mk q => ⟨q.1, mPre.blind q.2⟩, va_recv hK hP (ci := 11) (q0 := 0) rfl rfl, fun U hU hW => ⟨rfl, mPre.of hP hK hU hW⟩⟩ rfl rfl hl.1 rfl (lv_room (Nat.le_of_ble_eq_true rfl)) dX12_readNew_1 ⟨Nat.le_of_ble_eq_true rfl, Nat.le_of_ble_eq_true rfl⟩) hS (fun q _ h => MA.le hS.1 q h) (MA.le hS.1) (fun r1 x t H locs ht hvm hw hB9 _ _ hS => ?_)
  have hP := mB.at ht hB9
  clear hB9 ht hvm
  obtain ⟨rfl, hw⟩ := hw
  have hP : va_P (dC, dI) vwCl (mw ar cy st sl) _ := hP
  rcases hw with ⟨rfl, hf2⟩ | ⟨rfl, hf3⟩
  · refine lv_if_ne (tgt := 13) hx hb dX12_readNew_4 (by decide) (fun _ => ?_) (fun cc => absurd cc (by decide))
    refine lv_aload_n hx hb dX12_readNew_13 rfl (lv_at hl 0 rfl) ?_
    refine va_get (D := (dC, dI)) (ci := 11) (v := .ref (ar 8)) (C := RX12) (T := TX12) (N := 47) hx hb hts ii_X12_readNew hown hK hP 0 rfl rfl 20 (by decide) (hts _ mm_X12_readNew_1) (fun _ hh => hh) rfl dX12_readNew_14 ?_
    refine lv_iconst (v := 0) hx hb dX12_readNew_17 (by decide) ?_
    refine lv_aload_n hx hb dX12_readNew_18 rfl (lv_at hl 0 rfl) ?_
    refine va_get (D := (dC, dI)) (ci := 11) (v := .ref (ar 3)) (C := RX12) (T := TX12) (N := 47) hx hb hts ii_X12_readNew hown hK hP 0 rfl rfl 15 (by decide) (hts _ mm_X12_readNew_2) (fun _ hh => hh) rfl dX12_readNew_19 ?_
    refine lv_iconst (v := 0) hx hb dX12_readNew_22 (by decide) ?_
    refine va_iald hx hb hK hP 3 2 rfl rfl (i := 0) (zz_in (by decide)) dX12_readNew_23 ?_
    refine zz_top (v := (nI (c 0))) (by show st 3 0 = _; rw [hR.1]) ?_
    refine lv_aload_n hx hb dX12_readNew_24 rfl (lv_at hl 0 rfl) ?_
    refine va_get (D := (dC, dI)) (ci := 11) (v := .long (sl 0 12)) (C := RX12) (T := TX12) (N := 47) hx hb hts ii_X12_readNew hown hK hP 0 rfl rfl 12 (by decide) (hts _ mm_X12_readNew_3) (fun _ hh => hh) rfl dX12_readNew_25 ?_
    refine va_calli (va_runS (As := [.ref (ar 8), .int 0, .int (nI (c 0)), .long (sl 0 12)]) (rest := []) ⟨hx, hb, hml, hown, hts⟩ (f_findIn0 l dC dI ar cy _ hN st sl (c 0) (sl 0 12) (by omega) hG.1 ) (va_cwS 4 hts gX12_readNew_X12_findIn rfl rfl rfl (by decide +kernel) ⟨Nat.le_of_ble_eq_true rfl, Nat.le_of_ble_eq_true rfl⟩) ⟨fun a U g mk q => ⟨q.1, mPre.blind q.2⟩, fun U hU hW => ⟨rfl, mPre.of hP hK hU hW⟩⟩ rfl rfl hl.1 rfl (lv_room (Nat.le_of_ble_eq_true rfl)) dX12_readNew_28 ⟨Nat.le_of_ble_eq_true rfl, Nat.le_of_ble_eq_true rfl⟩) hS (fun q _ h => MA.le hS.1 q h) (MA.le hS.1) (fun r4 x t H locs ht hvm hw hB9 _ _ hS => ?_)
    have hP := mB.at ht hB9
    clear hB9 ht hvm
    obtain ⟨rfl, hw⟩ := hw
    have hP : va_P (dC, dI) vwCl (mw ar cy st sl) _ := hP
    rcases hw with ⟨rfl, hf5⟩ | ⟨n6, rfl, hf7, hf8⟩
    · refine lv_iconst (v := (-1)) hx hb dX12_readNew_31 (by decide) ?_
      refine lv_icmp_ne (tgt := 80) hx hb dX12_readNew_32 (by decide) (fun cc => absurd (by decide) cc) (fun _ => ?_)
      refine lv_aload_n hx hb dX12_readNew_35 rfl (lv_at hl 0 rfl) ?_
      refine va_get (D := (dC, dI)) (ci := 11) (v := .ref (ar 8)) (C := RX12) (T := TX12) (N := 47) hx hb hts ii_X12_readNew hown hK hP 0 rfl rfl 20 (by decide) (hts _ mm_X12_readNew_1) (fun _ hh => hh) rfl dX12_readNew_36 ?_
      refine lv_iconst (v := 5) hx hb dX12_readNew_39 (by decide) ?_
      refine lv_aload_n hx hb dX12_readNew_40 rfl (lv_at hl 0 rfl) ?_
      refine va_get (D := (dC, dI)) (ci := 11) (v := .ref (ar 3)) (C := RX12) (T := TX12) (N := 47) hx hb hts ii_X12_readNew hown hK hP 0 rfl rfl 15 (by decide) (hts _ mm_X12_readNew_2) (fun _ hh => hh) rfl dX12_readNew_41 ?_
      refine lv_iconst (v := 1) hx hb dX12_readNew_44 (by decide) ?_
      refine va_iald hx hb hK hP 3 2 rfl rfl (i := 1) (zz_in (by decide)) dX12_readNew_45 ?_
      refine zz_top (v := (nI (c 1))) (by show st 3 1 = _; rw [hR.2.1]) ?_
      refine lv_aload_n hx hb dX12_readNew_46 rfl (lv_at hl 0 rfl) ?_
      refine va_get (D := (dC, dI)) (ci := 11) (v := .long (sl 0 12)) (C := RX12) (T := TX12) (N := 47) hx hb hts ii_X12_readNew hown hK hP 0 rfl rfl 12 (by decide) (hts _ mm_X12_readNew_3) (fun _ hh => hh) rfl dX12_readNew_47 ?_
      refine va_calli (va_runS (As := [.ref (ar 8), .int 5, .int (nI (c 1)), .long (sl 0 12)]) (rest := []) ⟨hx, hb, hml, hown, hts⟩ (f_findIn1 l dC dI ar cy _ hN st sl (c 1) (sl 0 12) (by omega) hG.1 ) (va_cwS 4 hts gX12_readNew_X12_findIn rfl rfl rfl (by decide +kernel) ⟨Nat.le_of_ble_eq_true rfl, Nat.le_of_ble_eq_true rfl⟩) ⟨fun a U g mk q => ⟨q.1, mPre.blind q.2⟩, fun U hU hW => ⟨rfl, mPre.of hP hK hU hW⟩⟩ rfl rfl hl.1 rfl (lv_room (Nat.le_of_ble_eq_true rfl)) dX12_readNew_50 ⟨Nat.le_of_ble_eq_true rfl, Nat.le_of_ble_eq_true rfl⟩) hS (fun q _ h => MA.le hS.1 q h) (MA.le hS.1) (fun r9 x t H locs ht hvm hw hB9 _ _ hS => ?_)
      have hP := mB.at ht hB9
      clear hB9 ht hvm
      obtain ⟨rfl, hw⟩ := hw
      have hP : va_P (dC, dI) vwCl (mw ar cy st sl) _ := hP
      rcases hw with ⟨rfl, hf10⟩ | ⟨n11, rfl, hf12, hf13⟩
      · refine lv_iconst (v := (-1)) hx hb dX12_readNew_53 (by decide) ?_
        refine lv_icmp_ne (tgt := 80) hx hb dX12_readNew_54 (by decide) (fun cc => absurd (by decide) cc) (fun _ => ?_)
        refine lv_aload_n hx hb dX12_readNew_57 rfl (lv_at hl 0 rfl) ?_
        refine va_get (D := (dC, dI)) (ci := 11) (v := .ref (ar 8)) (C := RX12) (T := TX12) (N := 47) hx hb hts ii_X12_readNew hown hK hP 0 rfl rfl 20 (by decide) (hts _ mm_X12_readNew_1) (fun _ hh => hh) rfl dX12_readNew_58 ?_
        refine lv_bipush (v := 13) hx hb dX12_readNew_61 (by decide) ?_
        refine lv_aload_n hx hb dX12_readNew_63 rfl (lv_at hl 0 rfl) ?_
        refine va_get (D := (dC, dI)) (ci := 11) (v := .ref (ar 3)) (C := RX12) (T := TX12) (N := 47) hx hb hts ii_X12_readNew hown hK hP 0 rfl rfl 15 (by decide) (hts _ mm_X12_readNew_2) (fun _ hh => hh) rfl dX12_readNew_64 ?_
        refine lv_iconst (v := 2) hx hb dX12_readNew_67 (by decide) ?_
        refine va_iald hx hb hK hP 3 2 rfl rfl (i := 2) (zz_in (by decide)) dX12_readNew_68 ?_
        refine zz_top (v := (nI (c 2))) (by show st 3 2 = _; rw [hR.2.2.1]) ?_
        refine lv_aload_n hx hb dX12_readNew_69 rfl (lv_at hl 0 rfl) ?_
        refine va_get (D := (dC, dI)) (ci := 11) (v := .long (sl 0 12)) (C := RX12) (T := TX12) (N := 47) hx hb hts ii_X12_readNew hown hK hP 0 rfl rfl 12 (by decide) (hts _ mm_X12_readNew_3) (fun _ hh => hh) rfl dX12_readNew_70 ?_
        refine va_calli (va_runS (As := [.ref (ar 8), .int 13, .int (nI (c 2)), .long (sl 0 12)]) (rest := []) ⟨hx, hb, hml, hown, hts⟩ (f_findIn2 l dC dI ar cy _ hN st sl (c 2) (sl 0 12) (by omega) hG.1 ) (va_cwS 4 hts gX12_readNew_X12_findIn rfl rfl rfl (by decide +kernel) ⟨Nat.le_of_ble_eq_true rfl, Nat.le_of_ble_eq_true rfl⟩) ⟨fun a U g mk q => ⟨q.1, mPre.blind q.2⟩, fun U hU hW => ⟨rfl, mPre.of hP hK hU hW⟩⟩ rfl rfl hl.1 rfl (lv_room (Nat.le_of_ble_eq_true rfl)) dX12_readNew_73 ⟨Nat.le_of_ble_eq_true rfl, Nat.le_of_ble_eq_true rfl⟩) hS (fun q _ h => MA.le hS.1 q h) (MA.le hS.1) (fun r14 x t H locs ht hvm hw hB9 _ _ hS => ?_)
        have hP := mB.at ht hB9
        clear hB9 ht hvm
        obtain ⟨rfl, hw⟩ := hw
        have hP : va_P (dC, dI) vwCl (mw ar cy st sl) _ := hP
        rcases hw with ⟨rfl, hf15⟩ | ⟨n16, rfl, hf17, hf18⟩
        · refine lv_iconst (v := (-1)) hx hb dX12_readNew_76 (by decide) ?_
          refine lv_icmp_eq (tgt := 86) hx hb dX12_readNew_77 (by decide) (fun _ => ?_) (fun cc => absurd (by decide) cc)
          refine lv_aload_n hx hb dX12_readNew_86 rfl (lv_at hl 0 rfl) ?_
          refine va_get (D := (dC, dI)) (ci := 11) (v := .ref (ar 8)) (C := RX12) (T := TX12) (N := 47) hx hb hts ii_X12_readNew hown hK hP 0 rfl rfl 20 (by decide) (hts _ mm_X12_readNew_1) (fun _ hh => hh) rfl dX12_readNew_87 ?_
          refine lv_iload_n hx hb dX12_readNew_90 rfl (lv_at hl 1 rfl) ?_
          refine lv_aload_n hx hb dX12_readNew_91 rfl (lv_at hl 0 rfl) ?_
          refine va_get (D := (dC, dI)) (ci := 11) (v := .long (sl 0 12)) (C := RX12) (T := TX12) (N := 47) hx hb hts ii_X12_readNew hown hK hP 0 rfl rfl 12 (by decide) (hts _ mm_X12_readNew_3) (fun _ hh => hh) rfl dX12_readNew_92 ?_
          refine va_last hx hb hK hP (mD hN _ _ _ _) hS 8 7 rfl rfl (i := (nI vs)) (vp_in_nI (by omega) (by decide)) dX12_readNew_95 (fun H locs hP _ hS => ?_)
          rw [nI_clamp (by omega)] at hP
          have hP : va_P (dC, dI) vwCl (mw ar cy st (upL sl 8 vs (sl 0 12))) H := hP
          obtain ⟨sl19, esl19⟩ : ∃ y, y = upL sl 8 vs (sl 0 12) := ⟨_, rfl⟩
          rw [← esl19] at hP
          have hF : FM 3 st sl st sl19 := by rw [esl19]; exact hF.upL (dm_name _).1
          have hT : TM B g m p st sl19 := by rw [esl19]; exact hT.upL (by omega)
          have hR : RT c nm st sl19 := by rw [esl19]; exact hR.slot hvs
          refine lv_aload_n hx hb dX12_readNew_96 rfl (lv_at hl 0 rfl) ?_
          refine va_callv (va_runV (As := []) (rest := []) ⟨hx, hb, hml, hown, hts⟩ (f_go l dC dI ar cy _ hN st sl19 B g m (tkx B g m p) hG.1 (MBt.fr hB hF) hT.1 hk2.2) (cwV 0 hts gX12_readNew_X12_go rfl rfl rfl (by decide +kernel) ⟨Nat.le_of_ble_eq_true rfl, Nat.le_of_ble_eq_true rfl⟩) ⟨fun a U g mk q => ⟨q.1, mPre.blind q.2⟩, va_recv hK hP (ci := 11) (q0 := 0) rfl rfl, fun U hU hW => ⟨rfl, mPre.of hP hK hU hW⟩⟩ rfl rfl hl.1 rfl (lv_room (Nat.le_of_ble_eq_true rfl)) dX12_readNew_97 ⟨Nat.le_of_ble_eq_true rfl, Nat.le_of_ble_eq_true rfl⟩) hS (fun q _ h => MA.le hS.1 q h) (MA.le hS.1) (fun x t H locs ht hvm hw hB9 _ _ hS => ?_)
          have hP := mB.at ht hB9
          clear hB9 ht hvm
          obtain ⟨st21, sl22⟩ := x
          obtain ⟨hG2, hF2, hw⟩ := hw
          dsimp only at hG2 hF2 hw
          have hP : va_P (dC, dI) vwCl (mw ar cy st21 sl22) _ := hP
          have hG : MG [1, 2, 3, 6, 7, 8, 9, 10, 11, 12, 13, 14, 15, 20, 21, 22] st st21 := hG.tr hG2 (by decide)
          have hFst21 : FM 1 st sl19 st21 sl22 := hF2
          have hF : FM 3 st sl st21 sl22 := hF.tr hFst21 (by omega) (by omega)
          clear hG2 hF2
          have hR : RT c nm st21 sl22 := hR.fr hFst21 (by omega)
          have hT := hw
          have hp9 := hT.2.2.2.2.2.2
          have hk1 := tkd_lt (B := B) (g := g) (m := m) (p := (tkx B g m p))
          have hk2 := tkx_le (B := B) (g := g) (m := m) (p := (tkx B g m p)) hp9
          have hk3 := tka_le (B := B) (g := g) (m := m) (p := (tkx B g m p)) hp9 hB.2.2.1
          have hk4 := tkv_lt (p := (tkx B g m p)) hB hp9
          have hk5 := tkw_lt (B := B) (g := g) (m := m) (p := (tkx B g m p))
          refine lv_iconst (v := 1) hx hb dX12_readNew_100 (by decide) ?_
          exact W.zret (v := 1) hx hb hr rfl (fun t ht hW => ⟨⟨1, (st21, sl22), rfl, ⟨hG, hF, Or.inl (⟨rfl, by omega, by show sl22 8 vs = _; rw [(hFst21 8 vs (dm_8 (by omega) _)).2, esl19, upL_same]; exact (hT0.2.2.2.2.2.1 (by omega)), tkc_V (m := m) (by omega) hB1 (by omega), hR, hT, fun k => by unfold eNew; rw [if_neg (by omega), if_neg (kna_f (knw_f _ (hR0.nk (a := 0) (by decide) (fun i hi => by rw [← (hT0.2.2.2.2.2.1 (by omega))]; exact hf5 i hi))) (knw_f _ (hR0.nk (a := 1) (by decide) (fun i hi => by rw [← (hT0.2.2.2.2.2.1 (by omega))]; exact hf10 i hi))) (knw_f _ (hR0.nk (a := 2) (by decide) (fun i hi => by rw [← (hT0.2.2.2.2.2.1 (by omega))]; exact hf15 i hi))))], by show st21 0 10 = st 0 10; rw [(hFst21 0 10 (by decide)).1]⟩)⟩, mB.of ht hP⟩, hS.F ht⟩) hS.2.2 dX12_readNew_101
        · refine lv_iconst (v := (-1)) hx hb dX12_readNew_76 (by decide) ?_
          refine lv_icmp_eq (tgt := 86) hx hb dX12_readNew_77 (by decide) (fun cc => absurd cc (nI_nem (by omega))) (fun _ => ?_)
          refine lv_aload_n hx hb dX12_readNew_80 rfl (lv_at hl 0 rfl) ?_
          refine lv_iconst (v := 3) hx hb dX12_readNew_81 (by decide) ?_
          refine va_calli (va_runV (As := [.int 3]) (rest := []) ⟨hx, hb, hml, hown, hts⟩ (f_bad l dC dI ar cy _ hN st sl 3 B g m p (by omega) hG.1 (MBt.fr hB hF) hT) (cwV 1 hts gX12_readNew_X12_bad rfl rfl rfl (by decide +kernel) ⟨Nat.le_of_ble_eq_true rfl, Nat.le_of_ble_eq_true rfl⟩) ⟨fun a U g mk q => ⟨q.1, mPre.blind q.2⟩, va_recv hK hP (ci := 11) (q0 := 0) rfl rfl, fun U hU hW => ⟨rfl, mPre.of hP hK hU hW⟩⟩ rfl rfl hl.1 rfl (lv_room (Nat.le_of_ble_eq_true rfl)) dX12_readNew_82 ⟨Nat.le_of_ble_eq_true rfl, Nat.le_of_ble_eq_true rfl⟩) hS (fun q _ h => MA.le hS.1 q h) (MA.le hS.1) (fun r23 x t H locs ht hvm hw hB9 _ _ hS => ?_)
          have hP := mB.at ht hB9
          clear hB9 ht hvm
          obtain ⟨st24, sl25⟩ := x
          obtain ⟨hG2, hF2, hw⟩ := hw
          dsimp only at hG2 hF2 hw
          have hP : va_P (dC, dI) vwCl (mw ar cy st24 sl25) _ := hP
          have hG : MG [1, 2, 3, 6, 7, 8, 9, 10, 11, 12, 13, 14, 15, 20, 21, 22] st st24 := hG.tr hG2 (by decide)
          have hFst24 : FM 2 st sl st24 sl25 := hF2
          have hF : FM 3 st sl st24 sl25 := hF.tr hFst24 (by omega) (by omega)
          clear hG2 hF2
          have hR : RT c nm st24 sl25 := hR.fr hFst24 (by omega)
          obtain ⟨rfl, hf26, hf27, hT⟩ := hw
          have hp9 := hT.2.2.2.2.2.2
          have hk1 := tkd_lt (B := B) (g := g) (m := m) (p := p)
          have hk2 := tkx_le (B := B) (g := g) (m := m) (p := p) hp9
          have hk3 := tka_le (B := B) (g := g) (m := m) (p := p) hp9 hB.2.2.1
          have hk4 := tkv_lt (p := p) hB hp9
          have hk5 := tkw_lt (B := B) (g := g) (m := m) (p := p)
          exact W.zret (v := 0) hx hb hr rfl (fun t ht hW => ⟨⟨0, (st24, sl25), rfl, ⟨hG, hF, Or.inr (⟨3, (tka B g m p), rfl, by show st24 0 10 = _; rw [hf26, bdk_n (by omega)], by show st24 0 11 = _; rw [hf27], by omega, fun k => by unfold eNew; rw [if_neg (by omega), if_pos (kna_t (a := 2) (by decide) (knw_t (n := c 2) (i := n16) hf17 (hR0.kn (a := 2) (by decide) hf17 (tkc_V (m := m) (by omega) hB1 (by omega)) (hf18.trans (hT0.2.2.2.2.2.1 (by omega))))))]⟩)⟩, mB.of ht hP⟩, hS.F ht⟩) hS.2.2 dX12_readNew_85
      · refine lv_iconst (v := (-1)) hx hb dX12_readNew_53 (by decide) ?_
        refine lv_icmp_ne (tgt := 80) hx hb dX12_readNew_54 (by decide) (fun _ => ?_) (fun cc => absurd cc (nI_nem (by omega)))
        refine lv_aload_n hx hb dX12_readNew_80 rfl (lv_at hl 0 rfl) ?_
        refine lv_iconst (v := 3) hx hb dX12_readNew_81 (by decide) ?_
        refine va_calli (va_runV (As := [.int 3]) (rest := []) ⟨hx, hb, hml, hown, hts⟩ (f_bad l dC dI ar cy _ hN st sl 3 B g m p (by omega) hG.1 (MBt.fr hB hF) hT) (cwV 1 hts gX12_readNew_X12_bad rfl rfl rfl (by decide +kernel) ⟨Nat.le_of_ble_eq_true rfl, Nat.le_of_ble_eq_true rfl⟩) ⟨fun a U g mk q => ⟨q.1, mPre.blind q.2⟩, va_recv hK hP (ci := 11) (q0 := 0) rfl rfl, fun U hU hW => ⟨rfl, mPre.of hP hK hU hW⟩⟩ rfl rfl hl.1 rfl (lv_room (Nat.le_of_ble_eq_true rfl)) dX12_readNew_82 ⟨Nat.le_of_ble_eq_true rfl, Nat.le_of_ble_eq_true rfl⟩) hS (fun q _ h => MA.le hS.1 q h) (MA.le hS.1) (fun r28 x t H locs ht hvm hw hB9 _ _ hS => ?_)
        have hP := mB.at ht hB9
        clear hB9 ht hvm
        obtain ⟨st29, sl30⟩ := x
        obtain ⟨hG2, hF2, hw⟩ := hw
        dsimp only at hG2 hF2 hw
        have hP : va_P (dC, dI) vwCl (mw ar cy st29 sl30) _ := hP
        have hG : MG [1, 2, 3, 6, 7, 8, 9, 10, 11, 12, 13, 14, 15, 20, 21, 22] st st29 := hG.tr hG2 (by decide)
        have hFst29 : FM 2 st sl st29 sl30 := hF2
        have hF : FM 3 st sl st29 sl30 := hF.tr hFst29 (by omega) (by omega)
        clear hG2 hF2
        have hR : RT c nm st29 sl30 := hR.fr hFst29 (by omega)
        obtain ⟨rfl, hf31, hf32, hT⟩ := hw
        have hp9 := hT.2.2.2.2.2.2
        have hk1 := tkd_lt (B := B) (g := g) (m := m) (p := p)
        have hk2 := tkx_le (B := B) (g := g) (m := m) (p := p) hp9
        have hk3 := tka_le (B := B) (g := g) (m := m) (p := p) hp9 hB.2.2.1
        have hk4 := tkv_lt (p := p) hB hp9
        have hk5 := tkw_lt (B := B) (g := g) (m := m) (p := p)
        exact W.zret (v := 0) hx hb hr rfl (fun t ht hW => ⟨⟨0, (st29, sl30), rfl, ⟨hG, hF, Or.inr (⟨3, (tka B g m p), rfl, by show st29 0 10 = _; rw [hf31, bdk_n (by omega)], by show st29 0 11 = _; rw [hf32], by omega, fun k => by unfold eNew; rw [if_neg (by omega), if_pos (kna_t (a := 1) (by decide) (knw_t (n := c 1) (i := n11) hf12 (hR0.kn (a := 1) (by decide) hf12 (tkc_V (m := m) (by omega) hB1 (by omega)) (hf13.trans (hT0.2.2.2.2.2.1 (by omega))))))]⟩)⟩, mB.of ht hP⟩, hS.F ht⟩) hS.2.2 dX12_readNew_85
    · refine lv_iconst (v := (-1)) hx hb dX12_readNew_31 (by decide) ?_
      refine lv_icmp_ne (tgt := 80) hx hb dX12_readNew_32 (by decide) (fun _ => ?_) (fun cc => absurd cc (nI_nem (by omega)))
      refine lv_aload_n hx hb dX12_readNew_80 rfl (lv_at hl 0 rfl) ?_
      refine lv_iconst (v := 3) hx hb dX12_readNew_81 (by decide) ?_
      refine va_calli (va_runV (As := [.int 3]) (rest := []) ⟨hx, hb, hml, hown, hts⟩ (f_bad l dC dI ar cy _ hN st sl 3 B g m p (by omega) hG.1 (MBt.fr hB hF) hT) (cwV 1 hts gX12_readNew_X12_bad rfl rfl rfl (by decide +kernel) ⟨Nat.le_of_ble_eq_true rfl, Nat.le_of_ble_eq_true rfl⟩) ⟨fun a U g mk q => ⟨q.1, mPre.blind q.2⟩, va_recv hK hP (ci := 11) (q0 := 0) rfl rfl, fun U hU hW => ⟨rfl, mPre.of hP hK hU hW⟩⟩ rfl rfl hl.1 rfl (lv_room (Nat.le_of_ble_eq_true rfl)) dX12_readNew_82 ⟨Nat.le_of_ble_eq_true rfl, Nat.le_of_ble_eq_true rfl⟩) hS (fun q _ h => MA.le hS.1 q h) (MA.le hS.1) (fun r33 x t H locs ht hvm hw hB9 _ _ hS => ?_)
      have hP := mB.at ht hB9
      clear hB9 ht hvm
      obtain ⟨st34, sl35⟩ := x
      obtain ⟨hG2, hF2, hw⟩ := hw
      dsimp only at hG2 hF2 hw
      have hP : va_P (dC, dI) vwCl (mw ar cy st34 sl35) _ := hP
      have hG : MG [1, 2, 3, 6, 7, 8, 9, 10, 11, 12, 13, 14, 15, 20, 21, 22] st st34 := hG.tr hG2 (by decide)
      have hFst34 : FM 2 st sl st34 sl35 := hF2
      have hF : FM 3 st sl st34 sl35 := hF.tr hFst34 (by omega) (by omega)
      clear hG2 hF2
      have hR : RT c nm st34 sl35 := hR.fr hFst34 (by omega)
      obtain ⟨rfl, hf36, hf37, hT⟩ := hw
      have hp9 := hT.2.2.2.2.2.2
      have hk1 := tkd_lt (B := B) (g := g) (m := m) (p := p)
      have hk2 := tkx_le (B := B) (g := g) (m := m) (p := p) hp9
      have hk3 := tka_le (B := B) (g := g) (m := m) (p := p) hp9 hB.2.2.1
      have hk4 := tkv_lt (p := p) hB hp9
      have hk5 := tkw_lt (B := B) (g := g) (m := m) (p := p)
      exact W.zret (v := 0) hx hb hr rfl (fun t ht hW => ⟨⟨0, (st34, sl35), rfl, ⟨hG, hF, Or.inr (⟨3, (tka B g m p), rfl, by show st34 0 10 = _; rw [hf36, bdk_n (by omega)], by show st34 0 11 = _; rw [hf37], by omega, fun k => by unfold eNew; rw [if_neg (by omega), if_pos (kna_t (a := 0) (by decide) (knw_t (n := c 0) (i := n6) hf7 (hR0.kn (a := 0) (by decide) hf7 (tkc_V (m := m) (by omega) hB1 (by omega)) (hf8.trans (hT0.2.2.2.2.2.1 (by omega))))))]⟩)⟩, mB.of ht hP⟩, hS.F ht⟩) hS.2.2 dX12_readNew_85
  · refine lv_if_ne (tgt := 13) hx hb dX12_readNew_4 (by decide) (fun cc => absurd (by decide) cc) (fun _ => ?_)
    refine lv_aload_n hx hb dX12_readNew_7 rfl (lv_at hl 0 rfl) ?_
    refine lv_iconst (v := 1) hx hb dX12_readNew_8 (by decide) ?_
    refine va_calli (va_runV (As := [.int 1]) (rest := []) ⟨hx, hb, hml, hown, hts⟩ (f_bad l dC dI ar cy _ hN st sl 1 B g m p (by omega) hG.1 (MBt.fr hB hF) hT) (cwV 1 hts gX12_readNew_X12_bad rfl rfl rfl (by decide +kernel) ⟨Nat.le_of_ble_eq_true rfl, Nat.le_of_ble_eq_true rfl⟩) ⟨fun a U g mk q => ⟨q.1, mPre.blind q.2⟩, va_recv hK hP (ci := 11) (q0 := 0) rfl rfl, fun U hU hW => ⟨rfl, mPre.of hP hK hU hW⟩⟩ rfl rfl hl.1 rfl (lv_room (Nat.le_of_ble_eq_true rfl)) dX12_readNew_9 ⟨Nat.le_of_ble_eq_true rfl, Nat.le_of_ble_eq_true rfl⟩) hS (fun q _ h => MA.le hS.1 q h) (MA.le hS.1) (fun r38 x t H locs ht hvm hw hB9 _ _ hS => ?_)
    have hP := mB.at ht hB9
    clear hB9 ht hvm
    obtain ⟨st39, sl40⟩ := x
    obtain ⟨hG2, hF2, hw⟩ := hw
    dsimp only at hG2 hF2 hw
    have hP : va_P (dC, dI) vwCl (mw ar cy st39 sl40) _ := hP
    have hG : MG [1, 2, 3, 6, 7, 8, 9, 10, 11, 12, 13, 14, 15, 20, 21, 22] st st39 := hG.tr hG2 (by decide)
    have hFst39 : FM 2 st sl st39 sl40 := hF2
    have hF : FM 3 st sl st39 sl40 := hF.tr hFst39 (by omega) (by omega)
    clear hG2 hF2
    have hR : RT c nm st39 sl40 := hR.fr hFst39 (by omega)
    obtain ⟨rfl, hf41, hf42, hT⟩ := hw
    have hp9 := hT.2.2.2.2.2.2
    have hk1 := tkd_lt (B := B) (g := g) (m := m) (p := p)
    have hk2 := tkx_le (B := B) (g := g) (m := m) (p := p) hp9
    have hk3 := tka_le (B := B) (g := g) (m := m) (p := p) hp9 hB.2.2.1
    have hk4 := tkv_lt (p := p) hB hp9
    have hk5 := tkw_lt (B := B) (g := g) (m := m) (p := p)
    exact W.zret (v := 0) hx hb hr rfl (fun t ht hW => ⟨⟨0, (st39, sl40), rfl, ⟨hG, hF, Or.inr (⟨1, (tka B g m p), rfl, by show st39 0 10 = _; rw [hf41, bdk_1], by show st39 0 11 = _; rw [hf42], by omega, fun k => by unfold eNew; rw [if_pos (by omega)]⟩)⟩, mB.of ht hP⟩, hS.F ht⟩) hS.2.2 dX12_readNew_12
