set_option maxHeartbeats 4000000 in
set_option maxRecDepth 100000 in
theorem f_isWord6 (l : Launch) (dC : Nat → ClassId) (dI : Nat → Nat → Nat) (ar : Nat → Nat) (cy : Nat → ClassId) (sz : Nat) (hN : MN ar) (st : Nat → Nat → Int32) (sl : Nat → Nat → Int64) (B : Nat → Nat) (g m : Nat) (p : Nat) (hI : MI st) (hB : MBt B g m st) (hT : TM B g m p st sl) : Met l yX12_isWord wsX12_isWord ({ frames := 2, cells := 0, slots := 0, locals := 48 }) (va_Pc [.ref (ar 0), .int 6] (mPre dC dI ar cy sz st sl)) (va_Qi (fun (r : Int32) (x : MT) => x = (st, sl) ∧ ((r = 1 ∧ tkw B g m p = 6) ∨ (r = 0 ∧ ¬ tkw B g m p = 6))) (mB dC dI ar cy) (MA ar sz)) 0 0 (MA ar sz) := by
  refine Met.ofW (cc := cX12_isWord) (maxL := 2) (ret := (some .boolean)) (by decide) rfl ?_
  intro p9 e s m9 args below meth c9 s₁ B9 hml hv
  obtain ⟨rfl, hsz, hP, hK⟩ := hv
  have hx := B9.exec
  have hb := B9.bytes
  have hr := B9.returns
  have hts := atoms_spec (ws := wsX12_isWord) B9.pre
  have hown : s.vm.findClass RX12 = some m9.cls := findClass_of_methodNamed B9.named
  subst hsz
  have hS : va_S (MA ar s.heap.size) s.heap s.heap [] := va_S.rf
  have hG : MG [1, 2, 3, 4, 5, 6, 7, 8, 9, 10, 11, 12, 13, 14, 15, 16, 17, 19, 20, 21, 22, 23] st st := MG.rf hI
  have hl := lv_entry ([.ref (ar 0), .int 6]) (n := 2) (Nat.le_of_ble_eq_true rfl)
  rw [lg_entry_eq]
  generalize (lg_sl ([.ref (ar 0), .int 6]) ++ List.replicate (2 - (lg_sl ([.ref (ar 0), .int 6])).length) Slot.unset).toArray = ls at hl ⊢
  have hl : lv_has ls 2 [(0, .ref (ar 0)), (1, .int 6)] := hl
  clear hI
  have hB1 := hB.2.2.1
  have hB2 := hB.2.2.2.1
  have hF : FM 0 st sl st sl := FM.rf
  have hp9 := hT.2.2.2.2.2.2
  have hk1 := tkd_lt (B := B) (g := g) (m := m) (p := p)
  have hk2 := tkx_le (B := B) (g := g) (m := m) (p := p) hp9
  have hk3 := tka_le (B := B) (g := g) (m := m) (p := p) hp9 hB.2.2.1
  have hk4 := tkv_lt (p := p) hB hp9
  have hk5 := tkw_lt (B := B) (g := g) (m := m) (p := p)
  refine lv_aload_n hx hb dX12_isWord_0 rfl (lv_at hl 0 rfl) ?_
  refine va_get (D := (dC, dI)) (ci := 11) (v := .int (st 0 7)) (C := RX12) (T := TX12) (N := 47) hx hb hts ii_X12_isWord hown hK hP 0 rfl rfl 7 (by decide) (hts _ mm_X12_isWord_1) (fun _ hh => hh) rfl dX12_isWord_1 ?_
  refine zz_top (v := (nI (tkd B g m p))) (by show st 0 7 = _; rw [hT.2.2.1]) ?_
  refine lv_iconst (v := 2) hx hb dX12_isWord_4 (by decide) ?_
  refine lv_icmp_ne (tgt := 24) hx hb dX12_isWord_5 (by decide) (fun c1 => ?_) (fun c1 => ?_)
  · have c1 : ¬ (tkd B g m p) = 2 := fun hh => c1 ((nI_eq (a := (tkd B g m p)) (b := 2) (by omega) (by omega)).mpr hh)
    refine lv_iconst (v := 0) hx hb dX12_isWord_24 (by decide) ?_
    exact W.zret (v := 0) hx hb hr rfl (fun t ht hW => ⟨⟨0, (st, sl), rfl, ⟨rfl, Or.inr (⟨rfl, by rw [tkw_n (by omega)]; omega⟩)⟩, mB.of ht hP⟩, hS.F ht⟩) hS.2.2 dX12_isWord_25
  · have c1 : (tkd B g m p) = 2 := (nI_eq (a := (tkd B g m p)) (b := 2) (by omega) (by omega)).mp c1
    refine lv_aload_n hx hb dX12_isWord_8 rfl (lv_at hl 0 rfl) ?_
    refine va_get (D := (dC, dI)) (ci := 11) (v := .long (sl 0 12)) (C := RX12) (T := TX12) (N := 47) hx hb hts ii_X12_isWord hown hK hP 0 rfl rfl 12 (by decide) (hts _ mm_X12_isWord_2) (fun _ hh => hh) rfl dX12_isWord_9 ?_
    refine lv_iload_n hx hb dX12_isWord_12 rfl (lv_at hl 1 rfl) ?_
    refine va_calll (va_runS (As := [.int 6]) (rest := [.long (sl 0 12)]) ⟨hx, hb, hml, hown, hts⟩ (f_wordOf6 l dC dI ar cy _ hN st sl hG.1 ) (va_cwS 1 hts gX12_isWord_X12_wordOf rfl rfl rfl (by decide +kernel) ⟨Nat.le_of_ble_eq_true rfl, Nat.le_of_ble_eq_true rfl⟩) ⟨fun a U g mk q => ⟨q.1, mPre.blind q.2⟩, fun U hU hW => ⟨rfl, mPre.of hP hK hU hW⟩⟩ rfl rfl hl.1 rfl (lv_room (Nat.le_of_ble_eq_true rfl)) dX12_isWord_13 ⟨Nat.le_of_ble_eq_true rfl, Nat.le_of_ble_eq_true rfl⟩) hS (fun q _ h => MA.le hS.1 q h) (MA.le hS.1) (fun r1 x t H locs ht hvm hw hB9 _ _ hS => ?_)
    have hP := mB.at ht hB9
    clear hB9 ht hvm
    obtain ⟨rfl, hw⟩ := hw
    have hP : va_P (dC, dI) vwCl (mw ar cy st sl) _ := hP
    obtain rfl := hw
    refine W.lcmp hx hb dX12_isWord_16 ?_
    refine lv_topi (fun z2 ez2 => ?_)
    refine lv_if_ne (tgt := 24) hx hb dX12_isWord_17 (by decide) (fun c2 => ?_) (fun c2 => ?_)
    · have c2 : ¬ (sl 0 12) = 776813 := fun hh => c2 (by rw [ez2]; exact (lg_cmp_eq _ _).mpr hh)
      have c2 : ¬ tkw B g m p = 6 := fun hh => c2 ((tkw_k (p := p) (m := m) hp9 hB1 (by omega) (hT.2.2.2.2.2.1 (by omega)) (k := 6) (by decide) (w' := 776813) (by decide +kernel)).mpr hh)
      refine lv_iconst (v := 0) hx hb dX12_isWord_24 (by decide) ?_
      exact W.zret (v := 0) hx hb hr rfl (fun t ht hW => ⟨⟨0, (st, sl), rfl, ⟨rfl, Or.inr (⟨rfl, by omega⟩)⟩, mB.of ht hP⟩, hS.F ht⟩) hS.2.2 dX12_isWord_25
    · have c2 : (sl 0 12) = 776813 := (lg_cmp_eq _ _).mp (by rw [← ez2]; exact c2)
      have c2 : tkw B g m p = 6 := (tkw_k (p := p) (m := m) hp9 hB1 (by omega) (hT.2.2.2.2.2.1 (by omega)) (k := 6) (by decide) (w' := 776813) (by decide +kernel)).mp c2
      refine lv_iconst (v := 1) hx hb dX12_isWord_20 (by decide) ?_
      refine lv_goto (tgt := 25) hx hb dX12_isWord_21 (by decide) ?_
      exact W.zret (v := 1) hx hb hr rfl (fun t ht hW => ⟨⟨1, (st, sl), rfl, ⟨rfl, Or.inl (⟨rfl, by omega⟩)⟩, mB.of ht hP⟩, hS.F ht⟩) hS.2.2 dX12_isWord_25
set_option maxHeartbeats 4000000 in
set_option maxRecDepth 100000 in
theorem f_isWord7 (l : Launch) (dC : Nat → ClassId) (dI : Nat → Nat → Nat) (ar : Nat → Nat) (cy : Nat → ClassId) (sz : Nat) (hN : MN ar) (st : Nat → Nat → Int32) (sl : Nat → Nat → Int64) (B : Nat → Nat) (g m : Nat) (p : Nat) (hI : MI st) (hB : MBt B g m st) (hT : TM B g m p st sl) : Met l yX12_isWord wsX12_isWord ({ frames := 2, cells := 0, slots := 0, locals := 48 }) (va_Pc [.ref (ar 0), .int 7] (mPre dC dI ar cy sz st sl)) (va_Qi (fun (r : Int32) (x : MT) => x = (st, sl) ∧ ((r = 1 ∧ tkw B g m p = 7) ∨ (r = 0 ∧ ¬ tkw B g m p = 7))) (mB dC dI ar cy) (MA ar sz)) 0 0 (MA ar sz) := by
  refine Met.ofW (cc := cX12_isWord) (maxL := 2) (ret := (some .boolean)) (by decide) rfl ?_
  intro p9 e s m9 args below meth c9 s₁ B9 hml hv
  obtain ⟨rfl, hsz, hP, hK⟩ := hv
  have hx := B9.exec
  have hb := B9.bytes
  have hr := B9.returns
  have hts := atoms_spec (ws := wsX12_isWord) B9.pre
  have hown : s.vm.findClass RX12 = some m9.cls := findClass_of_methodNamed B9.named
  subst hsz
  have hS : va_S (MA ar s.heap.size) s.heap s.heap [] := va_S.rf
  have hG : MG [1, 2, 3, 4, 5, 6, 7, 8, 9, 10, 11, 12, 13, 14, 15, 16, 17, 19, 20, 21, 22, 23] st st := MG.rf hI
  have hl := lv_entry ([.ref (ar 0), .int 7]) (n := 2) (Nat.le_of_ble_eq_true rfl)
  rw [lg_entry_eq]
  generalize (lg_sl ([.ref (ar 0), .int 7]) ++ List.replicate (2 - (lg_sl ([.ref (ar 0), .int 7])).length) Slot.unset).toArray = ls at hl ⊢
  have hl : lv_has ls 2 [(0, .ref (ar 0)), (1, .int 7)] := hl
  clear hI
  have hB1 := hB.2.2.1
  have hB2 := hB.2.2.2.1
  have hF : FM 0 st sl st sl := FM.rf
  have hp9 := hT.2.2.2.2.2.2
  have hk1 := tkd_lt (B := B) (g := g) (m := m) (p := p)
  have hk2 := tkx_le (B := B) (g := g) (m := m) (p := p) hp9
  have hk3 := tka_le (B := B) (g := g) (m := m) (p := p) hp9 hB.2.2.1
  have hk4 := tkv_lt (p := p) hB hp9
  have hk5 := tkw_lt (B := B) (g := g) (m := m) (p := p)
  refine lv_aload_n hx hb dX12_isWord_0 rfl (lv_at hl 0 rfl) ?_
  refine va_get (D := (dC, dI)) (ci := 11) (v := .int (st 0 7)) (C := RX12) (T := TX12) (N := 47) hx hb hts ii_X12_isWord hown hK hP 0 rfl rfl 7 (by decide) (hts _ mm_X12_isWord_1) (fun _ hh => hh) rfl dX12_isWord_1 ?_
  refine zz_top (v := (nI (tkd B g m p))) (by show st 0 7 = _; rw [hT.2.2.1]) ?_
  refine lv_iconst (v := 2) hx hb dX12_isWord_4 (by decide) ?_
  refine lv_icmp_ne (tgt := 24) hx hb dX12_isWord_5 (by decide) (fun c1 => ?_) (fun c1 => ?_)
  · have c1 : ¬ (tkd B g m p) = 2 := fun hh => c1 ((nI_eq (a := (tkd B g m p)) (b := 2) (by omega) (by omega)).mpr hh)
    refine lv_iconst (v := 0) hx hb dX12_isWord_24 (by decide) ?_
    exact W.zret (v := 0) hx hb hr rfl (fun t ht hW => ⟨⟨0, (st, sl), rfl, ⟨rfl, Or.inr (⟨rfl, by rw [tkw_n (by omega)]; omega⟩)⟩, mB.of ht hP⟩, hS.F ht⟩) hS.2.2 dX12_isWord_25
  · have c1 : (tkd B g m p) = 2 := (nI_eq (a := (tkd B g m p)) (b := 2) (by omega) (by omega)).mp c1
    refine lv_aload_n hx hb dX12_isWord_8 rfl (lv_at hl 0 rfl) ?_
    refine va_get (D := (dC, dI)) (ci := 11) (v := .long (sl 0 12)) (C := RX12) (T := TX12) (N := 47) hx hb hts ii_X12_isWord hown hK hP 0 rfl rfl 12 (by decide) (hts _ mm_X12_isWord_2) (fun _ hh => hh) rfl dX12_isWord_9 ?_
    refine lv_iload_n hx hb dX12_isWord_12 rfl (lv_at hl 1 rfl) ?_
    refine va_calll (va_runS (As := [.int 7]) (rest := [.long (sl 0 12)]) ⟨hx, hb, hml, hown, hts⟩ (f_wordOf7 l dC dI ar cy _ hN st sl hG.1 ) (va_cwS 1 hts gX12_isWord_X12_wordOf rfl rfl rfl (by decide +kernel) ⟨Nat.le_of_ble_eq_true rfl, Nat.le_of_ble_eq_true rfl⟩) ⟨fun a U g mk q => ⟨q.1, mPre.blind q.2⟩, fun U hU hW => ⟨rfl, mPre.of hP hK hU hW⟩⟩ rfl rfl hl.1 rfl (lv_room (Nat.le_of_ble_eq_true rfl)) dX12_isWord_13 ⟨Nat.le_of_ble_eq_true rfl, Nat.le_of_ble_eq_true rfl⟩) hS (fun q _ h => MA.le hS.1 q h) (MA.le hS.1) (fun r1 x t H locs ht hvm hw hB9 _ _ hS => ?_)
    have hP := mB.at ht hB9
    clear hB9 ht hvm
    obtain ⟨rfl, hw⟩ := hw
    have hP : va_P (dC, dI) vwCl (mw ar cy st sl) _ := hP
    obtain rfl := hw
    refine W.lcmp hx hb dX12_isWord_16 ?_
    refine lv_topi (fun z2 ez2 => ?_)
    refine lv_if_ne (tgt := 24) hx hb dX12_isWord_17 (by decide) (fun c2 => ?_) (fun c2 => ?_)
    · have c2 : ¬ (sl 0 12) = 94421056 := fun hh => c2 (by rw [ez2]; exact (lg_cmp_eq _ _).mpr hh)
      have c2 : ¬ tkw B g m p = 7 := fun hh => c2 ((tkw_k (p := p) (m := m) hp9 hB1 (by omega) (hT.2.2.2.2.2.1 (by omega)) (k := 7) (by decide) (w' := 94421056) (by decide +kernel)).mpr hh)
      refine lv_iconst (v := 0) hx hb dX12_isWord_24 (by decide) ?_
      exact W.zret (v := 0) hx hb hr rfl (fun t ht hW => ⟨⟨0, (st, sl), rfl, ⟨rfl, Or.inr (⟨rfl, by omega⟩)⟩, mB.of ht hP⟩, hS.F ht⟩) hS.2.2 dX12_isWord_25
    · have c2 : (sl 0 12) = 94421056 := (lg_cmp_eq _ _).mp (by rw [← ez2]; exact c2)
      have c2 : tkw B g m p = 7 := (tkw_k (p := p) (m := m) hp9 hB1 (by omega) (hT.2.2.2.2.2.1 (by omega)) (k := 7) (by decide) (w' := 94421056) (by decide +kernel)).mp c2
      refine lv_iconst (v := 1) hx hb dX12_isWord_20 (by decide) ?_
      refine lv_goto (tgt := 25) hx hb dX12_isWord_21 (by decide) ?_
      exact W.zret (v := 1) hx hb hr rfl (fun t ht hW => ⟨⟨1, (st, sl), rfl, ⟨rfl, Or.inl (⟨rfl, by omega⟩)⟩, mB.of ht hP⟩, hS.F ht⟩) hS.2.2 dX12_isWord_25
set_option maxHeartbeats 4000000 in
set_option maxRecDepth 100000 in
theorem f_isWord8 (l : Launch) (dC : Nat → ClassId) (dI : Nat → Nat → Nat) (ar : Nat → Nat) (cy : Nat → ClassId) (sz : Nat) (hN : MN ar) (st : Nat → Nat → Int32) (sl : Nat → Nat → Int64) (B : Nat → Nat) (g m : Nat) (p : Nat) (hI : MI st) (hB : MBt B g m st) (hT : TM B g m p st sl) : Met l yX12_isWord wsX12_isWord ({ frames := 2, cells := 0, slots := 0, locals := 48 }) (va_Pc [.ref (ar 0), .int 8] (mPre dC dI ar cy sz st sl)) (va_Qi (fun (r : Int32) (x : MT) => x = (st, sl) ∧ ((r = 1 ∧ tkw B g m p = 8) ∨ (r = 0 ∧ ¬ tkw B g m p = 8))) (mB dC dI ar cy) (MA ar sz)) 0 0 (MA ar sz) := by
  refine Met.ofW (cc := cX12_isWord) (maxL := 2) (ret := (some .boolean)) (by decide) rfl ?_
  intro p9 e s m9 args below meth c9 s₁ B9 hml hv
  obtain ⟨rfl, hsz, hP, hK⟩ := hv
  have hx := B9.exec
  have hb := B9.bytes
  have hr := B9.returns
  have hts := atoms_spec (ws := wsX12_isWord) B9.pre
  have hown : s.vm.findClass RX12 = some m9.cls := findClass_of_methodNamed B9.named
  subst hsz
  have hS : va_S (MA ar s.heap.size) s.heap s.heap [] := va_S.rf
  have hG : MG [1, 2, 3, 4, 5, 6, 7, 8, 9, 10, 11, 12, 13, 14, 15, 16, 17, 19, 20, 21, 22, 23] st st := MG.rf hI
  have hl := lv_entry ([.ref (ar 0), .int 8]) (n := 2) (Nat.le_of_ble_eq_true rfl)
  rw [lg_entry_eq]
  generalize (lg_sl ([.ref (ar 0), .int 8]) ++ List.replicate (2 - (lg_sl ([.ref (ar 0), .int 8])).length) Slot.unset).toArray = ls at hl ⊢
  have hl : lv_has ls 2 [(0, .ref (ar 0)), (1, .int 8)] := hl
  clear hI
  have hB1 := hB.2.2.1
  have hB2 := hB.2.2.2.1
  have hF : FM 0 st sl st sl := FM.rf
  have hp9 := hT.2.2.2.2.2.2
  have hk1 := tkd_lt (B := B) (g := g) (m := m) (p := p)
  have hk2 := tkx_le (B := B) (g := g) (m := m) (p := p) hp9
  have hk3 := tka_le (B := B) (g := g) (m := m) (p := p) hp9 hB.2.2.1
  have hk4 := tkv_lt (p := p) hB hp9
  have hk5 := tkw_lt (B := B) (g := g) (m := m) (p := p)
  refine lv_aload_n hx hb dX12_isWord_0 rfl (lv_at hl 0 rfl) ?_
  refine va_get (D := (dC, dI)) (ci := 11) (v := .int (st 0 7)) (C := RX12) (T := TX12) (N := 47) hx hb hts ii_X12_isWord hown hK hP 0 rfl rfl 7 (by decide) (hts _ mm_X12_isWord_1) (fun _ hh => hh) rfl dX12_isWord_1 ?_
  refine zz_top (v := (nI (tkd B g m p))) (by show st 0 7 = _; rw [hT.2.2.1]) ?_
  refine lv_iconst (v := 2) hx hb dX12_isWord_4 (by decide) ?_
  refine lv_icmp_ne (tgt := 24) hx hb dX12_isWord_5 (by decide) (fun c1 => ?_) (fun c1 => ?_)
  · have c1 : ¬ (tkd B g m p) = 2 := fun hh => c1 ((nI_eq (a := (tkd B g m p)) (b := 2) (by omega) (by omega)).mpr hh)
    refine lv_iconst (v := 0) hx hb dX12_isWord_24 (by decide) ?_
    exact W.zret (v := 0) hx hb hr rfl (fun t ht hW => ⟨⟨0, (st, sl), rfl, ⟨rfl, Or.inr (⟨rfl, by rw [tkw_n (by omega)]; omega⟩)⟩, mB.of ht hP⟩, hS.F ht⟩) hS.2.2 dX12_isWord_25
  · have c1 : (tkd B g m p) = 2 := (nI_eq (a := (tkd B g m p)) (b := 2) (by omega) (by omega)).mp c1
    refine lv_aload_n hx hb dX12_isWord_8 rfl (lv_at hl 0 rfl) ?_
    refine va_get (D := (dC, dI)) (ci := 11) (v := .long (sl 0 12)) (C := RX12) (T := TX12) (N := 47) hx hb hts ii_X12_isWord hown hK hP 0 rfl rfl 12 (by decide) (hts _ mm_X12_isWord_2) (fun _ hh => hh) rfl dX12_isWord_9 ?_
    refine lv_iload_n hx hb dX12_isWord_12 rfl (lv_at hl 1 rfl) ?_
    refine va_calll (va_runS (As := [.int 8]) (rest := [.long (sl 0 12)]) ⟨hx, hb, hml, hown, hts⟩ (f_wordOf8 l dC dI ar cy _ hN st sl hG.1 ) (va_cwS 1 hts gX12_isWord_X12_wordOf rfl rfl rfl (by decide +kernel) ⟨Nat.le_of_ble_eq_true rfl, Nat.le_of_ble_eq_true rfl⟩) ⟨fun a U g mk q => ⟨q.1, mPre.blind q.2⟩, fun U hU hW => ⟨rfl, mPre.of hP hK hU hW⟩⟩ rfl rfl hl.1 rfl (lv_room (Nat.le_of_ble_eq_true rfl)) dX12_isWord_13 ⟨Nat.le_of_ble_eq_true rfl, Nat.le_of_ble_eq_true rfl⟩) hS (fun q _ h => MA.le hS.1 q h) (MA.le hS.1) (fun r1 x t H locs ht hvm hw hB9 _ _ hS => ?_)
    have hP := mB.at ht hB9
    clear hB9 ht hvm
    obtain ⟨rfl, hw⟩ := hw
    have hP : va_P (dC, dI) vwCl (mw ar cy st sl) _ := hP
    obtain rfl := hw
    refine W.lcmp hx hb dX12_isWord_16 ?_
    refine lv_topi (fun z2 ez2 => ?_)
    refine lv_if_ne (tgt := 24) hx hb dX12_isWord_17 (by decide) (fun c2 => ?_) (fun c2 => ?_)
    · have c2 : ¬ (sl 0 12) = 3297353 := fun hh => c2 (by rw [ez2]; exact (lg_cmp_eq _ _).mpr hh)
      have c2 : ¬ tkw B g m p = 8 := fun hh => c2 ((tkw_k (p := p) (m := m) hp9 hB1 (by omega) (hT.2.2.2.2.2.1 (by omega)) (k := 8) (by decide) (w' := 3297353) (by decide +kernel)).mpr hh)
      refine lv_iconst (v := 0) hx hb dX12_isWord_24 (by decide) ?_
      exact W.zret (v := 0) hx hb hr rfl (fun t ht hW => ⟨⟨0, (st, sl), rfl, ⟨rfl, Or.inr (⟨rfl, by omega⟩)⟩, mB.of ht hP⟩, hS.F ht⟩) hS.2.2 dX12_isWord_25
    · have c2 : (sl 0 12) = 3297353 := (lg_cmp_eq _ _).mp (by rw [← ez2]; exact c2)
      have c2 : tkw B g m p = 8 := (tkw_k (p := p) (m := m) hp9 hB1 (by omega) (hT.2.2.2.2.2.1 (by omega)) (k := 8) (by decide) (w' := 3297353) (by decide +kernel)).mp c2
      refine lv_iconst (v := 1) hx hb dX12_isWord_20 (by decide) ?_
      refine lv_goto (tgt := 25) hx hb dX12_isWord_21 (by decide) ?_
      exact W.zret (v := 1) hx hb hr rfl (fun t ht hW => ⟨⟨1, (st, sl), rfl, ⟨rfl, Or.inl (⟨rfl, by omega⟩)⟩, mB.of ht hP⟩, hS.F ht⟩) hS.2.2 dX12_isWord_25
set_option maxHeartbeats 4000000 in
set_option maxRecDepth 100000 in
theorem f_isWord9 (l : Launch) (dC : Nat → ClassId) (dI : Nat → Nat → Nat) (ar : Nat → Nat) (cy : Nat → ClassId) (sz : Nat) (hN : MN ar) (st : Nat → Nat → Int32) (sl : Nat → Nat → Int64) (B : Nat → Nat) (g m : Nat) (p : Nat) (hI : MI st) (hB : MBt B g m st) (hT : TM B g m p st sl) : Met l yX12_isWord wsX12_isWord ({ frames := 2, cells := 0, slots := 0, locals := 48 }) (va_Pc [.ref (ar 0), .int 9] (mPre dC dI ar cy sz st sl)) (va_Qi (fun (r : Int32) (x : MT) => x = (st, sl) ∧ ((r = 1 ∧ tkw B g m p = 9) ∨ (r = 0 ∧ ¬ tkw B g m p = 9))) (mB dC dI ar cy) (MA ar sz)) 0 0 (MA ar sz) := by
  refine Met.ofW (cc := cX12_isWord) (maxL := 2) (ret := (some .boolean)) (by decide) rfl ?_
  intro p9 e s m9 args below meth c9 s₁ B9 hml hv
  obtain ⟨rfl, hsz, hP, hK⟩ := hv
  have hx := B9.exec
  have hb := B9.bytes
  have hr := B9.returns
  have hts := atoms_spec (ws := wsX12_isWord) B9.pre
  have hown : s.vm.findClass RX12 = some m9.cls := findClass_of_methodNamed B9.named
  subst hsz
  have hS : va_S (MA ar s.heap.size) s.heap s.heap [] := va_S.rf
  have hG : MG [1, 2, 3, 4, 5, 6, 7, 8, 9, 10, 11, 12, 13, 14, 15, 16, 17, 19, 20, 21, 22, 23] st st := MG.rf hI
  have hl := lv_entry ([.ref (ar 0), .int 9]) (n := 2) (Nat.le_of_ble_eq_true rfl)
  rw [lg_entry_eq]
  generalize (lg_sl ([.ref (ar 0), .int 9]) ++ List.replicate (2 - (lg_sl ([.ref (ar 0), .int 9])).length) Slot.unset).toArray = ls at hl ⊢
  have hl : lv_has ls 2 [(0, .ref (ar 0)), (1, .int 9)] := hl
  clear hI
  have hB1 := hB.2.2.1
  have hB2 := hB.2.2.2.1
  have hF : FM 0 st sl st sl := FM.rf
  have hp9 := hT.2.2.2.2.2.2
  have hk1 := tkd_lt (B := B) (g := g) (m := m) (p := p)
  have hk2 := tkx_le (B := B) (g := g) (m := m) (p := p) hp9
  have hk3 := tka_le (B := B) (g := g) (m := m) (p := p) hp9 hB.2.2.1
  have hk4 := tkv_lt (p := p) hB hp9
  have hk5 := tkw_lt (B := B) (g := g) (m := m) (p := p)
  refine lv_aload_n hx hb dX12_isWord_0 rfl (lv_at hl 0 rfl) ?_
  refine va_get (D := (dC, dI)) (ci := 11) (v := .int (st 0 7)) (C := RX12) (T := TX12) (N := 47) hx hb hts ii_X12_isWord hown hK hP 0 rfl rfl 7 (by decide) (hts _ mm_X12_isWord_1) (fun _ hh => hh) rfl dX12_isWord_1 ?_
  refine zz_top (v := (nI (tkd B g m p))) (by show st 0 7 = _; rw [hT.2.2.1]) ?_
  refine lv_iconst (v := 2) hx hb dX12_isWord_4 (by decide) ?_
  refine lv_icmp_ne (tgt := 24) hx hb dX12_isWord_5 (by decide) (fun c1 => ?_) (fun c1 => ?_)
  · have c1 : ¬ (tkd B g m p) = 2 := fun hh => c1 ((nI_eq (a := (tkd B g m p)) (b := 2) (by omega) (by omega)).mpr hh)
    refine lv_iconst (v := 0) hx hb dX12_isWord_24 (by decide) ?_
    exact W.zret (v := 0) hx hb hr rfl (fun t ht hW => ⟨⟨0, (st, sl), rfl, ⟨rfl, Or.inr (⟨rfl, by rw [tkw_n (by omega)]; omega⟩)⟩, mB.of ht hP⟩, hS.F ht⟩) hS.2.2 dX12_isWord_25
  · have c1 : (tkd B g m p) = 2 := (nI_eq (a := (tkd B g m p)) (b := 2) (by omega) (by omega)).mp c1
    refine lv_aload_n hx hb dX12_isWord_8 rfl (lv_at hl 0 rfl) ?_
    refine va_get (D := (dC, dI)) (ci := 11) (v := .long (sl 0 12)) (C := RX12) (T := TX12) (N := 47) hx hb hts ii_X12_isWord hown hK hP 0 rfl rfl 12 (by decide) (hts _ mm_X12_isWord_2) (fun _ hh => hh) rfl dX12_isWord_9 ?_
    refine lv_iload_n hx hb dX12_isWord_12 rfl (lv_at hl 1 rfl) ?_
    refine va_calll (va_runS (As := [.int 9]) (rest := [.long (sl 0 12)]) ⟨hx, hb, hml, hown, hts⟩ (f_wordOf9 l dC dI ar cy _ hN st sl hG.1 ) (va_cwS 1 hts gX12_isWord_X12_wordOf rfl rfl rfl (by decide +kernel) ⟨Nat.le_of_ble_eq_true rfl, Nat.le_of_ble_eq_true rfl⟩) ⟨fun a U g mk q => ⟨q.1, mPre.blind q.2⟩, fun U hU hW => ⟨rfl, mPre.of hP hK hU hW⟩⟩ rfl rfl hl.1 rfl (lv_room (Nat.le_of_ble_eq_true rfl)) dX12_isWord_13 ⟨Nat.le_of_ble_eq_true rfl, Nat.le_of_ble_eq_true rfl⟩) hS (fun q _ h => MA.le hS.1 q h) (MA.le hS.1) (fun r1 x t H locs ht hvm hw hB9 _ _ hS => ?_)
    have hP := mB.at ht hB9
    clear hB9 ht hvm
    obtain ⟨rfl, hw⟩ := hw
    have hP : va_P (dC, dI) vwCl (mw ar cy st sl) _ := hP
    obtain rfl := hw
    refine W.lcmp hx hb dX12_isWord_16 ?_
    refine lv_topi (fun z2 ez2 => ?_)
    refine lv_if_ne (tgt := 24) hx hb dX12_isWord_17 (by decide) (fun c2 => ?_) (fun c2 => ?_)
    · have c2 : ¬ (sl 0 12) = 161437 := fun hh => c2 (by rw [ez2]; exact (lg_cmp_eq _ _).mpr hh)
      have c2 : ¬ tkw B g m p = 9 := fun hh => c2 ((tkw_k (p := p) (m := m) hp9 hB1 (by omega) (hT.2.2.2.2.2.1 (by omega)) (k := 9) (by decide) (w' := 161437) (by decide +kernel)).mpr hh)
      refine lv_iconst (v := 0) hx hb dX12_isWord_24 (by decide) ?_
      exact W.zret (v := 0) hx hb hr rfl (fun t ht hW => ⟨⟨0, (st, sl), rfl, ⟨rfl, Or.inr (⟨rfl, by omega⟩)⟩, mB.of ht hP⟩, hS.F ht⟩) hS.2.2 dX12_isWord_25
    · have c2 : (sl 0 12) = 161437 := (lg_cmp_eq _ _).mp (by rw [← ez2]; exact c2)
      have c2 : tkw B g m p = 9 := (tkw_k (p := p) (m := m) hp9 hB1 (by omega) (hT.2.2.2.2.2.1 (by omega)) (k := 9) (by decide) (w' := 161437) (by decide +kernel)).mp c2
      refine lv_iconst (v := 1) hx hb dX12_isWord_20 (by decide) ?_
      refine lv_goto (tgt := 25) hx hb dX12_isWord_21 (by decide) ?_
      exact W.zret (v := 1) hx hb hr rfl (fun t ht hW => ⟨⟨1, (st, sl), rfl, ⟨rfl, Or.inl (⟨rfl, by omega⟩)⟩, mB.of ht hP⟩, hS.F ht⟩) hS.2.2 dX12_isWord_25
set_option maxHeartbeats 4000000 in
set_option maxRecDepth 100000 in
theorem f_isWord10 (l : Launch) (dC : Nat → ClassId) (dI : Nat → Nat → Nat) (ar : Nat → Nat) (cy : Nat → ClassId) (sz : Nat) (hN : MN ar) (st : Nat → Nat → Int32) (sl : Nat → Nat → Int64) (B : Nat → Nat) (g m : Nat) (p : Nat) (hI : MI st) (hB : MBt B g m st) (hT : TM B g m p st sl) : Met l yX12_isWord wsX12_isWord ({ frames := 2, cells := 0, slots := 0, locals := 48 }) (va_Pc [.ref (ar 0), .int 10] (mPre dC dI ar cy sz st sl)) (va_Qi (fun (r : Int32) (x : MT) => x = (st, sl) ∧ ((r = 1 ∧ tkw B g m p = 10) ∨ (r = 0 ∧ ¬ tkw B g m p = 10))) (mB dC dI ar cy) (MA ar sz)) 0 0 (MA ar sz) := by
  refine Met.ofW (cc := cX12_isWord) (maxL := 2) (ret := (some .boolean)) (by decide) rfl ?_
  intro p9 e s m9 args below meth c9 s₁ B9 hml hv
  obtain ⟨rfl, hsz, hP, hK⟩ := hv
  have hx := B9.exec
  have hb := B9.bytes
  have hr := B9.returns
  have hts := atoms_spec (ws := wsX12_isWord) B9.pre
  have hown : s.vm.findClass RX12 = some m9.cls := findClass_of_methodNamed B9.named
  subst hsz
  have hS : va_S (MA ar s.heap.size) s.heap s.heap [] := va_S.rf
  have hG : MG [1, 2, 3, 4, 5, 6, 7, 8, 9, 10, 11, 12, 13, 14, 15, 16, 17, 19, 20, 21, 22, 23] st st := MG.rf hI
  have hl := lv_entry ([.ref (ar 0), .int 10]) (n := 2) (Nat.le_of_ble_eq_true rfl)
  rw [lg_entry_eq]
  generalize (lg_sl ([.ref (ar 0), .int 10]) ++ List.replicate (2 - (lg_sl ([.ref (ar 0), .int 10])).length) Slot.unset).toArray = ls at hl ⊢
  have hl : lv_has ls 2 [(0, .ref (ar 0)), (1, .int 10)] := hl
  clear hI
  have hB1 := hB.2.2.1
  have hB2 := hB.2.2.2.1
  have hF : FM 0 st sl st sl := FM.rf
  have hp9 := hT.2.2.2.2.2.2
  have hk1 := tkd_lt (B := B) (g := g) (m := m) (p := p)
  have hk2 := tkx_le (B := B) (g := g) (m := m) (p := p) hp9
  have hk3 := tka_le (B := B) (g := g) (m := m) (p := p) hp9 hB.2.2.1
  have hk4 := tkv_lt (p := p) hB hp9
  have hk5 := tkw_lt (B := B) (g := g) (m := m) (p := p)
  refine lv_aload_n hx hb dX12_isWord_0 rfl (lv_at hl 0 rfl) ?_
  refine va_get (D := (dC, dI)) (ci := 11) (v := .int (st 0 7)) (C := RX12) (T := TX12) (N := 47) hx hb hts ii_X12_isWord hown hK hP 0 rfl rfl 7 (by decide) (hts _ mm_X12_isWord_1) (fun _ hh => hh) rfl dX12_isWord_1 ?_
  refine zz_top (v := (nI (tkd B g m p))) (by show st 0 7 = _; rw [hT.2.2.1]) ?_
  refine lv_iconst (v := 2) hx hb dX12_isWord_4 (by decide) ?_
  refine lv_icmp_ne (tgt := 24) hx hb dX12_isWord_5 (by decide) (fun c1 => ?_) (fun c1 => ?_)
  · have c1 : ¬ (tkd B g m p) = 2 := fun hh => c1 ((nI_eq (a := (tkd B g m p)) (b := 2) (by omega) (by omega)).mpr hh)
    refine lv_iconst (v := 0) hx hb dX12_isWord_24 (by decide) ?_
    exact W.zret (v := 0) hx hb hr rfl (fun t ht hW => ⟨⟨0, (st, sl), rfl, ⟨rfl, Or.inr (⟨rfl, by rw [tkw_n (by omega)]; omega⟩)⟩, mB.of ht hP⟩, hS.F ht⟩) hS.2.2 dX12_isWord_25
  · have c1 : (tkd B g m p) = 2 := (nI_eq (a := (tkd B g m p)) (b := 2) (by omega) (by omega)).mp c1
    refine lv_aload_n hx hb dX12_isWord_8 rfl (lv_at hl 0 rfl) ?_
    refine va_get (D := (dC, dI)) (ci := 11) (v := .long (sl 0 12)) (C := RX12) (T := TX12) (N := 47) hx hb hts ii_X12_isWord hown hK hP 0 rfl rfl 12 (by decide) (hts _ mm_X12_isWord_2) (fun _ hh => hh) rfl dX12_isWord_9 ?_
    refine lv_iload_n hx hb dX12_isWord_12 rfl (lv_at hl 1 rfl) ?_
    refine va_calll (va_runS (As := [.int 10]) (rest := [.long (sl 0 12)]) ⟨hx, hb, hml, hown, hts⟩ (f_wordOf10 l dC dI ar cy _ hN st sl hG.1 ) (va_cwS 1 hts gX12_isWord_X12_wordOf rfl rfl rfl (by decide +kernel) ⟨Nat.le_of_ble_eq_true rfl, Nat.le_of_ble_eq_true rfl⟩) ⟨fun a U g mk q => ⟨q.1, mPre.blind q.2⟩, fun U hU hW => ⟨rfl, mPre.of hP hK hU hW⟩⟩ rfl rfl hl.1 rfl (lv_room (Nat.le_of_ble_eq_true rfl)) dX12_isWord_13 ⟨Nat.le_of_ble_eq_true rfl, Nat.le_of_ble_eq_true rfl⟩) hS (fun q _ h => MA.le hS.1 q h) (MA.le hS.1) (fun r1 x t H locs ht hvm hw hB9 _ _ hS => ?_)
    have hP := mB.at ht hB9
    clear hB9 ht hvm
    obtain ⟨rfl, hw⟩ := hw
    have hP : va_P (dC, dI) vwCl (mw ar cy st sl) _ := hP
    obtain rfl := hw
    refine W.lcmp hx hb dX12_isWord_16 ?_
    refine lv_topi (fun z2 ez2 => ?_)
    refine lv_if_ne (tgt := 24) hx hb dX12_isWord_17 (by decide) (fun c2 => ?_) (fun c2 => ?_)
    · have c2 : ¬ (sl 0 12) = 6683990 := fun hh => c2 (by rw [ez2]; exact (lg_cmp_eq _ _).mpr hh)
      have c2 : ¬ tkw B g m p = 10 := fun hh => c2 ((tkw_k (p := p) (m := m) hp9 hB1 (by omega) (hT.2.2.2.2.2.1 (by omega)) (k := 10) (by decide) (w' := 6683990) (by decide +kernel)).mpr hh)
      refine lv_iconst (v := 0) hx hb dX12_isWord_24 (by decide) ?_
      exact W.zret (v := 0) hx hb hr rfl (fun t ht hW => ⟨⟨0, (st, sl), rfl, ⟨rfl, Or.inr (⟨rfl, by omega⟩)⟩, mB.of ht hP⟩, hS.F ht⟩) hS.2.2 dX12_isWord_25
    · have c2 : (sl 0 12) = 6683990 := (lg_cmp_eq _ _).mp (by rw [← ez2]; exact c2)
      have c2 : tkw B g m p = 10 := (tkw_k (p := p) (m := m) hp9 hB1 (by omega) (hT.2.2.2.2.2.1 (by omega)) (k := 10) (by decide) (w' := 6683990) (by decide +kernel)).mp c2
      refine lv_iconst (v := 1) hx hb dX12_isWord_20 (by decide) ?_
      refine lv_goto (tgt := 25) hx hb dX12_isWord_21 (by decide) ?_
      exact W.zret (v := 1) hx hb hr rfl (fun t ht hW => ⟨⟨1, (st, sl), rfl, ⟨rfl, Or.inl (⟨rfl, by omega⟩)⟩, mB.of ht hP⟩, hS.F ht⟩) hS.2.2 dX12_isWord_25
set_option maxHeartbeats 4000000 in
set_option maxRecDepth 100000 in
theorem f_isWord11 (l : Launch) (dC : Nat → ClassId) (dI : Nat → Nat → Nat) (ar : Nat → Nat) (cy : Nat → ClassId) (sz : Nat) (hN : MN ar) (st : Nat → Nat → Int32) (sl : Nat → Nat → Int64) (B : Nat → Nat) (g m : Nat) (p : Nat) (hI : MI st) (hB : MBt B g m st) (hT : TM B g m p st sl) : Met l yX12_isWord wsX12_isWord ({ frames := 2, cells := 0, slots := 0, locals := 48 }) (va_Pc [.ref (ar 0), .int 11] (mPre dC dI ar cy sz st sl)) (va_Qi (fun (r : Int32) (x : MT) => x = (st, sl) ∧ ((r = 1 ∧ tkw B g m p = 11) ∨ (r = 0 ∧ ¬ tkw B g m p = 11))) (mB dC dI ar cy) (MA ar sz)) 0 0 (MA ar sz) := by
  refine Met.ofW (cc := cX12_isWord) (maxL := 2) (ret := (some .boolean)) (by decide) rfl ?_
  intro p9 e s m9 args below meth c9 s₁ B9 hml hv
  obtain ⟨rfl, hsz, hP, hK⟩ := hv
  have hx := B9.exec
  have hb := B9.bytes
  have hr := B9.returns
  have hts := atoms_spec (ws := wsX12_isWord) B9.pre
  have hown : s.vm.findClass RX12 = some m9.cls := findClass_of_methodNamed B9.named
  subst hsz
  have hS : va_S (MA ar s.heap.size) s.heap s.heap [] := va_S.rf
  have hG : MG [1, 2, 3, 4, 5, 6, 7, 8, 9, 10, 11, 12, 13, 14, 15, 16, 17, 19, 20, 21, 22, 23] st st := MG.rf hI
  have hl := lv_entry ([.ref (ar 0), .int 11]) (n := 2) (Nat.le_of_ble_eq_true rfl)
  rw [lg_entry_eq]
  generalize (lg_sl ([.ref (ar 0), .int 11]) ++ List.replicate (2 - (lg_sl ([.ref (ar 0), .int 11])).length) Slot.unset).toArray = ls at hl ⊢
  have hl : lv_has ls 2 [(0, .ref (ar 0)), (1, .int 11)] := hl
  clear hI
  have hB1 := hB.2.2.1
  have hB2 := hB.2.2.2.1
  have hF : FM 0 st sl st sl := FM.rf
  have hp9 := hT.2.2.2.2.2.2
  have hk1 := tkd_lt (B := B) (g := g) (m := m) (p := p)
  have hk2 := tkx_le (B := B) (g := g) (m := m) (p := p) hp9
  have hk3 := tka_le (B := B) (g := g) (m := m) (p := p) hp9 hB.2.2.1
  have hk4 := tkv_lt (p := p) hB hp9
  have hk5 := tkw_lt (B := B) (g := g) (m := m) (p := p)
  refine lv_aload_n hx hb dX12_isWord_0 rfl (lv_at hl 0 rfl) ?_
  refine va_get (D := (dC, dI)) (ci := 11) (v := .int (st 0 7)) (C := RX12) (T := TX12) (N := 47) hx hb hts ii_X12_isWord hown hK hP 0 rfl rfl 7 (by decide) (hts _ mm_X12_isWord_1) (fun _ hh => hh) rfl dX12_isWord_1 ?_
  refine zz_top (v := (nI (tkd B g m p))) (by show st 0 7 = _; rw [hT.2.2.1]) ?_
  refine lv_iconst (v := 2) hx hb dX12_isWord_4 (by decide) ?_
  refine lv_icmp_ne (tgt := 24) hx hb dX12_isWord_5 (by decide) (fun c1 => ?_) (fun c1 => ?_)
  · have c1 : ¬ (tkd B g m p) = 2 := fun hh => c1 ((nI_eq (a := (tkd B g m p)) (b := 2) (by omega) (by omega)).mpr hh)
    refine lv_iconst (v := 0) hx hb dX12_isWord_24 (by decide) ?_
    exact W.zret (v := 0) hx hb hr rfl (fun t ht hW => ⟨⟨0, (st, sl), rfl, ⟨rfl, Or.inr (⟨rfl, by rw [tkw_n (by omega)]; omega⟩)⟩, mB.of ht hP⟩, hS.F ht⟩) hS.2.2 dX12_isWord_25
  · have c1 : (tkd B g m p) = 2 := (nI_eq (a := (tkd B g m p)) (b := 2) (by omega) (by omega)).mp c1
    refine lv_aload_n hx hb dX12_isWord_8 rfl (lv_at hl 0 rfl) ?_
    refine va_get (D := (dC, dI)) (ci := 11) (v := .long (sl 0 12)) (C := RX12) (T := TX12) (N := 47) hx hb hts ii_X12_isWord hown hK hP 0 rfl rfl 12 (by decide) (hts _ mm_X12_isWord_2) (fun _ hh => hh) rfl dX12_isWord_9 ?_
    refine lv_iload_n hx hb dX12_isWord_12 rfl (lv_at hl 1 rfl) ?_
    refine va_calll (va_runS (As := [.int 11]) (rest := [.long (sl 0 12)]) ⟨hx, hb, hml, hown, hts⟩ (f_wordOf11 l dC dI ar cy _ hN st sl hG.1 ) (va_cwS 1 hts gX12_isWord_X12_wordOf rfl rfl rfl (by decide +kernel) ⟨Nat.le_of_ble_eq_true rfl, Nat.le_of_ble_eq_true rfl⟩) ⟨fun a U g mk q => ⟨q.1, mPre.blind q.2⟩, fun U hU hW => ⟨rfl, mPre.of hP hK hU hW⟩⟩ rfl rfl hl.1 rfl (lv_room (Nat.le_of_ble_eq_true rfl)) dX12_isWord_13 ⟨Nat.le_of_ble_eq_true rfl, Nat.le_of_ble_eq_true rfl⟩) hS (fun q _ h => MA.le hS.1 q h) (MA.le hS.1) (fun r1 x t H locs ht hvm hw hB9 _ _ hS => ?_)
    have hP := mB.at ht hB9
    clear hB9 ht hvm
    obtain ⟨rfl, hw⟩ := hw
    have hP : va_P (dC, dI) vwCl (mw ar cy st sl) _ := hP
    obtain rfl := hw
    refine W.lcmp hx hb dX12_isWord_16 ?_
    refine lv_topi (fun z2 ez2 => ?_)
    refine lv_if_ne (tgt := 24) hx hb dX12_isWord_17 (by decide) (fun c2 => ?_) (fun c2 => ?_)
    · have c2 : ¬ (sl 0 12) = 1899199 := fun hh => c2 (by rw [ez2]; exact (lg_cmp_eq _ _).mpr hh)
      have c2 : ¬ tkw B g m p = 11 := fun hh => c2 ((tkw_k (p := p) (m := m) hp9 hB1 (by omega) (hT.2.2.2.2.2.1 (by omega)) (k := 11) (by decide) (w' := 1899199) (by decide +kernel)).mpr hh)
      refine lv_iconst (v := 0) hx hb dX12_isWord_24 (by decide) ?_
      exact W.zret (v := 0) hx hb hr rfl (fun t ht hW => ⟨⟨0, (st, sl), rfl, ⟨rfl, Or.inr (⟨rfl, by omega⟩)⟩, mB.of ht hP⟩, hS.F ht⟩) hS.2.2 dX12_isWord_25
    · have c2 : (sl 0 12) = 1899199 := (lg_cmp_eq _ _).mp (by rw [← ez2]; exact c2)
      have c2 : tkw B g m p = 11 := (tkw_k (p := p) (m := m) hp9 hB1 (by omega) (hT.2.2.2.2.2.1 (by omega)) (k := 11) (by decide) (w' := 1899199) (by decide +kernel)).mp c2
      refine lv_iconst (v := 1) hx hb dX12_isWord_20 (by decide) ?_
      refine lv_goto (tgt := 25) hx hb dX12_isWord_21 (by decide) ?_
      exact W.zret (v := 1) hx hb hr rfl (fun t ht hW => ⟨⟨1, (st, sl), rfl, ⟨rfl, Or.inl (⟨rfl, by omega⟩)⟩, mB.of ht hP⟩, hS.F ht⟩) hS.2.2 dX12_isWord_25
set_option maxHeartbeats 4000000 in
set_option maxRecDepth 100000 in
theorem f_isWord12 (l : Launch) (dC : Nat → ClassId) (dI : Nat → Nat → Nat) (ar : Nat → Nat) (cy : Nat → ClassId) (sz : Nat) (hN : MN ar) (st : Nat → Nat → Int32) (sl : Nat → Nat → Int64) (B : Nat → Nat) (g m : Nat) (p : Nat) (hI : MI st) (hB : MBt B g m st) (hT : TM B g m p st sl) : Met l yX12_isWord wsX12_isWord ({ frames := 2, cells := 0, slots := 0, locals := 48 }) (va_Pc [.ref (ar 0), .int 12] (mPre dC dI ar cy sz st sl)) (va_Qi (fun (r : Int32) (x : MT) => x = (st, sl) ∧ ((r = 1 ∧ tkw B g m p = 12) ∨ (r = 0 ∧ ¬ tkw B g m p = 12))) (mB dC dI ar cy) (MA ar sz)) 0 0 (MA ar sz) := by
  refine Met.ofW (cc := cX12_isWord) (maxL := 2) (ret := (some .boolean)) (by decide) rfl ?_
  intro p9 e s m9 args below meth c9 s₁ B9 hml hv
  obtain ⟨rfl, hsz, hP, hK⟩ := hv
  have hx := B9.exec
  have hb := B9.bytes
  have hr := B9.returns
  have hts := atoms_spec (ws := wsX12_isWord) B9.pre
  have hown : s.vm.findClass RX12 = some m9.cls := findClass_of_methodNamed B9.named
  subst hsz
  have hS : va_S (MA ar s.heap.size) s.heap s.heap [] := va_S.rf
  have hG : MG [1, 2, 3, 4, 5, 6, 7, 8, 9, 10, 11, 12, 13, 14, 15, 16, 17, 19, 20, 21, 22, 23] st st := MG.rf hI
  have hl := lv_entry ([.ref (ar 0), .int 12]) (n := 2) (Nat.le_of_ble_eq_true rfl)
  rw [lg_entry_eq]
  generalize (lg_sl ([.ref (ar 0), .int 12]) ++ List.replicate (2 - (lg_sl ([.ref (ar 0), .int 12])).length) Slot.unset).toArray = ls at hl ⊢
  have hl : lv_has ls 2 [(0, .ref (ar 0)), (1, .int 12)] := hl
  clear hI
  have hB1 := hB.2.2.1
  have hB2 := hB.2.2.2.1
  have hF : FM 0 st sl st sl := FM.rf
  have hp9 := hT.2.2.2.2.2.2
  have hk1 := tkd_lt (B := B) (g := g) (m := m) (p := p)
  have hk2 := tkx_le (B := B) (g := g) (m := m) (p := p) hp9
  have hk3 := tka_le (B := B) (g := g) (m := m) (p := p) hp9 hB.2.2.1
  have hk4 := tkv_lt (p := p) hB hp9
  have hk5 := tkw_lt (B := B) (g := g) (m := m) (p := p)
  refine lv_aload_n hx hb dX12_isWord_0 rfl (lv_at hl 0 rfl) ?_
  refine va_get (D := (dC, dI)) (ci := 11) (v := .int (st 0 7)) (C := RX12) (T := TX12) (N := 47) hx hb hts ii_X12_isWord hown hK hP 0 rfl rfl 7 (by decide) (hts _ mm_X12_isWord_1) (fun _ hh => hh) rfl dX12_isWord_1 ?_
  refine zz_top (v := (nI (tkd B g m p))) (by show st 0 7 = _; rw [hT.2.2.1]) ?_
  refine lv_iconst (v := 2) hx hb dX12_isWord_4 (by decide) ?_
  refine lv_icmp_ne (tgt := 24) hx hb dX12_isWord_5 (by decide) (fun c1 => ?_) (fun c1 => ?_)
  · have c1 : ¬ (tkd B g m p) = 2 := fun hh => c1 ((nI_eq (a := (tkd B g m p)) (b := 2) (by omega) (by omega)).mpr hh)
    refine lv_iconst (v := 0) hx hb dX12_isWord_24 (by decide) ?_
    exact W.zret (v := 0) hx hb hr rfl (fun t ht hW => ⟨⟨0, (st, sl), rfl, ⟨rfl, Or.inr (⟨rfl, by rw [tkw_n (by omega)]; omega⟩)⟩, mB.of ht hP⟩, hS.F ht⟩) hS.2.2 dX12_isWord_25
  · have c1 : (tkd B g m p) = 2 := (nI_eq (a := (tkd B g m p)) (b := 2) (by omega) (by omega)).mp c1
    refine lv_aload_n hx hb dX12_isWord_8 rfl (lv_at hl 0 rfl) ?_
    refine va_get (D := (dC, dI)) (ci := 11) (v := .long (sl 0 12)) (C := RX12) (T := TX12) (N := 47) hx hb hts ii_X12_isWord hown hK hP 0 rfl rfl 12 (by decide) (hts _ mm_X12_isWord_2) (fun _ hh => hh) rfl dX12_isWord_9 ?_
    refine lv_iload_n hx hb dX12_isWord_12 rfl (lv_at hl 1 rfl) ?_
    refine va_calll (va_runS (As := [.int 12]) (rest := [.long (sl 0 12)]) ⟨hx, hb, hml, hown, hts⟩ (f_wordOf12 l dC dI ar cy _ hN st sl hG.1 ) (va_cwS 1 hts gX12_isWord_X12_wordOf rfl rfl rfl (by decide +kernel) ⟨Nat.le_of_ble_eq_true rfl, Nat.le_of_ble_eq_true rfl⟩) ⟨fun a U g mk q => ⟨q.1, mPre.blind q.2⟩, fun U hU hW => ⟨rfl, mPre.of hP hK hU hW⟩⟩ rfl rfl hl.1 rfl (lv_room (Nat.le_of_ble_eq_true rfl)) dX12_isWord_13 ⟨Nat.le_of_ble_eq_true rfl, Nat.le_of_ble_eq_true rfl⟩) hS (fun q _ h => MA.le hS.1 q h) (MA.le hS.1) (fun r1 x t H locs ht hvm hw hB9 _ _ hS => ?_)
    have hP := mB.at ht hB9
    clear hB9 ht hvm
    obtain ⟨rfl, hw⟩ := hw
    have hP : va_P (dC, dI) vwCl (mw ar cy st sl) _ := hP
    obtain rfl := hw
    refine W.lcmp hx hb dX12_isWord_16 ?_
    refine lv_topi (fun z2 ez2 => ?_)
    refine lv_if_ne (tgt := 24) hx hb dX12_isWord_17 (by decide) (fun c2 => ?_) (fun c2 => ?_)
    · have c2 : ¬ (sl 0 12) = 2968 := fun hh => c2 (by rw [ez2]; exact (lg_cmp_eq _ _).mpr hh)
      have c2 : ¬ tkw B g m p = 12 := fun hh => c2 ((tkw_k (p := p) (m := m) hp9 hB1 (by omega) (hT.2.2.2.2.2.1 (by omega)) (k := 12) (by decide) (w' := 2968) (by decide +kernel)).mpr hh)
      refine lv_iconst (v := 0) hx hb dX12_isWord_24 (by decide) ?_
      exact W.zret (v := 0) hx hb hr rfl (fun t ht hW => ⟨⟨0, (st, sl), rfl, ⟨rfl, Or.inr (⟨rfl, by omega⟩)⟩, mB.of ht hP⟩, hS.F ht⟩) hS.2.2 dX12_isWord_25
    · have c2 : (sl 0 12) = 2968 := (lg_cmp_eq _ _).mp (by rw [← ez2]; exact c2)
      have c2 : tkw B g m p = 12 := (tkw_k (p := p) (m := m) hp9 hB1 (by omega) (hT.2.2.2.2.2.1 (by omega)) (k := 12) (by decide) (w' := 2968) (by decide +kernel)).mp c2
      refine lv_iconst (v := 1) hx hb dX12_isWord_20 (by decide) ?_
      refine lv_goto (tgt := 25) hx hb dX12_isWord_21 (by decide) ?_
      exact W.zret (v := 1) hx hb hr rfl (fun t ht hW => ⟨⟨1, (st, sl), rfl, ⟨rfl, Or.inl (⟨rfl, by omega⟩)⟩, mB.of ht hP⟩, hS.F ht⟩) hS.2.2 dX12_isWord_25
set_option maxHeartbeats 4000000 in
set_option maxRecDepth 100000 in
theorem f_isOfAll (l : Launch) (dC : Nat → ClassId) (dI : Nat → Nat → Nat) (ar : Nat → Nat) (cy : Nat → ClassId) (sz : Nat) (hN : MN ar) (st : Nat → Nat → Int32) (sl : Nat → Nat → Int64) (B : Nat → Nat) (g m : Nat) (p : Nat) (hI : MI st) (hB : MBt B g m st) (hT : TM B g m p st sl) : Met l yX12_isOfAll wsX12_isOfAll ({ frames := 3, cells := 0, slots := 0, locals := 69 }) (va_Pc [.ref (ar 0)] (mPre dC dI ar cy sz st sl)) (va_Qi (fun (r : Int32) (x : MT) => x = (st, sl) ∧ ((r = 1 ∧ bAl B g m p) ∨ (r = 0 ∧ ¬ bAl B g m p))) (mB dC dI ar cy) (MA ar sz)) 0 0 (MA ar sz) := by
  refine Met.ofW (cc := cX12_isOfAll) (maxL := 1) (ret := (some .boolean)) (by decide) rfl ?_
  intro p9 e s m9 args below meth c9 s₁ B9 hml hv
  obtain ⟨rfl, hsz, hP, hK⟩ := hv
  have hx := B9.exec
  have hb := B9.bytes
  have hr := B9.returns
  have hts := atoms_spec (ws := wsX12_isOfAll) B9.pre
  have hown : s.vm.findClass RX12 = some m9.cls := findClass_of_methodNamed B9.named
  subst hsz
  have hS : va_S (MA ar s.heap.size) s.heap s.heap [] := va_S.rf
  have hG : MG [1, 2, 3, 4, 5, 6, 7, 8, 9, 10, 11, 12, 13, 14, 15, 16, 17, 19, 20, 21, 22, 23] st st := MG.rf hI
  have hl := lv_entry ([.ref (ar 0)]) (n := 1) (Nat.le_of_ble_eq_true rfl)
  rw [lg_entry_eq]
  generalize (lg_sl ([.ref (ar 0)]) ++ List.replicate (1 - (lg_sl ([.ref (ar 0)])).length) Slot.unset).toArray = ls at hl ⊢
  have hl : lv_has ls 1 [(0, .ref (ar 0))] := hl
  clear hI
  have hB1 := hB.2.2.1
  have hB2 := hB.2.2.2.1
  have hF : FM 0 st sl st sl := FM.rf
  have hp9 := hT.2.2.2.2.2.2
  have hk1 := tkd_lt (B := B) (g := g) (m := m) (p := p)
  have hk2 := tkx_le (B := B) (g := g) (m := m) (p := p) hp9
  have hk3 := tka_le (B := B) (g := g) (m := m) (p := p) hp9 hB.2.2.1
  have hk4 := tkv_lt (p := p) hB hp9
  have hk5 := tkw_lt (B := B) (g := g) (m := m) (p := p)
  refine lv_aload_n hx hb dX12_isOfAll_0 rfl (lv_at hl 0 rfl) ?_
  refine lv_bipush (v := 6) hx hb dX12_isOfAll_1 (by decide) ?_
  refine va_calli (va_runV (As := [.int 6]) (rest := []) ⟨hx, hb, hml, hown, hts⟩ (f_isWord6 l dC dI ar cy _ hN st sl B g m p hG.1 hB hT) (cwV 1 hts gX12_isOfAll_X12_isWord rfl rfl rfl (by decide +kernel) ⟨Nat.le_of_ble_eq_true rfl, Nat.le_of_ble_eq_true rfl⟩) ⟨fun a U g mk q => ⟨q.1, mPre.blind q.2⟩, va_recv hK hP (ci := 11) (q0 := 0) rfl rfl, fun U hU hW => ⟨rfl, mPre.of hP hK hU hW⟩⟩ rfl rfl hl.1 rfl (lv_room (Nat.le_of_ble_eq_true rfl)) dX12_isOfAll_3 ⟨Nat.le_of_ble_eq_true rfl, Nat.le_of_ble_eq_true rfl⟩) hS (fun q _ h => MA.le hS.1 q h) (MA.le hS.1) (fun r1 x t H locs ht hvm hw hB9 _ _ hS => ?_)
  have hP := mB.at ht hB9
  clear hB9 ht hvm
  obtain ⟨rfl, hw⟩ := hw
  have hP : va_P (dC, dI) vwCl (mw ar cy st sl) _ := hP
  rcases hw with ⟨rfl, hf2⟩ | ⟨rfl, hf3⟩
  · refine lv_if_ne (tgt := 44) hx hb dX12_isOfAll_6 (by decide) (fun _ => ?_) (fun cc => absurd cc (by decide))
    refine lv_iconst (v := 1) hx hb dX12_isOfAll_44 (by decide) ?_
    refine lv_goto (tgt := 49) hx hb dX12_isOfAll_45 (by decide) ?_
    exact W.zret (v := 1) hx hb hr rfl (fun t ht hW => ⟨⟨1, (st, sl), rfl, ⟨rfl, Or.inl (⟨rfl, show tkw B g m p = 6 ∨ tkw B g m p = 7 ∨ tkw B g m p = 8 ∨ tkw B g m p = 5 ∨ tkw B g m p = 12 by omega⟩)⟩, mB.of ht hP⟩, hS.F ht⟩) hS.2.2 dX12_isOfAll_49
  · refine lv_if_ne (tgt := 44) hx hb dX12_isOfAll_6 (by decide) (fun cc => absurd (by decide) cc) (fun _ => ?_)
    refine lv_aload_n hx hb dX12_isOfAll_9 rfl (lv_at hl 0 rfl) ?_
    refine lv_bipush (v := 7) hx hb dX12_isOfAll_10 (by decide) ?_
    refine va_calli (va_runV (As := [.int 7]) (rest := []) ⟨hx, hb, hml, hown, hts⟩ (f_isWord7 l dC dI ar cy _ hN st sl B g m p hG.1 hB hT) (cwV 1 hts gX12_isOfAll_X12_isWord rfl rfl rfl (by decide +kernel) ⟨Nat.le_of_ble_eq_true rfl, Nat.le_of_ble_eq_true rfl⟩) ⟨fun a U g mk q => ⟨q.1, mPre.blind q.2⟩, va_recv hK hP (ci := 11) (q0 := 0) rfl rfl, fun U hU hW => ⟨rfl, mPre.of hP hK hU hW⟩⟩ rfl rfl hl.1 rfl (lv_room (Nat.le_of_ble_eq_true rfl)) dX12_isOfAll_12 ⟨Nat.le_of_ble_eq_true rfl, Nat.le_of_ble_eq_true rfl⟩) hS (fun q _ h => MA.le hS.1 q h) (MA.le hS.1) (fun r4 x t H locs ht hvm hw hB9 _ _ hS => ?_)
    have hP := mB.at ht hB9
    clear hB9 ht hvm
    obtain ⟨rfl, hw⟩ := hw
    have hP : va_P (dC, dI) vwCl (mw ar cy st sl) _ := hP
    rcases hw with ⟨rfl, hf5⟩ | ⟨rfl, hf6⟩
    · refine lv_if_ne (tgt := 44) hx hb dX12_isOfAll_15 (by decide) (fun _ => ?_) (fun cc => absurd cc (by decide))
      refine lv_iconst (v := 1) hx hb dX12_isOfAll_44 (by decide) ?_
      refine lv_goto (tgt := 49) hx hb dX12_isOfAll_45 (by decide) ?_
      exact W.zret (v := 1) hx hb hr rfl (fun t ht hW => ⟨⟨1, (st, sl), rfl, ⟨rfl, Or.inl (⟨rfl, show tkw B g m p = 6 ∨ tkw B g m p = 7 ∨ tkw B g m p = 8 ∨ tkw B g m p = 5 ∨ tkw B g m p = 12 by omega⟩)⟩, mB.of ht hP⟩, hS.F ht⟩) hS.2.2 dX12_isOfAll_49
    · refine lv_if_ne (tgt := 44) hx hb dX12_isOfAll_15 (by decide) (fun cc => absurd (by decide) cc) (fun _ => ?_)
      refine lv_aload_n hx hb dX12_isOfAll_18 rfl (lv_at hl 0 rfl) ?_
      refine lv_bipush (v := 8) hx hb dX12_isOfAll_19 (by decide) ?_
      refine va_calli (va_runV (As := [.int 8]) (rest := []) ⟨hx, hb, hml, hown, hts⟩ (f_isWord8 l dC dI ar cy _ hN st sl B g m p hG.1 hB hT) (cwV 1 hts gX12_isOfAll_X12_isWord rfl rfl rfl (by decide +kernel) ⟨Nat.le_of_ble_eq_true rfl, Nat.le_of_ble_eq_true rfl⟩) ⟨fun a U g mk q => ⟨q.1, mPre.blind q.2⟩, va_recv hK hP (ci := 11) (q0 := 0) rfl rfl, fun U hU hW => ⟨rfl, mPre.of hP hK hU hW⟩⟩ rfl rfl hl.1 rfl (lv_room (Nat.le_of_ble_eq_true rfl)) dX12_isOfAll_21 ⟨Nat.le_of_ble_eq_true rfl, Nat.le_of_ble_eq_true rfl⟩) hS (fun q _ h => MA.le hS.1 q h) (MA.le hS.1) (fun r7 x t H locs ht hvm hw hB9 _ _ hS => ?_)
      have hP := mB.at ht hB9
      clear hB9 ht hvm
      obtain ⟨rfl, hw⟩ := hw
      have hP : va_P (dC, dI) vwCl (mw ar cy st sl) _ := hP
      rcases hw with ⟨rfl, hf8⟩ | ⟨rfl, hf9⟩
      · refine lv_if_ne (tgt := 44) hx hb dX12_isOfAll_24 (by decide) (fun _ => ?_) (fun cc => absurd cc (by decide))
        refine lv_iconst (v := 1) hx hb dX12_isOfAll_44 (by decide) ?_
        refine lv_goto (tgt := 49) hx hb dX12_isOfAll_45 (by decide) ?_
        exact W.zret (v := 1) hx hb hr rfl (fun t ht hW => ⟨⟨1, (st, sl), rfl, ⟨rfl, Or.inl (⟨rfl, show tkw B g m p = 6 ∨ tkw B g m p = 7 ∨ tkw B g m p = 8 ∨ tkw B g m p = 5 ∨ tkw B g m p = 12 by omega⟩)⟩, mB.of ht hP⟩, hS.F ht⟩) hS.2.2 dX12_isOfAll_49
      · refine lv_if_ne (tgt := 44) hx hb dX12_isOfAll_24 (by decide) (fun cc => absurd (by decide) cc) (fun _ => ?_)
        refine lv_aload_n hx hb dX12_isOfAll_27 rfl (lv_at hl 0 rfl) ?_
        refine lv_iconst (v := 5) hx hb dX12_isOfAll_28 (by decide) ?_
        refine va_calli (va_runV (As := [.int 5]) (rest := []) ⟨hx, hb, hml, hown, hts⟩ (f_isWord5 l dC dI ar cy _ hN st sl B g m p hG.1 hB hT) (cwV 1 hts gX12_isOfAll_X12_isWord rfl rfl rfl (by decide +kernel) ⟨Nat.le_of_ble_eq_true rfl, Nat.le_of_ble_eq_true rfl⟩) ⟨fun a U g mk q => ⟨q.1, mPre.blind q.2⟩, va_recv hK hP (ci := 11) (q0 := 0) rfl rfl, fun U hU hW => ⟨rfl, mPre.of hP hK hU hW⟩⟩ rfl rfl hl.1 rfl (lv_room (Nat.le_of_ble_eq_true rfl)) dX12_isOfAll_29 ⟨Nat.le_of_ble_eq_true rfl, Nat.le_of_ble_eq_true rfl⟩) hS (fun q _ h => MA.le hS.1 q h) (MA.le hS.1) (fun r10 x t H locs ht hvm hw hB9 _ _ hS => ?_)
        have hP := mB.at ht hB9
        clear hB9 ht hvm
        obtain ⟨rfl, hw⟩ := hw
        have hP : va_P (dC, dI) vwCl (mw ar cy st sl) _ := hP
        rcases hw with ⟨rfl, hf11⟩ | ⟨rfl, hf12⟩
        · refine lv_if_ne (tgt := 44) hx hb dX12_isOfAll_32 (by decide) (fun _ => ?_) (fun cc => absurd cc (by decide))
          refine lv_iconst (v := 1) hx hb dX12_isOfAll_44 (by decide) ?_
          refine lv_goto (tgt := 49) hx hb dX12_isOfAll_45 (by decide) ?_
          exact W.zret (v := 1) hx hb hr rfl (fun t ht hW => ⟨⟨1, (st, sl), rfl, ⟨rfl, Or.inl (⟨rfl, show tkw B g m p = 6 ∨ tkw B g m p = 7 ∨ tkw B g m p = 8 ∨ tkw B g m p = 5 ∨ tkw B g m p = 12 by omega⟩)⟩, mB.of ht hP⟩, hS.F ht⟩) hS.2.2 dX12_isOfAll_49
        · refine lv_if_ne (tgt := 44) hx hb dX12_isOfAll_32 (by decide) (fun cc => absurd (by decide) cc) (fun _ => ?_)
          refine lv_aload_n hx hb dX12_isOfAll_35 rfl (lv_at hl 0 rfl) ?_
          refine lv_bipush (v := 12) hx hb dX12_isOfAll_36 (by decide) ?_
          refine va_calli (va_runV (As := [.int 12]) (rest := []) ⟨hx, hb, hml, hown, hts⟩ (f_isWord12 l dC dI ar cy _ hN st sl B g m p hG.1 hB hT) (cwV 1 hts gX12_isOfAll_X12_isWord rfl rfl rfl (by decide +kernel) ⟨Nat.le_of_ble_eq_true rfl, Nat.le_of_ble_eq_true rfl⟩) ⟨fun a U g mk q => ⟨q.1, mPre.blind q.2⟩, va_recv hK hP (ci := 11) (q0 := 0) rfl rfl, fun U hU hW => ⟨rfl, mPre.of hP hK hU hW⟩⟩ rfl rfl hl.1 rfl (lv_room (Nat.le_of_ble_eq_true rfl)) dX12_isOfAll_38 ⟨Nat.le_of_ble_eq_true rfl, Nat.le_of_ble_eq_true rfl⟩) hS (fun q _ h => MA.le hS.1 q h) (MA.le hS.1) (fun r13 x t H locs ht hvm hw hB9 _ _ hS => ?_)
          have hP := mB.at ht hB9
          clear hB9 ht hvm
          obtain ⟨rfl, hw⟩ := hw
          have hP : va_P (dC, dI) vwCl (mw ar cy st sl) _ := hP
          rcases hw with ⟨rfl, hf14⟩ | ⟨rfl, hf15⟩
          · refine lv_if_eq (tgt := 48) hx hb dX12_isOfAll_41 (by decide) (fun cc => absurd cc (by decide)) (fun _ => ?_)
            refine lv_iconst (v := 1) hx hb dX12_isOfAll_44 (by decide) ?_
            refine lv_goto (tgt := 49) hx hb dX12_isOfAll_45 (by decide) ?_
            exact W.zret (v := 1) hx hb hr rfl (fun t ht hW => ⟨⟨1, (st, sl), rfl, ⟨rfl, Or.inl (⟨rfl, show tkw B g m p = 6 ∨ tkw B g m p = 7 ∨ tkw B g m p = 8 ∨ tkw B g m p = 5 ∨ tkw B g m p = 12 by omega⟩)⟩, mB.of ht hP⟩, hS.F ht⟩) hS.2.2 dX12_isOfAll_49
          · refine lv_if_eq (tgt := 48) hx hb dX12_isOfAll_41 (by decide) (fun _ => ?_) (fun cc => absurd (by decide) cc)
            refine lv_iconst (v := 0) hx hb dX12_isOfAll_48 (by decide) ?_
            exact W.zret (v := 0) hx hb hr rfl (fun t ht hW => ⟨⟨0, (st, sl), rfl, ⟨rfl, Or.inr (⟨rfl, show ¬ (tkw B g m p = 6 ∨ tkw B g m p = 7 ∨ tkw B g m p = 8 ∨ tkw B g m p = 5 ∨ tkw B g m p = 12) by omega⟩)⟩, mB.of ht hP⟩, hS.F ht⟩) hS.2.2 dX12_isOfAll_49
set_option maxHeartbeats 4000000 in
set_option maxRecDepth 100000 in
theorem f_findIm2 (l : Launch) (dC : Nat → ClassId) (dI : Nat → Nat → Nat) (ar : Nat → Nat) (cy : Nat → ClassId) (sz : Nat) (hN : MN ar) (st : Nat → Nat → Int32) (sl : Nat → Nat → Int64) (vn : Nat) (vw : Int64) (hvn : vn < 7) (hI : MI st) : Met l yX12_findIn wsX12_findIn ({ frames := 0, cells := 0, slots := 0, locals := 0 }) (va_Pc [.ref (ar 7), .int 13, .int (nI vn), .long vw] (mPre dC dI ar cy sz st sl)) (va_Qi (fun (r : Int32) (x : MT) => x = (st, sl) ∧ ((r = (-1) ∧ (∀ i, i < vn → ¬ sl 7 (13 + i) = vw)) ∨ (∃ n : Nat, r = nI n ∧ n < vn ∧ sl 7 (13 + n) = vw))) (mB dC dI ar cy) (MA ar sz)) 0 0 (MA ar sz) := by
  refine Met.ofW (cc := cX12_findIn) (maxL := 6) (ret := (some .int)) (by decide) rfl ?_
  intro p9 e s m9 args below meth c9 s₁ B9 hml hv
  obtain ⟨rfl, hsz, hP, hK⟩ := hv
  have hx := B9.exec
  have hb := B9.bytes
  have hr := B9.returns
  have hts := atoms_spec (ws := wsX12_findIn) B9.pre
  have hown : s.vm.findClass RX12 = some m9.cls := findClass_of_methodNamed B9.named
  subst hsz
  have hS : va_S (MA ar s.heap.size) s.heap s.heap [] := va_S.rf
  have hG : MG [1, 2, 3, 4, 5, 6, 7, 8, 9, 10, 11, 12, 13, 14, 15, 16, 17, 19, 20, 21, 22, 23] st st := MG.rf hI
  have hl := lv_entry ([.ref (ar 7), .int 13, .int (nI vn), .long vw]) (n := 6) (Nat.le_of_ble_eq_true rfl)
  rw [lg_entry_eq]
  generalize (lg_sl ([.ref (ar 7), .int 13, .int (nI vn), .long vw]) ++ List.replicate (6 - (lg_sl ([.ref (ar 7), .int 13, .int (nI vn), .long vw])).length) Slot.unset).toArray = ls at hl ⊢
  have hl : lv_has ls 6 [(0, .ref (ar 7)), (1, .int 13), (2, .int (nI vn)), (3, .long vw)] := hl
  clear hI
  refine lv_iconst (v := 0) hx hb dX12_findIn_0 (by decide) ?_
  refine lv_istore (lv' := [(5, .int 0), (0, .ref (ar 7)), (1, .int 13), (2, .int (nI vn)), (3, .long vw)]) hx hb dX12_findIn_1 hl (by decide) rfl (fun ls hl => ?_)
  refine zz_wf (fun n stk H locs ls => ∃ k1 : Nat, n = 9 - k1 ∧ 0 ≤ k1 ∧ k1 < 9 ∧ k1 ≤ vn ∧ (∀ i, i < k1 → ¬ sl 7 (13 + i) = vw) ∧ va_P (dC, dI) vwCl (mw ar cy st sl) H ∧ va_S (MA ar s.heap.size) s.heap H locs ∧ lv_has ls 6 [(5, .int (nI k1)), (0, .ref (ar 7)), (1, .int 13), (2, .int (nI vn)), (3, .long vw)] ∧ stk = []) ?_ (9 - 0) _ _ _ _ ⟨0, rfl, by omega, by omega, by omega, fun i hi => absurd hi (by omega), hP, hS, lv_sub hl [0, 1, 2, 3, 4] rfl, rfl⟩
  rintro nn stk H locs ls ⟨k1, hm5, hv2_0, hv3_1, hv4_0, hv5_1, hP, hS, hl, rfl⟩ ih6
  refine lv_iload hx hb dX12_findIn_3 (lv_at hl 0 rfl) ?_
  refine lv_iload_n hx hb dX12_findIn_5 rfl (lv_at hl 3 rfl) ?_
  refine lv_icmp_ge (tgt := 29) hx hb dX12_findIn_6 (by decide) (fun c1 => ?_) (fun c1 => ?_)
  · have c1 : vn ≤ k1 := (nI_leI (a := vn) (b := k1) (by omega) (by omega)).mp c1
    refine lv_iconst (v := (-1)) hx hb dX12_findIn_29 (by decide) ?_
    exact W.iret (v := (-1)) hx hb hr (fun t ht hW => ⟨⟨(-1), (st, sl), rfl, ⟨rfl, Or.inl (⟨rfl, fun i hi => hv5_1 i (by omega)⟩)⟩, mB.of ht hP⟩, hS.F ht⟩) hS.2.2 dX12_findIn_30
  · have c1 : ¬ vn ≤ k1 := fun hh => c1 ((nI_leI (a := vn) (b := k1) (by omega) (by omega)).mpr hh)
    refine lv_aload_n hx hb dX12_findIn_9 rfl (lv_at hl 1 rfl) ?_
    refine lv_iload_n hx hb dX12_findIn_10 rfl (lv_at hl 2 rfl) ?_
    refine lv_iload hx hb dX12_findIn_11 (lv_at hl 0 rfl) ?_
    refine lv_iadd hx hb dX12_findIn_13 ?_
    refine zz_top (v := nI (13 + k1)) (nI_add 13 k1) ?_
    refine va_lald hx hb hK hP 7 6 rfl rfl (i := (nI (13 + k1))) (vp_in_nI (by omega) (by decide)) dX12_findIn_14 ?_
    refine zz_topl (v := sl 7 (13 + k1)) (by rw [nI_clamp (by omega)]) ?_
    refine lv_lload_n hx hb dX12_findIn_15 rfl (lv_at hl 4 rfl) ?_
    refine W.lcmp hx hb dX12_findIn_16 ?_
    refine lv_topi (fun z7 ez7 => ?_)
    refine lv_if_ne (tgt := 23) hx hb dX12_findIn_17 (by decide) (fun c2 => ?_) (fun c2 => ?_)
    · have c2 : ¬ (sl 7 (13 + k1)) = vw := fun hh => c2 (by rw [ez7]; exact (lg_cmp_eq _ _).mpr hh)
      refine lv_iinc (v := (nI (k1 + 1))) (lv' := [(5, .int (nI (k1 + 1))), (0, .ref (ar 7)), (1, .int 13), (2, .int (nI vn)), (3, .long vw)]) hx hb dX12_findIn_23 hl (k := 0) rfl (nI_add k1 1) (by decide) rfl (fun ls hl => ?_)
      refine lv_goto (tgt := 3) hx hb dX12_findIn_26 (by decide) ?_
      exact ih6 (9 - (k1 + 1)) _ _ _ _ (by omega) ⟨(k1 + 1), rfl, by omega, by omega, by omega, fun i hi hz => if h9 : i = k1 then c2 (by rw [← h9]; exact hz) else hv5_1 i (by omega) hz, hP, hS, lv_sub hl [0, 1, 2, 3, 4] rfl, rfl⟩
    · have c2 : (sl 7 (13 + k1)) = vw := (lg_cmp_eq _ _).mp (by rw [← ez7]; exact c2)
      refine lv_iload hx hb dX12_findIn_20 (lv_at hl 0 rfl) ?_
      exact W.iret (v := (nI k1)) hx hb hr (fun t ht hW => ⟨⟨(nI k1), (st, sl), rfl, ⟨rfl, Or.inr (⟨k1, rfl, by omega, c2⟩)⟩, mB.of ht hP⟩, hS.F ht⟩) hS.2.2 dX12_findIn_22
set_option maxHeartbeats 4000000 in
set_option maxRecDepth 100000 in
theorem f_readPlaceName (l : Launch) (dC : Nat → ClassId) (dI : Nat → Nat → Nat) (ar : Nat → Nat) (cy : Nat → ClassId) (sz : Nat) (hN : MN ar) (st : Nat → Nat → Int32) (sl : Nat → Nat → Int64) (B : Nat → Nat) (g m : Nat) (p : Nat) (c : Nat → Nat) (nm : Nat → Nat → Nat) (hI : MI st) (hB : MBt B g m st) (hT : TM B g m p st sl) (hR : RN c nm st sl) : Met l yX12_readPlaceName wsX12_readPlaceName ({ frames := 4, cells := 0, slots := 0, locals := 91 }) (va_Pc [.ref (ar 0)] (mPre dC dI ar cy sz st sl)) (va_Qi (fun (r : Int32) (x : MT) => MG [1, 2, 3, 6, 7, 8, 9, 10, 11, 12, 13, 14, 15, 20, 21, 22] st x.1 ∧ FM 2 st sl x.1 x.2 ∧ ((∃ n : Nat, r = 1 ∧ n < 5 ∧ x.1 0 13 = nI n ∧ TM B g m (tkx B g m p) x.1 x.2 ∧ sNam B g m p (c 0) (nm 0) 0 = (0, tkx B g m p, 0) ∧ x.1 0 10 = st 0 10) ∨ (∃ f : Nat, ∃ a : Nat, r = 0 ∧ x.1 0 10 = nI f ∧ x.1 0 11 = nI a ∧ 1 ≤ f ∧ sNam B g m p (c 0) (nm 0) 0 = sf f a))) (mB dC dI ar cy) (MA ar sz)) 0 0 (MA ar sz) := by
  refine Met.ofW (cc := cX12_readPlaceName) (maxL := 1) (ret := (some .boolean)) (by decide) rfl ?_
  intro p9 e s m9 args below meth c9 s₁ B9 hml hv
  obtain ⟨rfl, hsz, hP, hK⟩ := hv
  have hx := B9.exec
  have hb := B9.bytes
  have hr := B9.returns
  have hts := atoms_spec (ws := wsX12_readPlaceName) B9.pre
  have hown : s.vm.findClass RX12 = some m9.cls := findClass_of_methodNamed B9.named
  subst hsz
  have hS : va_S (MA ar s.heap.size) s.heap s.heap [] := va_S.rf
  have hG : MG [1, 2, 3, 6, 7, 8, 9, 10, 11, 12, 13, 14, 15, 20, 21, 22] st st := MG.rf hI
  have hl := lv_entry ([.ref (ar 0)]) (n := 1) (Nat.le_of_ble_eq_true rfl)
  rw [lg_entry_eq]
  generalize (lg_sl ([.ref (ar 0)]) ++ List.replicate (1 - (lg_sl ([.ref (ar 0)])).length) Slot.unset).toArray = ls at hl ⊢
  have hl : lv_has ls 1 [(0, .ref (ar 0))] := hl
  clear hI
  have hB1 := hB.2.2.1
  have hB2 := hB.2.2.2.1
  have hF : FM 2 st sl st sl := FM.rf
  have hp9 := hT.2.2.2.2.2.2
  have hk1 := tkd_lt (B := B) (g := g) (m := m) (p := p)
  have hk2 := tkx_le (B := B) (g := g) (m := m) (p := p) hp9
  have hk3 := tka_le (B := B) (g := g) (m := m) (p := p) hp9 hB.2.2.1
  have hk4 := tkv_lt (p := p) hB hp9
  have hk5 := tkw_lt (B := B) (g := g) (m := m) (p := p)
  have hR9 := hR.2.1
  refine lv_aload_n hx hb dX12_readPlaceName_0 rfl (lv_at hl 0 rfl) ?_
  refine lv_iconst (v := 0) hx hb dX12_readPlaceName_1 (by decide) ?_
  refine lv_aload_n hx hb dX12_readPlaceName_2 rfl (lv_at hl 0 rfl) ?_
  refine va_get (D := (dC, dI)) (ci := 11) (v := .ref (ar 2)) (C := RX12) (T := TX12) (N := 47) hx hb hts ii_X12_readPlaceName hown hK hP 0 rfl rfl 14 (by decide) (hts _ mm_X12_readPlaceName_1) (fun _ hh => hh) rfl dX12_readPlaceName_3 ?_
  refine lv_iconst (v := 0) hx hb dX12_readPlaceName_6 (by decide) ?_
  refine va_iald hx hb hK hP 2 1 rfl rfl (i := 0) (zz_in (by decide)) dX12_readPlaceName_7 ?_
  refine zz_top (v := (nI (c 0))) (by show st 2 0 = _; rw [hR.1 0 (by decide)]) ?_
  refine va_calli (va_runV (As := [.int 0, .int (nI (c 0))]) (rest := []) ⟨hx, hb, hml, hown, hts⟩ (f_readNamed0 l dC dI ar cy _ hN st sl (c 0) B g m p c nm (by omega) hG.1 (MBt.fr hB hF) hT hR (rfl)) (cwV 2 hts gX12_readPlaceName_X12_readNamed rfl rfl rfl (by decide +kernel) ⟨Nat.le_of_ble_eq_true rfl, Nat.le_of_ble_eq_true rfl⟩) ⟨fun a U g mk q => ⟨q.1, mPre.blind q.2⟩, va_recv hK hP (ci := 11) (q0 := 0) rfl rfl, fun U hU hW => ⟨rfl, mPre.of hP hK hU hW⟩⟩ rfl rfl hl.1 rfl (lv_room (Nat.le_of_ble_eq_true rfl)) dX12_readPlaceName_8 ⟨Nat.le_of_ble_eq_true rfl, Nat.le_of_ble_eq_true rfl⟩) hS (fun q _ h => MA.le hS.1 q h) (MA.le hS.1) (fun r1 x t H locs ht hvm hw hB9 _ _ hS => ?_)
  have hP := mB.at ht hB9
  clear hB9 ht hvm
  obtain ⟨st2, sl3⟩ := x
  obtain ⟨hG2, hF2, hw⟩ := hw
  dsimp only at hG2 hF2 hw
  have hP : va_P (dC, dI) vwCl (mw ar cy st2 sl3) _ := hP
  have hG : MG [1, 2, 3, 6, 7, 8, 9, 10, 11, 12, 13, 14, 15, 20, 21, 22] st st2 := hG.tr hG2 (by decide)
  have hFst2 : FM 2 st sl st2 sl3 := hF2
  have hF : FM 2 st sl st2 sl3 := hF.tr hFst2 (by omega) (by omega)
  clear hG2 hF2
  have hR : RN c nm st2 sl3 := hR.fr hFst2
  rcases hw with ⟨n4, rfl, hf5, hf6, hT, hf7, hk8⟩ | ⟨n9, n10, rfl, hf11, hf12, hf13, hf14⟩
  · have hp9 := hT.2.2.2.2.2.2
    have hk1 := tkd_lt (B := B) (g := g) (m := m) (p := (tkx B g m p))
    have hk2 := tkx_le (B := B) (g := g) (m := m) (p := (tkx B g m p)) hp9
    have hk3 := tka_le (B := B) (g := g) (m := m) (p := (tkx B g m p)) hp9 hB.2.2.1
    have hk4 := tkv_lt (p := (tkx B g m p)) hB hp9
    have hk5 := tkw_lt (B := B) (g := g) (m := m) (p := (tkx B g m p))
    exact W.zret (v := 1) hx hb hr rfl (fun t ht hW => ⟨⟨1, (st2, sl3), rfl, ⟨hG, hF, Or.inl (⟨n4, rfl, by omega, by show st2 0 13 = _; rw [hf6], hT, sNam_y hf7, by show st2 0 10 = st 0 10; rw [hk8]⟩)⟩, mB.of ht hP⟩, hS.F ht⟩) hS.2.2 dX12_readPlaceName_11
  · exact W.zret (v := 0) hx hb hr rfl (fun t ht hW => ⟨⟨0, (st2, sl3), rfl, ⟨hG, hF, Or.inr (⟨n9, n10, rfl, by show st2 0 10 = _; rw [hf11], by show st2 0 11 = _; rw [hf12], hf13, sNam_f hf14 hf13⟩)⟩, mB.of ht hP⟩, hS.F ht⟩) hS.2.2 dX12_readPlaceName_11
set_option maxHeartbeats 4000000 in
set_option maxRecDepth 100000 in
theorem f_keep1 (l : Launch) (dC : Nat → ClassId) (dI : Nat → Nat → Nat) (ar : Nat → Nat) (cy : Nat → ClassId) (sz : Nat) (hN : MN ar) (st : Nat → Nat → Int32) (sl : Nat → Nat → Int64) (va : Nat) (B : Nat → Nat) (g m : Nat) (p : Nat) (gv : Nat) (hva : va < 200) (hI : MI st) (hB : MBt B g m st) (hT : TM B g m p st sl) (hgv : st 0 13 = nI gv) (hgv2 : gv < 1000) : Met l yX12_keep wsX12_keep ({ frames := 0, cells := 0, slots := 0, locals := 0 }) (va_Pc [.ref (ar 0), .int (nI va), .int 1] (mPre dC dI ar cy sz st sl)) (va_Qi (fun (r : Int32) (x : MT) => MG [1, 2, 3, 4, 5, 6, 7, 8, 9, 10, 11, 12, 14, 15, 16, 17, 19, 20, 21, 22, 23] st x.1 ∧ FM 7 st sl x.1 x.2 ∧ (r = 1 ∧ x.1 14 va = nI gv ∧ TM B g m p x.1 x.2 ∧ x.1 0 10 = st 0 10)) (mB dC dI ar cy) (MA ar sz)) 0 0 (MA ar sz) := by
  refine Met.ofW (cc := cX12_keep) (maxL := 3) (ret := (some .boolean)) (by decide) rfl ?_
  intro p9 e s m9 args below meth c9 s₁ B9 hml hv
  obtain ⟨rfl, hsz, hP, hK⟩ := hv
  have hx := B9.exec
  have hb := B9.bytes
  have hr := B9.returns
  have hts := atoms_spec (ws := wsX12_keep) B9.pre
  have hown : s.vm.findClass RX12 = some m9.cls := findClass_of_methodNamed B9.named
  subst hsz
  have hS : va_S (MA ar s.heap.size) s.heap s.heap [] := va_S.rf
  have hG : MG [1, 2, 3, 4, 5, 6, 7, 8, 9, 10, 11, 12, 14, 15, 16, 17, 19, 20, 21, 22, 23] st st := MG.rf hI
  have hl := lv_entry ([.ref (ar 0), .int (nI va), .int 1]) (n := 3) (Nat.le_of_ble_eq_true rfl)
  rw [lg_entry_eq]
  generalize (lg_sl ([.ref (ar 0), .int (nI va), .int 1]) ++ List.replicate (3 - (lg_sl ([.ref (ar 0), .int (nI va), .int 1])).length) Slot.unset).toArray = ls at hl ⊢
  have hl : lv_has ls 3 [(0, .ref (ar 0)), (1, .int (nI va)), (2, .int 1)] := hl
  clear hI
  have hB1 := hB.2.2.1
  have hB2 := hB.2.2.2.1
  have hF : FM 7 st sl st sl := FM.rf
  have hp9 := hT.2.2.2.2.2.2
  have hk1 := tkd_lt (B := B) (g := g) (m := m) (p := p)
  have hk2 := tkx_le (B := B) (g := g) (m := m) (p := p) hp9
  have hk3 := tka_le (B := B) (g := g) (m := m) (p := p) hp9 hB.2.2.1
  have hk4 := tkv_lt (p := p) hB hp9
  have hk5 := tkw_lt (B := B) (g := g) (m := m) (p := p)
  refine lv_iload_n hx hb dX12_keep_0 rfl (lv_at hl 2 rfl) ?_
  refine lv_if_eq (tgt := 14) hx hb dX12_keep_1 (by decide) (fun cc => absurd cc (by decide)) (fun _ => ?_)
  refine lv_aload_n hx hb dX12_keep_4 rfl (lv_at hl 0 rfl) ?_
  refine va_get (D := (dC, dI)) (ci := 11) (v := .ref (ar 14)) (C := RX12) (T := TX12) (N := 47) hx hb hts ii_X12_keep hown hK hP 0 rfl rfl 38 (by decide) (hts _ mm_X12_keep_1) (fun _ hh => hh) rfl dX12_keep_5 ?_
  refine lv_iload_n hx hb dX12_keep_8 rfl (lv_at hl 1 rfl) ?_
  refine lv_aload_n hx hb dX12_keep_9 rfl (lv_at hl 0 rfl) ?_
  refine va_get (D := (dC, dI)) (ci := 11) (v := .int (st 0 13)) (C := RX12) (T := TX12) (N := 47) hx hb hts ii_X12_keep hown hK hP 0 rfl rfl 13 (by decide) (hts _ mm_X12_keep_2) (fun _ hh => hh) rfl dX12_keep_10 ?_
  refine zz_top (v := (nI gv)) (by show st 0 13 = _; rw [hgv]) ?_
  refine va_iast hx hb hK hP (mD hN _ _ _ _) hS 14 13 rfl rfl (i := (nI va)) (vp_in_nI (by omega) (by decide)) dX12_keep_13 (fun H locs hP _ hS => ?_)
  rw [nI_clamp (by omega)] at hP
  have hP : va_P (dC, dI) vwCl (mw ar cy (up2 st 14 va (nI gv)) sl) H := hP
  obtain ⟨st1, est1⟩ : ∃ y, y = up2 st 14 va (nI gv) := ⟨_, rfl⟩
  have hG : MG [1, 2, 3, 4, 5, 6, 7, 8, 9, 10, 11, 12, 14, 15, 16, 17, 19, 20, 21, 22, 23] st st1 := by rw [est1]; exact hG.up (rz (mr_14_0_200 va (by omega) (by omega))) (pn (pcl_14_0_200 va (by omega) (by omega)) (by decide))
  rw [← est1] at hP
  have hF : FM 7 st sl st1 sl := by rw [est1]; exact hF.up (dm_ln _)
  have hT : TM B g m p st1 sl := by rw [est1]; exact hT.up (by omega)
  refine lv_iload_n hx hb dX12_keep_14 rfl (lv_at hl 2 rfl) ?_
  exact W.zret (v := 1) hx hb hr rfl (fun t ht hW => ⟨⟨1, (st1, sl), rfl, ⟨hG, hF, ⟨rfl, by show st1 14 va = _; rw [est1, up2_same], hT, by show st1 0 10 = st 0 10; rw [est1, up2_ne (r := 14) (k := va) (a := 0) (j := 10) _ _ (by omega)]⟩⟩, mB.of ht hP⟩, hS.F ht⟩) hS.2.2 dX12_keep_15
set_option maxHeartbeats 4000000 in
set_option maxRecDepth 100000 in
theorem f_keep0 (l : Launch) (dC : Nat → ClassId) (dI : Nat → Nat → Nat) (ar : Nat → Nat) (cy : Nat → ClassId) (sz : Nat) (hN : MN ar) (st : Nat → Nat → Int32) (sl : Nat → Nat → Int64) (va : Nat) (hva : va < 200) (hI : MI st) : Met l yX12_keep wsX12_keep ({ frames := 0, cells := 0, slots := 0, locals := 0 }) (va_Pc [.ref (ar 0), .int (nI va), .int 0] (mPre dC dI ar cy sz st sl)) (va_Qi (fun (r : Int32) (x : MT) => x = (st, sl) ∧ (r = 0)) (mB dC dI ar cy) (MA ar sz)) 0 0 (MA ar sz) := by
  refine Met.ofW (cc := cX12_keep) (maxL := 3) (ret := (some .boolean)) (by decide) rfl ?_
  intro p9 e s m9 args below meth c9 s₁ B9 hml hv
  obtain ⟨rfl, hsz, hP, hK⟩ := hv
  have hx := B9.exec
  have hb := B9.bytes
  have hr := B9.returns
  have hts := atoms_spec (ws := wsX12_keep) B9.pre
  have hown : s.vm.findClass RX12 = some m9.cls := findClass_of_methodNamed B9.named
  subst hsz
  have hS : va_S (MA ar s.heap.size) s.heap s.heap [] := va_S.rf
  have hG : MG [1, 2, 3, 4, 5, 6, 7, 8, 9, 10, 11, 12, 13, 14, 15, 16, 17, 19, 20, 21, 22, 23] st st := MG.rf hI
  have hl := lv_entry ([.ref (ar 0), .int (nI va), .int 0]) (n := 3) (Nat.le_of_ble_eq_true rfl)
  rw [lg_entry_eq]
  generalize (lg_sl ([.ref (ar 0), .int (nI va), .int 0]) ++ List.replicate (3 - (lg_sl ([.ref (ar 0), .int (nI va), .int 0])).length) Slot.unset).toArray = ls at hl ⊢
  have hl : lv_has ls 3 [(0, .ref (ar 0)), (1, .int (nI va)), (2, .int 0)] := hl
  clear hI
  refine lv_iload_n hx hb dX12_keep_0 rfl (lv_at hl 2 rfl) ?_
  refine lv_if_eq (tgt := 14) hx hb dX12_keep_1 (by decide) (fun _ => ?_) (fun cc => absurd (by decide) cc)
  refine lv_iload_n hx hb dX12_keep_14 rfl (lv_at hl 2 rfl) ?_
  exact W.zret (v := 0) hx hb hr rfl (fun t ht hW => ⟨⟨0, (st, sl), rfl, ⟨rfl, rfl⟩, mB.of ht hP⟩, hS.F ht⟩) hS.2.2 dX12_keep_15
set_option maxHeartbeats 4000000 in
set_option maxRecDepth 100000 in
theorem f_readHours (l : Launch) (dC : Nat → ClassId) (dI : Nat → Nat → Nat) (ar : Nat → Nat) (cy : Nat → ClassId) (sz : Nat) (hN : MN ar) (st : Nat → Nat → Int32) (sl : Nat → Nat → Int64) (va : Nat) (B : Nat → Nat) (g m : Nat) (p : Nat) (c : Nat → Nat) (nm : Nat → Nat → Nat) (hva : va < 199) (hI : MI st) (hB : MBt B g m st) (hT : TM B g m p st sl) (hR : RN c nm st sl) : Met l yX12_readHours wsX12_readHours ({ frames := 3, cells := 0, slots := 0, locals := 67 }) (va_Pc [.ref (ar 0), .int (nI va)] (mPre dC dI ar cy sz st sl)) (va_Qi (fun (r : Int32) (x : MT) => MG [1, 2, 3, 6, 7, 8, 9, 10, 11, 12, 14, 15, 20, 21, 22] st x.1 ∧ FM 7 st sl x.1 x.2 ∧ ((∃ q : Nat, r = 1 ∧ TM B g m q x.1 x.2 ∧ bHr B g m p = (0, q, 0) ∧ x.1 0 10 = st 0 10) ∨ (∃ f : Nat, ∃ a : Nat, r = 0 ∧ x.1 0 10 = nI f ∧ x.1 0 11 = nI a ∧ 1 ≤ f ∧ bHr B g m p = sf f a))) (mB dC dI ar cy) (MA ar sz)) 0 0 (MA ar sz) := by
  refine Met.ofW (cc := cX12_readHours) (maxL := 2) (ret := (some .boolean)) (by decide) rfl ?_
  intro p9 e s m9 args below meth c9 s₁ B9 hml hv
  obtain ⟨rfl, hsz, hP, hK⟩ := hv
  have hx := B9.exec
  have hb := B9.bytes
  have hr := B9.returns
  have hts := atoms_spec (ws := wsX12_readHours) B9.pre
  have hown : s.vm.findClass RX12 = some m9.cls := findClass_of_methodNamed B9.named
  subst hsz
  have hS : va_S (MA ar s.heap.size) s.heap s.heap [] := va_S.rf
  have hG : MG [1, 2, 3, 6, 7, 8, 9, 10, 11, 12, 14, 15, 20, 21, 22] st st := MG.rf hI
  have hl := lv_entry ([.ref (ar 0), .int (nI va)]) (n := 2) (Nat.le_of_ble_eq_true rfl)
  rw [lg_entry_eq]
  generalize (lg_sl ([.ref (ar 0), .int (nI va)]) ++ List.replicate (2 - (lg_sl ([.ref (ar 0), .int (nI va)])).length) Slot.unset).toArray = ls at hl ⊢
  have hl : lv_has ls 2 [(0, .ref (ar 0)), (1, .int (nI va))] := hl
  clear hI
  have hB1 := hB.2.2.1
  have hB2 := hB.2.2.2.1
  have hF : FM 7 st sl st sl := FM.rf
  have hp9 := hT.2.2.2.2.2.2
  have hk1 := tkd_lt (B := B) (g := g) (m := m) (p := p)
  have hk2 := tkx_le (B := B) (g := g) (m := m) (p := p) hp9
  have hk3 := tka_le (B := B) (g := g) (m := m) (p := p) hp9 hB.2.2.1
  have hk4 := tkv_lt (p := p) hB hp9
  have hk5 := tkw_lt (B := B) (g := g) (m := m) (p := p)
  have hR9 := hR.2.1
  refine lv_aload_n hx hb dX12_readHours_0 rfl (lv_at hl 0 rfl) ?_
  refine lv_iload_n hx hb dX12_readHours_1 rfl (lv_at hl 1 rfl) ?_
  refine lv_aload_n hx hb dX12_readHours_2 rfl (lv_at hl 0 rfl) ?_
  refine lv_iconst (v := 0) hx hb dX12_readHours_3 (by decide) ?_
  refine lv_bipush (v := 23) hx hb dX12_readHours_4 (by decide) ?_
  refine va_calli (va_runV (As := [.int 0, .int 23]) (rest := [.int (nI va), .ref (ar 0)]) ⟨hx, hb, hml, hown, hts⟩ (f_readNumber l dC dI ar cy _ hN st sl 0 23 B g m p (by omega) (by omega) hG.1 (MBt.fr hB hF) hT) (cwV 2 hts gX12_readHours_X12_readNumber rfl rfl rfl (by decide +kernel) ⟨Nat.le_of_ble_eq_true rfl, Nat.le_of_ble_eq_true rfl⟩) ⟨fun a U g mk q => ⟨q.1, mPre.blind q.2⟩, va_recv hK hP (ci := 11) (q0 := 0) rfl rfl, fun U hU hW => ⟨rfl, mPre.of hP hK hU hW⟩⟩ rfl rfl hl.1 rfl (lv_room (Nat.le_of_ble_eq_true rfl)) dX12_readHours_6 ⟨Nat.le_of_ble_eq_true rfl, Nat.le_of_ble_eq_true rfl⟩) hS (fun q _ h => MA.le hS.1 q h) (MA.le hS.1) (fun r1 x t H locs ht hvm hw hB9 _ _ hS => ?_)
  have hP := mB.at ht hB9
  clear hB9 ht hvm
  obtain ⟨st2, sl3⟩ := x
  obtain ⟨hG2, hF2, hw⟩ := hw
  dsimp only at hG2 hF2 hw
  have hP : va_P (dC, dI) vwCl (mw ar cy st2 sl3) _ := hP
  have hG : MG [1, 2, 3, 6, 7, 8, 9, 10, 11, 12, 14, 15, 20, 21, 22] st st2 := hG.tr hG2 (by decide)
  have hFst2 : FM 2 st sl st2 sl3 := hF2
  have hF : FM 7 st sl st2 sl3 := hF.tr hFst2 (by omega) (by omega)
  clear hG2 hF2
  have hR : RN c nm st2 sl3 := hR.fr hFst2
  rcases hw with ⟨rfl, hf4, hf5, hf6, hf7, hT, hf8, hk9⟩ | ⟨n10, n11, rfl, hf12, hf13, hf14, hf15⟩
  · have hp9 := hT.2.2.2.2.2.2
    have hk1 := tkd_lt (B := B) (g := g) (m := m) (p := (tkx B g m p))
    have hk2 := tkx_le (B := B) (g := g) (m := m) (p := (tkx B g m p)) hp9
    have hk3 := tka_le (B := B) (g := g) (m := m) (p := (tkx B g m p)) hp9 hB.2.2.1
    have hk4 := tkv_lt (p := (tkx B g m p)) hB hp9
    have hk5 := tkw_lt (B := B) (g := g) (m := m) (p := (tkx B g m p))
    refine va_calli (va_runV (As := [.int (nI va), .int 1]) (rest := []) ⟨hx, hb, hml, hown, hts⟩ (f_keep1 l dC dI ar cy _ hN st2 sl3 va B g m (tkx B g m p) (tkv B g p) (by omega) hG.1 (MBt.fr hB hF) hT (by rw [hf7]) (by omega)) (cwV 2 hts gX12_readHours_X12_keep rfl rfl rfl (by decide +kernel) ⟨Nat.le_of_ble_eq_true rfl, Nat.le_of_ble_eq_true rfl⟩) ⟨fun a U g mk q => ⟨q.1, mPre.blind q.2⟩, va_recv hK hP (ci := 11) (q0 := 0) rfl rfl, fun U hU hW => ⟨rfl, mPre.of hP hK hU hW⟩⟩ rfl rfl hl.1 rfl (lv_room (Nat.le_of_ble_eq_true rfl)) dX12_readHours_9 ⟨Nat.le_of_ble_eq_true rfl, Nat.le_of_ble_eq_true rfl⟩) hS (fun q _ h => MA.le hS.1 q h) (MA.le hS.1) (fun r16 x t H locs ht hvm hw hB9 _ _ hS => ?_)
    have hP := mB.at ht hB9
    clear hB9 ht hvm
    obtain ⟨st17, sl18⟩ := x
    obtain ⟨hG2, hF2, hw⟩ := hw
    dsimp only at hG2 hF2 hw
    have hP : va_P (dC, dI) vwCl (mw ar cy st17 sl18) _ := hP
    have hG : MG [1, 2, 3, 6, 7, 8, 9, 10, 11, 12, 14, 15, 20, 21, 22] st st17 := hG.tr hG2 (by decide)
    have hFst17 : FM 7 st2 sl3 st17 sl18 := hF2
    have hF : FM 7 st sl st17 sl18 := hF.tr hFst17 (by omega) (by omega)
    clear hG2 hF2
    have hR : RN c nm st17 sl18 := hR.fr hFst17
    obtain ⟨rfl, hf19, hT, hk20⟩ := hw
    have hp9 := hT.2.2.2.2.2.2
    have hk1 := tkd_lt (B := B) (g := g) (m := m) (p := (tkx B g m p))
    have hk2 := tkx_le (B := B) (g := g) (m := m) (p := (tkx B g m p)) hp9
    have hk3 := tka_le (B := B) (g := g) (m := m) (p := (tkx B g m p)) hp9 hB.2.2.1
    have hk4 := tkv_lt (p := (tkx B g m p)) hB hp9
    have hk5 := tkw_lt (B := B) (g := g) (m := m) (p := (tkx B g m p))
    refine lv_if_eq (tgt := 41) hx hb dX12_readHours_12 (by decide) (fun cc => absurd cc (by decide)) (fun _ => ?_)
    refine lv_aload_n hx hb dX12_readHours_15 rfl (lv_at hl 0 rfl) ?_
    refine lv_iload_n hx hb dX12_readHours_16 rfl (lv_at hl 1 rfl) ?_
    refine lv_iconst (v := 1) hx hb dX12_readHours_17 (by decide) ?_
    refine lv_iadd hx hb dX12_readHours_18 ?_
    refine zz_top (v := nI (va + 1)) (nI_add va 1) ?_
    refine lv_aload_n hx hb dX12_readHours_19 rfl (lv_at hl 0 rfl) ?_
    refine lv_aload_n hx hb dX12_readHours_20 rfl (lv_at hl 0 rfl) ?_
    refine va_get (D := (dC, dI)) (ci := 11) (v := .ref (ar 14)) (C := RX12) (T := TX12) (N := 47) hx hb hts ii_X12_readHours hown hK hP 0 rfl rfl 38 (by decide) (hts _ mm_X12_readHours_1) (fun _ hh => hh) rfl dX12_readHours_21 ?_
    refine lv_iload_n hx hb dX12_readHours_24 rfl (lv_at hl 1 rfl) ?_
    refine va_iald hx hb hK hP 14 13 rfl rfl (i := (nI va)) (vp_in_nI (by omega) (by decide)) dX12_readHours_25 ?_
    refine zz_top (v := (nI (tkv B g p))) (by rw [nI_clamp (by omega)]; show st17 14 va = _; rw [hf19]) ?_
    refine lv_bipush (v := 23) hx hb dX12_readHours_26 (by decide) ?_
    refine va_calli (va_runV (As := [.int (nI (tkv B g p)), .int 23]) (rest := [.int (nI (va + 1)), .ref (ar 0)]) ⟨hx, hb, hml, hown, hts⟩ (f_readNumber l dC dI ar cy _ hN st17 sl18 (tkv B g p) 23 B g m (tkx B g m p) (by omega) (by omega) hG.1 (MBt.fr hB hF) hT) (cwV 2 hts gX12_readHours_X12_readNumber rfl rfl rfl (by decide +kernel) ⟨Nat.le_of_ble_eq_true rfl, Nat.le_of_ble_eq_true rfl⟩) ⟨fun a U g mk q => ⟨q.1, mPre.blind q.2⟩, va_recv hK hP (ci := 11) (q0 := 0) rfl rfl, fun U hU hW => ⟨rfl, mPre.of hP hK hU hW⟩⟩ rfl rfl hl.1 rfl (lv_room (Nat.le_of_ble_eq_true rfl)) dX12_readHours_28 ⟨Nat.le_of_ble_eq_true rfl, Nat.le_of_ble_eq_true rfl⟩) hS (fun q _ h => MA.le hS.1 q h) (MA.le hS.1) (fun r21 x t H locs ht hvm hw hB9 _ _ hS => ?_)
    have hP := mB.at ht hB9
    clear hB9 ht hvm
    obtain ⟨st22, sl23⟩ := x
    obtain ⟨hG2, hF2, hw⟩ := hw
    dsimp only at hG2 hF2 hw
    have hP : va_P (dC, dI) vwCl (mw ar cy st22 sl23) _ := hP
    have hG : MG [1, 2, 3, 6, 7, 8, 9, 10, 11, 12, 14, 15, 20, 21, 22] st st22 := hG.tr hG2 (by decide)
    have hFst22 : FM 2 st17 sl18 st22 sl23 := hF2
    have hF : FM 7 st sl st22 sl23 := hF.tr hFst22 (by omega) (by omega)
    clear hG2 hF2
    have hR : RN c nm st22 sl23 := hR.fr hFst22
    rcases hw with ⟨rfl, hf24, hf25, hf26, hf27, hT, hf28, hk29⟩ | ⟨n30, n31, rfl, hf32, hf33, hf34, hf35⟩
    · have hp9 := hT.2.2.2.2.2.2
      have hk1 := tkd_lt (B := B) (g := g) (m := m) (p := (tkx B g m (tkx B g m p)))
      have hk2 := tkx_le (B := B) (g := g) (m := m) (p := (tkx B g m (tkx B g m p))) hp9
      have hk3 := tka_le (B := B) (g := g) (m := m) (p := (tkx B g m (tkx B g m p))) hp9 hB.2.2.1
      have hk4 := tkv_lt (p := (tkx B g m (tkx B g m p))) hB hp9
      have hk5 := tkw_lt (B := B) (g := g) (m := m) (p := (tkx B g m (tkx B g m p)))
      refine va_calli (va_runV (As := [.int (nI (va + 1)), .int 1]) (rest := []) ⟨hx, hb, hml, hown, hts⟩ (f_keep1 l dC dI ar cy _ hN st22 sl23 (va + 1) B g m (tkx B g m (tkx B g m p)) (tkv B g (tkx B g m p)) (by omega) hG.1 (MBt.fr hB hF) hT (by rw [hf27]) (by omega)) (cwV 2 hts gX12_readHours_X12_keep rfl rfl rfl (by decide +kernel) ⟨Nat.le_of_ble_eq_true rfl, Nat.le_of_ble_eq_true rfl⟩) ⟨fun a U g mk q => ⟨q.1, mPre.blind q.2⟩, va_recv hK hP (ci := 11) (q0 := 0) rfl rfl, fun U hU hW => ⟨rfl, mPre.of hP hK hU hW⟩⟩ rfl rfl hl.1 rfl (lv_room (Nat.le_of_ble_eq_true rfl)) dX12_readHours_31 ⟨Nat.le_of_ble_eq_true rfl, Nat.le_of_ble_eq_true rfl⟩) hS (fun q _ h => MA.le hS.1 q h) (MA.le hS.1) (fun r36 x t H locs ht hvm hw hB9 _ _ hS => ?_)
      have hP := mB.at ht hB9
      clear hB9 ht hvm
      obtain ⟨st37, sl38⟩ := x
      obtain ⟨hG2, hF2, hw⟩ := hw
      dsimp only at hG2 hF2 hw
      have hP : va_P (dC, dI) vwCl (mw ar cy st37 sl38) _ := hP
      have hG : MG [1, 2, 3, 6, 7, 8, 9, 10, 11, 12, 14, 15, 20, 21, 22] st st37 := hG.tr hG2 (by decide)
      have hFst37 : FM 7 st22 sl23 st37 sl38 := hF2
      have hF : FM 7 st sl st37 sl38 := hF.tr hFst37 (by omega) (by omega)
      clear hG2 hF2
      have hR : RN c nm st37 sl38 := hR.fr hFst37
      obtain ⟨rfl, hf39, hT, hk40⟩ := hw
      have hp9 := hT.2.2.2.2.2.2
      have hk1 := tkd_lt (B := B) (g := g) (m := m) (p := (tkx B g m (tkx B g m p)))
      have hk2 := tkx_le (B := B) (g := g) (m := m) (p := (tkx B g m (tkx B g m p))) hp9
      have hk3 := tka_le (B := B) (g := g) (m := m) (p := (tkx B g m (tkx B g m p))) hp9 hB.2.2.1
      have hk4 := tkv_lt (p := (tkx B g m (tkx B g m p))) hB hp9
      have hk5 := tkw_lt (B := B) (g := g) (m := m) (p := (tkx B g m (tkx B g m p)))
      refine lv_if_eq (tgt := 41) hx hb dX12_readHours_34 (by decide) (fun cc => absurd cc (by decide)) (fun _ => ?_)
      refine lv_iconst (v := 1) hx hb dX12_readHours_37 (by decide) ?_
      refine lv_goto (tgt := 42) hx hb dX12_readHours_38 (by decide) ?_
      exact W.zret (v := 1) hx hb hr rfl (fun t ht hW => ⟨⟨1, (st37, sl38), rfl, ⟨hG, hF, Or.inl (⟨(tkx B g m (tkx B g m p)), rfl, hT, sOf_y ((hf8 _).trans (hf28 _)), by show st37 0 10 = st 0 10; rw [hk40, hk29, hk20, hk9]⟩)⟩, mB.of ht hP⟩, hS.F ht⟩) hS.2.2 dX12_readHours_42
    · refine va_calli (va_runV (As := [.int (nI (va + 1)), .int 0]) (rest := []) ⟨hx, hb, hml, hown, hts⟩ (f_keep0 l dC dI ar cy _ hN st22 sl23 (va + 1) (by omega) hG.1 ) (cwV 2 hts gX12_readHours_X12_keep rfl rfl rfl (by decide +kernel) ⟨Nat.le_of_ble_eq_true rfl, Nat.le_of_ble_eq_true rfl⟩) ⟨fun a U g mk q => ⟨q.1, mPre.blind q.2⟩, va_recv hK hP (ci := 11) (q0 := 0) rfl rfl, fun U hU hW => ⟨rfl, mPre.of hP hK hU hW⟩⟩ rfl rfl hl.1 rfl (lv_room (Nat.le_of_ble_eq_true rfl)) dX12_readHours_31 ⟨Nat.le_of_ble_eq_true rfl, Nat.le_of_ble_eq_true rfl⟩) hS (fun q _ h => MA.le hS.1 q h) (MA.le hS.1) (fun r41 x t H locs ht hvm hw hB9 _ _ hS => ?_)
      have hP := mB.at ht hB9
      clear hB9 ht hvm
      obtain ⟨rfl, hw⟩ := hw
      have hP : va_P (dC, dI) vwCl (mw ar cy st22 sl23) _ := hP
      obtain rfl := hw
      refine lv_if_eq (tgt := 41) hx hb dX12_readHours_34 (by decide) (fun _ => ?_) (fun cc => absurd (by decide) cc)
      refine lv_iconst (v := 0) hx hb dX12_readHours_41 (by decide) ?_
      exact W.zret (v := 0) hx hb hr rfl (fun t ht hW => ⟨⟨0, (st22, sl23), rfl, ⟨hG, hF, Or.inr (⟨n30, n31, rfl, by show st22 0 10 = _; rw [hf32], by show st22 0 11 = _; rw [hf33], hf34, sOf_f ((hf8 _).trans (hf35 _)) hf34⟩)⟩, mB.of ht hP⟩, hS.F ht⟩) hS.2.2 dX12_readHours_42
  · refine va_calli (va_runV (As := [.int (nI va), .int 0]) (rest := []) ⟨hx, hb, hml, hown, hts⟩ (f_keep0 l dC dI ar cy _ hN st2 sl3 va (by omega) hG.1 ) (cwV 2 hts gX12_readHours_X12_keep rfl rfl rfl (by decide +kernel) ⟨Nat.le_of_ble_eq_true rfl, Nat.le_of_ble_eq_true rfl⟩) ⟨fun a U g mk q => ⟨q.1, mPre.blind q.2⟩, va_recv hK hP (ci := 11) (q0 := 0) rfl rfl, fun U hU hW => ⟨rfl, mPre.of hP hK hU hW⟩⟩ rfl rfl hl.1 rfl (lv_room (Nat.le_of_ble_eq_true rfl)) dX12_readHours_9 ⟨Nat.le_of_ble_eq_true rfl, Nat.le_of_ble_eq_true rfl⟩) hS (fun q _ h => MA.le hS.1 q h) (MA.le hS.1) (fun r42 x t H locs ht hvm hw hB9 _ _ hS => ?_)
    have hP := mB.at ht hB9
    clear hB9 ht hvm
    obtain ⟨rfl, hw⟩ := hw
    have hP : va_P (dC, dI) vwCl (mw ar cy st2 sl3) _ := hP
    obtain rfl := hw
    refine lv_if_eq (tgt := 41) hx hb dX12_readHours_12 (by decide) (fun _ => ?_) (fun cc => absurd (by decide) cc)
    refine lv_iconst (v := 0) hx hb dX12_readHours_41 (by decide) ?_
    exact W.zret (v := 0) hx hb hr rfl (fun t ht hW => ⟨⟨0, (st2, sl3), rfl, ⟨hG, hF, Or.inr (⟨n10, n11, rfl, by show st2 0 10 = _; rw [hf12], by show st2 0 11 = _; rw [hf13], hf14, sOf_f (hf15 _) hf14⟩)⟩, mB.of ht hP⟩, hS.F ht⟩) hS.2.2 dX12_readHours_42
