set_option maxHeartbeats 4000000 in
set_option maxRecDepth 100000 in
theorem k_X11_restore_3 (l : Launch) (dC : Nat → ClassId) (dI : Nat → Nat → Nat) (ad : Nat → Nat) (h0 : Nat) (p0 : Int32) (sz : Nat) (e0_0 : 1 < p0) : Met l yX11_restore wsX11_restore ({ frames := 0, cells := 0, slots := 0, locals := 0 }) (va_Pc [.ref h0, .int p0] (CP (dC, dI) [] [] sz ad)) (va_Qi (fun (r : Int32) (_ : Unit) => r = 0) (fun (_ : Unit) (t : State) => CQ (dC, dI) [] [] (va_A [] sz) t) (va_A [] sz)) 0 0 (va_A [] sz) := by
  refine Met.ofW (cc := cX11_restore) (maxL := 2) (ret := (some .boolean)) (by decide) rfl ?_
  intro p e s m args below meth c s₁ B hml hv
  obtain ⟨rfl, hsz, hP, hK, hD0, hE⟩ := hv
  have hx := B.exec
  have hb := B.bytes
  have hr := B.returns
  have hts := atoms_spec (ws := wsX11_restore) B.pre
  have hown : s.vm.findClass RX11 = some m.cls := findClass_of_methodNamed B.named
  have hlocks := B.notSynchronized
  subst hsz
  have hD := hD0.self (sz := s.heap.size)
  generalize hAe : va_A [] s.heap.size = A at hD hE ⊢
  have hA : ∀ q : Nat, s.heap.size ≤ q → A q := fun q h => by rw [← hAe]; exact Or.inr h
  have hS : va_S A s.heap s.heap [] := va_S.rf
  have hl := lv_entry ([.ref h0, .int p0]) (n := 2) (Nat.le_of_ble_eq_true rfl)
  rw [lg_entry_eq]
  generalize (lg_sl ([.ref h0, .int p0]) ++ List.replicate (2 - (lg_sl ([.ref h0, .int p0])).length) Slot.unset).toArray = ls at hl ⊢
  have hl : lv_has ls 2 [(0, .ref h0), (1, .int p0)] := hl
  refine lv_iload_n hx hb dX11_restore_0 rfl (lv_at hl 1 rfl) ?_
  refine lv_if_lt (tgt := 18) hx hb dX11_restore_1 (by decide) (fun c1 => ?_) (fun _ => ?_)
  · exfalso; clear hP hD hK hS hE; simp only [Int32.lt_iff_toInt_lt, Int32.le_iff_toInt_le, ← Int32.toInt_inj, Int32.reduceToInt] at e0_0 c1; omega
  refine lv_iload_n hx hb dX11_restore_4 rfl (lv_at hl 1 rfl) ?_
  refine lv_iconst (v := 2) hx hb dX11_restore_5 (by decide) ?_
  refine lv_icmp_ge (tgt := 18) hx hb dX11_restore_6 (by decide) (fun _ => ?_) (fun c2 => ?_)
  rotate_left
  · exfalso; clear hP hD hK hS hE; simp only [Int32.lt_iff_toInt_lt, Int32.le_iff_toInt_le, ← Int32.toInt_inj, Int32.reduceToInt] at e0_0 c2; omega
  refine lv_iconst (v := 0) hx hb dX11_restore_18 (by decide) ?_
  have hP9 := hP.sub (ws' := []) [] rfl
  have hD9 := hD.sub (ws' := []) [] (by decide) rfl
  have hK9 := hK.sub (tys' := []) [] rfl
  refine W.widen (k := 0) (n := 0) (Nat.le_of_ble_eq_true rfl) (Nat.le_of_ble_eq_true rfl) ?_
  exact W.zret (v := 0) hx hb hr rfl (fun t ht hW => ⟨⟨0, (), rfl, rfl, by rw [ht]; exact hP9, va_K.moved hW.alike hK9, hD9⟩, hS.F ht⟩) hS.2.2 dX11_restore_19
set_option maxHeartbeats 4000000 in
set_option maxRecDepth 100000 in
theorem k_X11_count (l : Launch) (dC : Nat → ClassId) (dI : Nat → Nat → Nat) (ad : Nat → Nat) (h0 h1 h2 h3 h4 h5 h6 h7 h8 h9 h10 h11 h12 h13 h14 h15 h16 h17 h18 h19 h20 : Nat) (sz : Nat) : Met l yX11_count wsX11_count ({ frames := 0, cells := 0, slots := 0, locals := 0 }) (va_Pc [.ref h0, .int 0] (CP (dC, dI) [(h0, .inr (10, [.ref h1, .ref h2, .ref h3, .ref h4, .ref h5, .ref h6, .ref h7, .ref h8, .ref h9, .ref h10, .ref h11, .ref h12, .ref h13, .ref h14, .ref h15, .int (-1), .int 0, .int (-1), .int (-1)])), (h2, .inr (5, [.ref h16, .ref h17, .ref h18, .ref h19, .ref h20, .int 0, .int 0, .int 0, .int 2, .int 0, .int 0, .int 0]))] [] sz ad)) (va_Qi (fun (r : Int32) (_ : Unit) => r = 0) (fun (_ : Unit) (t : State) => CQ (dC, dI) [] [] (va_A [(h0, .inr (10, [.ref h1, .ref h2, .ref h3, .ref h4, .ref h5, .ref h6, .ref h7, .ref h8, .ref h9, .ref h10, .ref h11, .ref h12, .ref h13, .ref h14, .ref h15, .int (-1), .int 0, .int (-1), .int (-1)])), (h2, .inr (5, [.ref h16, .ref h17, .ref h18, .ref h19, .ref h20, .int 0, .int 0, .int 0, .int 2, .int 0, .int 0, .int 0]))] sz) t) (va_A [(h0, .inr (10, [.ref h1, .ref h2, .ref h3, .ref h4, .ref h5, .ref h6, .ref h7, .ref h8, .ref h9, .ref h10, .ref h11, .ref h12, .ref h13, .ref h14, .ref h15, .int (-1), .int 0, .int (-1), .int (-1)])), (h2, .inr (5, [.ref h16, .ref h17, .ref h18, .ref h19, .ref h20, .int 0, .int 0, .int 0, .int 2, .int 0, .int 0, .int 0]))] sz)) 0 0 (va_A [(h0, .inr (10, [.ref h1, .ref h2, .ref h3, .ref h4, .ref h5, .ref h6, .ref h7, .ref h8, .ref h9, .ref h10, .ref h11, .ref h12, .ref h13, .ref h14, .ref h15, .int (-1), .int 0, .int (-1), .int (-1)])), (h2, .inr (5, [.ref h16, .ref h17, .ref h18, .ref h19, .ref h20, .int 0, .int 0, .int 0, .int 2, .int 0, .int 0, .int 0]))] sz) := by
  refine Met.ofW (cc := cX11_count) (maxL := 2) (ret := (some .int)) (by decide) rfl ?_
  intro p e s m args below meth c s₁ B hml hv
  obtain ⟨rfl, hsz, hP, hK, hD0, hE⟩ := hv
  have hx := B.exec
  have hb := B.bytes
  have hr := B.returns
  have hts := atoms_spec (ws := wsX11_count) B.pre
  have hown : s.vm.findClass RX11 = some m.cls := findClass_of_methodNamed B.named
  have hlocks := B.notSynchronized
  subst hsz
  have hD := hD0.self (sz := s.heap.size)
  generalize hAe : va_A [(h0, .inr (10, [.ref h1, .ref h2, .ref h3, .ref h4, .ref h5, .ref h6, .ref h7, .ref h8, .ref h9, .ref h10, .ref h11, .ref h12, .ref h13, .ref h14, .ref h15, .int (-1), .int 0, .int (-1), .int (-1)])), (h2, .inr (5, [.ref h16, .ref h17, .ref h18, .ref h19, .ref h20, .int 0, .int 0, .int 0, .int 2, .int 0, .int 0, .int 0]))] s.heap.size = A at hD hE ⊢
  have hA : ∀ q : Nat, s.heap.size ≤ q → A q := fun q h => by rw [← hAe]; exact Or.inr h
  have hS : va_S A s.heap s.heap [] := va_S.rf
  have hl := lv_entry ([.ref h0, .int 0]) (n := 2) (Nat.le_of_ble_eq_true rfl)
  rw [lg_entry_eq]
  generalize (lg_sl ([.ref h0, .int 0]) ++ List.replicate (2 - (lg_sl ([.ref h0, .int 0])).length) Slot.unset).toArray = ls at hl ⊢
  have hl : lv_has ls 2 [(0, .ref h0), (1, .int 0)] := hl
  refine lv_iload_n hx hb dX11_count_0 rfl (lv_at hl 1 rfl) ?_
  refine lv_tableIn (tgt := 32) hx hb dX11_count_1 (by decide) (by decide) rfl (by decide) ?_
  refine lv_aload_n hx hb dX11_count_32 rfl (lv_at hl 0 rfl) ?_
  refine va_get (D := (dC, dI)) (ci := 10) (v := .ref h2) (C := RX11) (T := TX11) (N := 19) hx hb hts ii_X11_count_X11 hown hK hP 0 rfl rfl 1 (by decide) (hts _ mm_X11_count_1) (fun _ h9 => h9) rfl dX11_count_33 ?_
  refine va_getN (host := "OffTheLead") (D := (dC, dI)) (ci := 5) (v := .int 0) (C := RX4) (T := TX4) (N := 12) hx hb hts ii_X11_count_X4 hown hK hP 1 rfl rfl 5 (by decide) (va_Nw.use rfl (nf_X11_374 hE)) (fun _ h9 => h9) rfl dX11_count_36 ?_
  have hP9 := hP.sub (ws' := []) [] rfl
  have hD9 := hD.sub (ws' := []) [] (by decide) rfl
  have hK9 := hK.sub (tys' := []) [] rfl
  refine W.widen (k := 0) (n := 0) (Nat.le_of_ble_eq_true rfl) (Nat.le_of_ble_eq_true rfl) ?_
  exact W.iret (v := 0) hx hb hr (fun t ht hW => ⟨⟨0, (), rfl, rfl, by rw [ht]; exact hP9, va_K.moved hW.alike hK9, hD9⟩, hS.F ht⟩) hS.2.2 dX11_count_39
set_option maxHeartbeats 4000000 in
set_option maxRecDepth 100000 in
theorem k_X11_count_1 (l : Launch) (dC : Nat → ClassId) (dI : Nat → Nat → Nat) (ad : Nat → Nat) (h0 h1 h2 h3 h4 h5 h6 h7 h8 h9 h10 h11 h12 h13 h14 h15 h16 h17 h18 h19 h20 : Nat) (sz : Nat) : Met l yX11_count wsX11_count ({ frames := 0, cells := 0, slots := 0, locals := 0 }) (va_Pc [.ref h0, .int 1] (CP (dC, dI) [(h0, .inr (10, [.ref h1, .ref h2, .ref h3, .ref h4, .ref h5, .ref h6, .ref h7, .ref h8, .ref h9, .ref h10, .ref h11, .ref h12, .ref h13, .ref h14, .ref h15, .int (-1), .int 0, .int (-1), .int (-1)])), (h2, .inr (5, [.ref h16, .ref h17, .ref h18, .ref h19, .ref h20, .int 0, .int 0, .int 0, .int 2, .int 0, .int 0, .int 0]))] [] sz ad)) (va_Qi (fun (r : Int32) (_ : Unit) => r = 0) (fun (_ : Unit) (t : State) => CQ (dC, dI) [] [] (va_A [(h0, .inr (10, [.ref h1, .ref h2, .ref h3, .ref h4, .ref h5, .ref h6, .ref h7, .ref h8, .ref h9, .ref h10, .ref h11, .ref h12, .ref h13, .ref h14, .ref h15, .int (-1), .int 0, .int (-1), .int (-1)])), (h2, .inr (5, [.ref h16, .ref h17, .ref h18, .ref h19, .ref h20, .int 0, .int 0, .int 0, .int 2, .int 0, .int 0, .int 0]))] sz) t) (va_A [(h0, .inr (10, [.ref h1, .ref h2, .ref h3, .ref h4, .ref h5, .ref h6, .ref h7, .ref h8, .ref h9, .ref h10, .ref h11, .ref h12, .ref h13, .ref h14, .ref h15, .int (-1), .int 0, .int (-1), .int (-1)])), (h2, .inr (5, [.ref h16, .ref h17, .ref h18, .ref h19, .ref h20, .int 0, .int 0, .int 0, .int 2, .int 0, .int 0, .int 0]))] sz)) 0 0 (va_A [(h0, .inr (10, [.ref h1, .ref h2, .ref h3, .ref h4, .ref h5, .ref h6, .ref h7, .ref h8, .ref h9, .ref h10, .ref h11, .ref h12, .ref h13, .ref h14, .ref h15, .int (-1), .int 0, .int (-1), .int (-1)])), (h2, .inr (5, [.ref h16, .ref h17, .ref h18, .ref h19, .ref h20, .int 0, .int 0, .int 0, .int 2, .int 0, .int 0, .int 0]))] sz) := by
  refine Met.ofW (cc := cX11_count) (maxL := 2) (ret := (some .int)) (by decide) rfl ?_
  intro p e s m args below meth c s₁ B hml hv
  obtain ⟨rfl, hsz, hP, hK, hD0, hE⟩ := hv
  have hx := B.exec
  have hb := B.bytes
  have hr := B.returns
  have hts := atoms_spec (ws := wsX11_count) B.pre
  have hown : s.vm.findClass RX11 = some m.cls := findClass_of_methodNamed B.named
  have hlocks := B.notSynchronized
  subst hsz
  have hD := hD0.self (sz := s.heap.size)
  generalize hAe : va_A [(h0, .inr (10, [.ref h1, .ref h2, .ref h3, .ref h4, .ref h5, .ref h6, .ref h7, .ref h8, .ref h9, .ref h10, .ref h11, .ref h12, .ref h13, .ref h14, .ref h15, .int (-1), .int 0, .int (-1), .int (-1)])), (h2, .inr (5, [.ref h16, .ref h17, .ref h18, .ref h19, .ref h20, .int 0, .int 0, .int 0, .int 2, .int 0, .int 0, .int 0]))] s.heap.size = A at hD hE ⊢
  have hA : ∀ q : Nat, s.heap.size ≤ q → A q := fun q h => by rw [← hAe]; exact Or.inr h
  have hS : va_S A s.heap s.heap [] := va_S.rf
  have hl := lv_entry ([.ref h0, .int 1]) (n := 2) (Nat.le_of_ble_eq_true rfl)
  rw [lg_entry_eq]
  generalize (lg_sl ([.ref h0, .int 1]) ++ List.replicate (2 - (lg_sl ([.ref h0, .int 1])).length) Slot.unset).toArray = ls at hl ⊢
  have hl : lv_has ls 2 [(0, .ref h0), (1, .int 1)] := hl
  refine lv_iload_n hx hb dX11_count_0 rfl (lv_at hl 1 rfl) ?_
  refine lv_tableIn (tgt := 40) hx hb dX11_count_1 (by decide) (by decide) rfl (by decide) ?_
  refine lv_aload_n hx hb dX11_count_40 rfl (lv_at hl 0 rfl) ?_
  refine va_get (D := (dC, dI)) (ci := 10) (v := .ref h2) (C := RX11) (T := TX11) (N := 19) hx hb hts ii_X11_count_X11 hown hK hP 0 rfl rfl 1 (by decide) (hts _ mm_X11_count_1) (fun _ h9 => h9) rfl dX11_count_41 ?_
  refine va_getN (host := "OffTheLead") (D := (dC, dI)) (ci := 5) (v := .int 0) (C := RX4) (T := TX4) (N := 12) hx hb hts ii_X11_count_X4 hown hK hP 1 rfl rfl 6 (by decide) (va_Nw.use rfl (nf_X11_367 hE)) (fun _ h9 => h9) rfl dX11_count_44 ?_
  have hP9 := hP.sub (ws' := []) [] rfl
  have hD9 := hD.sub (ws' := []) [] (by decide) rfl
  have hK9 := hK.sub (tys' := []) [] rfl
  refine W.widen (k := 0) (n := 0) (Nat.le_of_ble_eq_true rfl) (Nat.le_of_ble_eq_true rfl) ?_
  exact W.iret (v := 0) hx hb hr (fun t ht hW => ⟨⟨0, (), rfl, rfl, by rw [ht]; exact hP9, va_K.moved hW.alike hK9, hD9⟩, hS.F ht⟩) hS.2.2 dX11_count_47
set_option maxHeartbeats 4000000 in
set_option maxRecDepth 100000 in
theorem k_X11_count_2 (l : Launch) (dC : Nat → ClassId) (dI : Nat → Nat → Nat) (ad : Nat → Nat) (h0 h1 h2 h3 h4 h5 h6 h7 h8 h9 h10 h11 h12 h13 h14 h15 h16 h17 h18 h19 h20 : Nat) (sz : Nat) : Met l yX11_count wsX11_count ({ frames := 0, cells := 0, slots := 0, locals := 0 }) (va_Pc [.ref h0, .int 2] (CP (dC, dI) [(h0, .inr (10, [.ref h1, .ref h2, .ref h3, .ref h4, .ref h5, .ref h6, .ref h7, .ref h8, .ref h9, .ref h10, .ref h11, .ref h12, .ref h13, .ref h14, .ref h15, .int (-1), .int 0, .int (-1), .int (-1)])), (h2, .inr (5, [.ref h16, .ref h17, .ref h18, .ref h19, .ref h20, .int 0, .int 0, .int 0, .int 2, .int 0, .int 0, .int 0]))] [] sz ad)) (va_Qi (fun (r : Int32) (_ : Unit) => r = 0) (fun (_ : Unit) (t : State) => CQ (dC, dI) [] [] (va_A [(h0, .inr (10, [.ref h1, .ref h2, .ref h3, .ref h4, .ref h5, .ref h6, .ref h7, .ref h8, .ref h9, .ref h10, .ref h11, .ref h12, .ref h13, .ref h14, .ref h15, .int (-1), .int 0, .int (-1), .int (-1)])), (h2, .inr (5, [.ref h16, .ref h17, .ref h18, .ref h19, .ref h20, .int 0, .int 0, .int 0, .int 2, .int 0, .int 0, .int 0]))] sz) t) (va_A [(h0, .inr (10, [.ref h1, .ref h2, .ref h3, .ref h4, .ref h5, .ref h6, .ref h7, .ref h8, .ref h9, .ref h10, .ref h11, .ref h12, .ref h13, .ref h14, .ref h15, .int (-1), .int 0, .int (-1), .int (-1)])), (h2, .inr (5, [.ref h16, .ref h17, .ref h18, .ref h19, .ref h20, .int 0, .int 0, .int 0, .int 2, .int 0, .int 0, .int 0]))] sz)) 0 0 (va_A [(h0, .inr (10, [.ref h1, .ref h2, .ref h3, .ref h4, .ref h5, .ref h6, .ref h7, .ref h8, .ref h9, .ref h10, .ref h11, .ref h12, .ref h13, .ref h14, .ref h15, .int (-1), .int 0, .int (-1), .int (-1)])), (h2, .inr (5, [.ref h16, .ref h17, .ref h18, .ref h19, .ref h20, .int 0, .int 0, .int 0, .int 2, .int 0, .int 0, .int 0]))] sz) := by
  refine Met.ofW (cc := cX11_count) (maxL := 2) (ret := (some .int)) (by decide) rfl ?_
  intro p e s m args below meth c s₁ B hml hv
  obtain ⟨rfl, hsz, hP, hK, hD0, hE⟩ := hv
  have hx := B.exec
  have hb := B.bytes
  have hr := B.returns
  have hts := atoms_spec (ws := wsX11_count) B.pre
  have hown : s.vm.findClass RX11 = some m.cls := findClass_of_methodNamed B.named
  have hlocks := B.notSynchronized
  subst hsz
  have hD := hD0.self (sz := s.heap.size)
  generalize hAe : va_A [(h0, .inr (10, [.ref h1, .ref h2, .ref h3, .ref h4, .ref h5, .ref h6, .ref h7, .ref h8, .ref h9, .ref h10, .ref h11, .ref h12, .ref h13, .ref h14, .ref h15, .int (-1), .int 0, .int (-1), .int (-1)])), (h2, .inr (5, [.ref h16, .ref h17, .ref h18, .ref h19, .ref h20, .int 0, .int 0, .int 0, .int 2, .int 0, .int 0, .int 0]))] s.heap.size = A at hD hE ⊢
  have hA : ∀ q : Nat, s.heap.size ≤ q → A q := fun q h => by rw [← hAe]; exact Or.inr h
  have hS : va_S A s.heap s.heap [] := va_S.rf
  have hl := lv_entry ([.ref h0, .int 2]) (n := 2) (Nat.le_of_ble_eq_true rfl)
  rw [lg_entry_eq]
  generalize (lg_sl ([.ref h0, .int 2]) ++ List.replicate (2 - (lg_sl ([.ref h0, .int 2])).length) Slot.unset).toArray = ls at hl ⊢
  have hl : lv_has ls 2 [(0, .ref h0), (1, .int 2)] := hl
  refine lv_iload_n hx hb dX11_count_0 rfl (lv_at hl 1 rfl) ?_
  refine lv_tableIn (tgt := 48) hx hb dX11_count_1 (by decide) (by decide) rfl (by decide) ?_
  refine lv_aload_n hx hb dX11_count_48 rfl (lv_at hl 0 rfl) ?_
  refine va_get (D := (dC, dI)) (ci := 10) (v := .ref h2) (C := RX11) (T := TX11) (N := 19) hx hb hts ii_X11_count_X11 hown hK hP 0 rfl rfl 1 (by decide) (hts _ mm_X11_count_1) (fun _ h9 => h9) rfl dX11_count_49 ?_
  refine va_getN (host := "OffTheLead") (D := (dC, dI)) (ci := 5) (v := .int 0) (C := RX4) (T := TX4) (N := 12) hx hb hts ii_X11_count_X4 hown hK hP 1 rfl rfl 7 (by decide) (va_Nw.use rfl (nf_X11_377 hE)) (fun _ h9 => h9) rfl dX11_count_52 ?_
  have hP9 := hP.sub (ws' := []) [] rfl
  have hD9 := hD.sub (ws' := []) [] (by decide) rfl
  have hK9 := hK.sub (tys' := []) [] rfl
  refine W.widen (k := 0) (n := 0) (Nat.le_of_ble_eq_true rfl) (Nat.le_of_ble_eq_true rfl) ?_
  exact W.iret (v := 0) hx hb hr (fun t ht hW => ⟨⟨0, (), rfl, rfl, by rw [ht]; exact hP9, va_K.moved hW.alike hK9, hD9⟩, hS.F ht⟩) hS.2.2 dX11_count_55
set_option maxHeartbeats 4000000 in
set_option maxRecDepth 100000 in
theorem k_X11_count_3 (l : Launch) (dC : Nat → ClassId) (dI : Nat → Nat → Nat) (ad : Nat → Nat) (h0 h1 h2 h3 h4 h5 h6 h7 h8 h9 h10 h11 h12 h13 h14 h15 h16 : Nat) (sz : Nat) : Met l yX11_count wsX11_count ({ frames := 0, cells := 0, slots := 0, locals := 0 }) (va_Pc [.ref h0, .int 3] (CP (dC, dI) [(h0, .inr (10, [.ref h1, .ref h2, .ref h3, .ref h4, .ref h5, .ref h6, .ref h7, .ref h8, .ref h9, .ref h10, .ref h11, .ref h12, .ref h13, .ref h14, .ref h15, .int (-1), .int 0, .int (-1), .int (-1)])), (h1, .inr (9, [.ref h16, .int 0, .int 0, .int 0, .int 0, .int 0, .int 0, .ref (ad 25), .long 0, .int 0, .long 0, .int 0, .int 0, .int 0, .int 0]))] [] sz ad)) (va_Qi (fun (r : Int32) (_ : Unit) => r = 0) (fun (_ : Unit) (t : State) => CQ (dC, dI) [] [] (va_A [(h0, .inr (10, [.ref h1, .ref h2, .ref h3, .ref h4, .ref h5, .ref h6, .ref h7, .ref h8, .ref h9, .ref h10, .ref h11, .ref h12, .ref h13, .ref h14, .ref h15, .int (-1), .int 0, .int (-1), .int (-1)])), (h1, .inr (9, [.ref h16, .int 0, .int 0, .int 0, .int 0, .int 0, .int 0, .ref (ad 25), .long 0, .int 0, .long 0, .int 0, .int 0, .int 0, .int 0]))] sz) t) (va_A [(h0, .inr (10, [.ref h1, .ref h2, .ref h3, .ref h4, .ref h5, .ref h6, .ref h7, .ref h8, .ref h9, .ref h10, .ref h11, .ref h12, .ref h13, .ref h14, .ref h15, .int (-1), .int 0, .int (-1), .int (-1)])), (h1, .inr (9, [.ref h16, .int 0, .int 0, .int 0, .int 0, .int 0, .int 0, .ref (ad 25), .long 0, .int 0, .long 0, .int 0, .int 0, .int 0, .int 0]))] sz)) 0 0 (va_A [(h0, .inr (10, [.ref h1, .ref h2, .ref h3, .ref h4, .ref h5, .ref h6, .ref h7, .ref h8, .ref h9, .ref h10, .ref h11, .ref h12, .ref h13, .ref h14, .ref h15, .int (-1), .int 0, .int (-1), .int (-1)])), (h1, .inr (9, [.ref h16, .int 0, .int 0, .int 0, .int 0, .int 0, .int 0, .ref (ad 25), .long 0, .int 0, .long 0, .int 0, .int 0, .int 0, .int 0]))] sz) := by
  refine Met.ofW (cc := cX11_count) (maxL := 2) (ret := (some .int)) (by decide) rfl ?_
  intro p e s m args below meth c s₁ B hml hv
  obtain ⟨rfl, hsz, hP, hK, hD0, hE⟩ := hv
  have hx := B.exec
  have hb := B.bytes
  have hr := B.returns
  have hts := atoms_spec (ws := wsX11_count) B.pre
  have hown : s.vm.findClass RX11 = some m.cls := findClass_of_methodNamed B.named
  have hlocks := B.notSynchronized
  subst hsz
  have hD := hD0.self (sz := s.heap.size)
  generalize hAe : va_A [(h0, .inr (10, [.ref h1, .ref h2, .ref h3, .ref h4, .ref h5, .ref h6, .ref h7, .ref h8, .ref h9, .ref h10, .ref h11, .ref h12, .ref h13, .ref h14, .ref h15, .int (-1), .int 0, .int (-1), .int (-1)])), (h1, .inr (9, [.ref h16, .int 0, .int 0, .int 0, .int 0, .int 0, .int 0, .ref (ad 25), .long 0, .int 0, .long 0, .int 0, .int 0, .int 0, .int 0]))] s.heap.size = A at hD hE ⊢
  have hA : ∀ q : Nat, s.heap.size ≤ q → A q := fun q h => by rw [← hAe]; exact Or.inr h
  have hS : va_S A s.heap s.heap [] := va_S.rf
  have hl := lv_entry ([.ref h0, .int 3]) (n := 2) (Nat.le_of_ble_eq_true rfl)
  rw [lg_entry_eq]
  generalize (lg_sl ([.ref h0, .int 3]) ++ List.replicate (2 - (lg_sl ([.ref h0, .int 3])).length) Slot.unset).toArray = ls at hl ⊢
  have hl : lv_has ls 2 [(0, .ref h0), (1, .int 3)] := hl
  refine lv_iload_n hx hb dX11_count_0 rfl (lv_at hl 1 rfl) ?_
  refine lv_tableIn (tgt := 56) hx hb dX11_count_1 (by decide) (by decide) rfl (by decide) ?_
  refine lv_aload_n hx hb dX11_count_56 rfl (lv_at hl 0 rfl) ?_
  refine va_get (D := (dC, dI)) (ci := 10) (v := .ref h1) (C := RX11) (T := TX11) (N := 19) hx hb hts ii_X11_count_X11 hown hK hP 0 rfl rfl 0 (by decide) (hts _ mm_X11_count_2) (fun _ h9 => h9) rfl dX11_count_57 ?_
  refine va_getN (host := "OffTheLead") (D := (dC, dI)) (ci := 9) (v := .int 0) (C := RX8) (T := TX8) (N := 15) hx hb hts ii_X11_count_X8 hown hK hP 1 rfl rfl 1 (by decide) (va_Nw.use rfl (nf_X11_100 hE)) (fun _ h9 => h9) rfl dX11_count_60 ?_
  have hP9 := hP.sub (ws' := []) [] rfl
  have hD9 := hD.sub (ws' := []) [] (by decide) rfl
  have hK9 := hK.sub (tys' := []) [] rfl
  refine W.widen (k := 0) (n := 0) (Nat.le_of_ble_eq_true rfl) (Nat.le_of_ble_eq_true rfl) ?_
  exact W.iret (v := 0) hx hb hr (fun t ht hW => ⟨⟨0, (), rfl, rfl, by rw [ht]; exact hP9, va_K.moved hW.alike hK9, hD9⟩, hS.F ht⟩) hS.2.2 dX11_count_63
set_option maxHeartbeats 4000000 in
set_option maxRecDepth 100000 in
theorem k_X11_count_4 (l : Launch) (dC : Nat → ClassId) (dI : Nat → Nat → Nat) (ad : Nat → Nat) (h0 : Nat) (p0 : Int32) (sz : Nat) (e0_0 : p0 < 0) : Met l yX11_count wsX11_count ({ frames := 0, cells := 0, slots := 0, locals := 0 }) (va_Pc [.ref h0, .int p0] (CP (dC, dI) [] [] sz ad)) (va_Qi (fun (r : Int32) (_ : Unit) => r = (-1)) (fun (_ : Unit) (t : State) => CQ (dC, dI) [] [] (va_A [] sz) t) (va_A [] sz)) 0 0 (va_A [] sz) := by
  refine Met.ofW (cc := cX11_count) (maxL := 2) (ret := (some .int)) (by decide) rfl ?_
  intro p e s m args below meth c s₁ B hml hv
  obtain ⟨rfl, hsz, hP, hK, hD0, hE⟩ := hv
  have hx := B.exec
  have hb := B.bytes
  have hr := B.returns
  have hts := atoms_spec (ws := wsX11_count) B.pre
  have hown : s.vm.findClass RX11 = some m.cls := findClass_of_methodNamed B.named
  have hlocks := B.notSynchronized
  subst hsz
  have hD := hD0.self (sz := s.heap.size)
  generalize hAe : va_A [] s.heap.size = A at hD hE ⊢
  have hA : ∀ q : Nat, s.heap.size ≤ q → A q := fun q h => by rw [← hAe]; exact Or.inr h
  have hS : va_S A s.heap s.heap [] := va_S.rf
  have hl := lv_entry ([.ref h0, .int p0]) (n := 2) (Nat.le_of_ble_eq_true rfl)
  rw [lg_entry_eq]
  generalize (lg_sl ([.ref h0, .int p0]) ++ List.replicate (2 - (lg_sl ([.ref h0, .int p0])).length) Slot.unset).toArray = ls at hl ⊢
  have hl : lv_has ls 2 [(0, .ref h0), (1, .int p0)] := hl
  refine lv_iload_n hx hb dX11_count_0 rfl (lv_at hl 1 rfl) ?_
  refine lv_tableOut (tgt := 64) hx hb dX11_count_1 (Or.inl (by clear hP hD hK hS hE; simp only [Int32.lt_iff_toInt_lt, Int32.le_iff_toInt_le, ← Int32.toInt_inj, Int32.reduceToInt] at e0_0; omega)) (by decide) ?_
  refine lv_iconst (v := (-1)) hx hb dX11_count_64 (by decide) ?_
  have hP9 := hP.sub (ws' := []) [] rfl
  have hD9 := hD.sub (ws' := []) [] (by decide) rfl
  have hK9 := hK.sub (tys' := []) [] rfl
  refine W.widen (k := 0) (n := 0) (Nat.le_of_ble_eq_true rfl) (Nat.le_of_ble_eq_true rfl) ?_
  exact W.iret (v := (-1)) hx hb hr (fun t ht hW => ⟨⟨(-1), (), rfl, rfl, by rw [ht]; exact hP9, va_K.moved hW.alike hK9, hD9⟩, hS.F ht⟩) hS.2.2 dX11_count_65
set_option maxHeartbeats 4000000 in
set_option maxRecDepth 100000 in
theorem k_X11_count_5 (l : Launch) (dC : Nat → ClassId) (dI : Nat → Nat → Nat) (ad : Nat → Nat) (h0 : Nat) (p0 : Int32) (sz : Nat) (e0_0 : 3 < p0) : Met l yX11_count wsX11_count ({ frames := 0, cells := 0, slots := 0, locals := 0 }) (va_Pc [.ref h0, .int p0] (CP (dC, dI) [] [] sz ad)) (va_Qi (fun (r : Int32) (_ : Unit) => r = (-1)) (fun (_ : Unit) (t : State) => CQ (dC, dI) [] [] (va_A [] sz) t) (va_A [] sz)) 0 0 (va_A [] sz) := by
  refine Met.ofW (cc := cX11_count) (maxL := 2) (ret := (some .int)) (by decide) rfl ?_
  intro p e s m args below meth c s₁ B hml hv
  obtain ⟨rfl, hsz, hP, hK, hD0, hE⟩ := hv
  have hx := B.exec
  have hb := B.bytes
  have hr := B.returns
  have hts := atoms_spec (ws := wsX11_count) B.pre
  have hown : s.vm.findClass RX11 = some m.cls := findClass_of_methodNamed B.named
  have hlocks := B.notSynchronized
  subst hsz
  have hD := hD0.self (sz := s.heap.size)
  generalize hAe : va_A [] s.heap.size = A at hD hE ⊢
  have hA : ∀ q : Nat, s.heap.size ≤ q → A q := fun q h => by rw [← hAe]; exact Or.inr h
  have hS : va_S A s.heap s.heap [] := va_S.rf
  have hl := lv_entry ([.ref h0, .int p0]) (n := 2) (Nat.le_of_ble_eq_true rfl)
  rw [lg_entry_eq]
  generalize (lg_sl ([.ref h0, .int p0]) ++ List.replicate (2 - (lg_sl ([.ref h0, .int p0])).length) Slot.unset).toArray = ls at hl ⊢
  have hl : lv_has ls 2 [(0, .ref h0), (1, .int p0)] := hl
  refine lv_iload_n hx hb dX11_count_0 rfl (lv_at hl 1 rfl) ?_
  refine lv_tableOut (tgt := 64) hx hb dX11_count_1 (Or.inr (by clear hP hD hK hS hE; simp only [Int32.lt_iff_toInt_lt, Int32.le_iff_toInt_le, ← Int32.toInt_inj, Int32.reduceToInt] at e0_0; omega)) (by decide) ?_
  refine lv_iconst (v := (-1)) hx hb dX11_count_64 (by decide) ?_
  have hP9 := hP.sub (ws' := []) [] rfl
  have hD9 := hD.sub (ws' := []) [] (by decide) rfl
  have hK9 := hK.sub (tys' := []) [] rfl
  refine W.widen (k := 0) (n := 0) (Nat.le_of_ble_eq_true rfl) (Nat.le_of_ble_eq_true rfl) ?_
  exact W.iret (v := (-1)) hx hb hr (fun t ht hW => ⟨⟨(-1), (), rfl, rfl, by rw [ht]; exact hP9, va_K.moved hW.alike hK9, hD9⟩, hS.F ht⟩) hS.2.2 dX11_count_65
