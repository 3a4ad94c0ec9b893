set_option maxHeartbeats 4000000 in
set_option maxRecDepth 100000 in
theorem k_X11_told (l : Launch) (dC : Nat → ClassId) (dI : Nat → Nat → Nat) (ad : Nat → Nat) (h0 h1 h2 h3 h4 h5 h6 h7 h8 h9 h10 h11 h12 h13 h14 h15 : Nat) (w0 : ClassId) (sz : Nat) : Met l yX11_told wsX11_told ({ frames := 0, cells := 0, slots := 0, locals := 0 }) (va_Pc [.ref h0, .int 0] (CP (dC, dI) [(h0, .inr (10, [.ref h1, .ref h2, .ref h3, .ref h4, .ref h5, .ref h6, .ref h7, .ref h8, .ref h9, .ref h10, .ref h11, .ref h12, .ref h13, .ref h14, .ref h15, .int (-1), .int 0, .int (-1), .int (-1)])), (h14, .inl (w0, 4, .inl (upd (upd (upd (upd (fun _ => 0) 0 (-1)) 1 (-1)) 2 (-1)) 3 (-1))))] [(w0, .int)] sz ad)) (va_Qi (fun (r : Int32) (_ : Unit) => r = (-1)) (fun (_ : Unit) (t : State) => CQ (dC, dI) [] [] (va_A [(h0, .inr (10, [.ref h1, .ref h2, .ref h3, .ref h4, .ref h5, .ref h6, .ref h7, .ref h8, .ref h9, .ref h10, .ref h11, .ref h12, .ref h13, .ref h14, .ref h15, .int (-1), .int 0, .int (-1), .int (-1)])), (h14, .inl (w0, 4, .inl (upd (upd (upd (upd (fun _ => 0) 0 (-1)) 1 (-1)) 2 (-1)) 3 (-1))))] sz) t) (va_A [(h0, .inr (10, [.ref h1, .ref h2, .ref h3, .ref h4, .ref h5, .ref h6, .ref h7, .ref h8, .ref h9, .ref h10, .ref h11, .ref h12, .ref h13, .ref h14, .ref h15, .int (-1), .int 0, .int (-1), .int (-1)])), (h14, .inl (w0, 4, .inl (upd (upd (upd (upd (fun _ => 0) 0 (-1)) 1 (-1)) 2 (-1)) 3 (-1))))] sz)) 0 0 (va_A [(h0, .inr (10, [.ref h1, .ref h2, .ref h3, .ref h4, .ref h5, .ref h6, .ref h7, .ref h8, .ref h9, .ref h10, .ref h11, .ref h12, .ref h13, .ref h14, .ref h15, .int (-1), .int 0, .int (-1), .int (-1)])), (h14, .inl (w0, 4, .inl (upd (upd (upd (upd (fun _ => 0) 0 (-1)) 1 (-1)) 2 (-1)) 3 (-1))))] sz) := by
  refine Met.ofW (cc := cX11_told) (maxL := 2) (ret := (some .int)) (by decide) rfl ?_
  intro p e s m args below meth c s₁ B hml hv
  obtain ⟨rfl, hsz, hP, hK, hD0, hE⟩ := hv
  have hx := B.exec
  have hb := B.bytes
  have hr := B.returns
  have hts := atoms_spec (ws := wsX11_told) B.pre
  have hown : s.vm.findClass RX11 = some m.cls := findClass_of_methodNamed B.named
  have hlocks := B.notSynchronized
  subst hsz
  have hD := hD0.self (sz := s.heap.size)
  generalize hAe : va_A [(h0, .inr (10, [.ref h1, .ref h2, .ref h3, .ref h4, .ref h5, .ref h6, .ref h7, .ref h8, .ref h9, .ref h10, .ref h11, .ref h12, .ref h13, .ref h14, .ref h15, .int (-1), .int 0, .int (-1), .int (-1)])), (h14, .inl (w0, 4, .inl (upd (upd (upd (upd (fun _ => 0) 0 (-1)) 1 (-1)) 2 (-1)) 3 (-1))))] s.heap.size = A at hD hE ⊢
  have hA : ∀ q : Nat, s.heap.size ≤ q → A q := fun q h => by rw [← hAe]; exact Or.inr h
  have hS : va_S A s.heap s.heap [] := va_S.rf
  have hl := lv_entry ([.ref h0, .int 0]) (n := 2) (Nat.le_of_ble_eq_true rfl)
  rw [lg_entry_eq]
  generalize (lg_sl ([.ref h0, .int 0]) ++ List.replicate (2 - (lg_sl ([.ref h0, .int 0])).length) Slot.unset).toArray = ls at hl ⊢
  have hl : lv_has ls 2 [(0, .ref h0), (1, .int 0)] := hl
  refine lv_iload_n hx hb dX11_told_0 rfl (lv_at hl 1 rfl) ?_
  refine lv_if_lt (tgt := 18) hx hb dX11_told_1 (by decide) (fun c1 => absurd c1 (by decide)) (fun _ => ?_)
  refine lv_iload_n hx hb dX11_told_4 rfl (lv_at hl 1 rfl) ?_
  refine lv_iconst (v := 4) hx hb dX11_told_5 (by decide) ?_
  refine lv_icmp_ge (tgt := 18) hx hb dX11_told_6 (by decide) (fun c2 => absurd c2 (by decide)) (fun _ => ?_)
  refine lv_aload_n hx hb dX11_told_9 rfl (lv_at hl 0 rfl) ?_
  refine va_get (D := (dC, dI)) (ci := 10) (v := .ref h14) (C := RX11) (T := TX11) (N := 19) hx hb hts ii_X11_told_X11 hown hK hP 0 rfl rfl 13 (by decide) (hts _ mm_X11_told_1) (fun _ h9 => h9) rfl dX11_told_10 ?_
  refine lv_iload_n hx hb dX11_told_13 rfl (lv_at hl 1 rfl) ?_
  refine va_iald hx hb hK hP 1 0 rfl rfl (i := 0) (zz_in (by decide)) dX11_told_14 ?_
  refine zz_top (v := (-1)) (by rfl) ?_
  refine lv_goto (tgt := 19) hx hb dX11_told_15 (by decide) ?_
  have hP9 := hP.sub (ws' := []) [] rfl
  have hD9 := hD.sub (ws' := []) [] (by decide) rfl
  have hK9 := hK.sub (tys' := []) [] rfl
  refine W.widen (k := 0) (n := 0) (Nat.le_of_ble_eq_true rfl) (Nat.le_of_ble_eq_true rfl) ?_
  exact W.iret (v := (-1)) hx hb hr (fun t ht hW => ⟨⟨(-1), (), rfl, rfl, by rw [ht]; exact hP9, va_K.moved hW.alike hK9, hD9⟩, hS.F ht⟩) hS.2.2 dX11_told_19
set_option maxHeartbeats 4000000 in
set_option maxRecDepth 100000 in
theorem k_X11_told_1 (l : Launch) (dC : Nat → ClassId) (dI : Nat → Nat → Nat) (ad : Nat → Nat) (h0 h1 h2 h3 h4 h5 h6 h7 h8 h9 h10 h11 h12 h13 h14 h15 : Nat) (w0 : ClassId) (sz : Nat) : Met l yX11_told wsX11_told ({ frames := 0, cells := 0, slots := 0, locals := 0 }) (va_Pc [.ref h0, .int 1] (CP (dC, dI) [(h0, .inr (10, [.ref h1, .ref h2, .ref h3, .ref h4, .ref h5, .ref h6, .ref h7, .ref h8, .ref h9, .ref h10, .ref h11, .ref h12, .ref h13, .ref h14, .ref h15, .int (-1), .int 0, .int (-1), .int (-1)])), (h14, .inl (w0, 4, .inl (upd (upd (upd (upd (fun _ => 0) 0 (-1)) 1 (-1)) 2 (-1)) 3 (-1))))] [(w0, .int)] sz ad)) (va_Qi (fun (r : Int32) (_ : Unit) => r = (-1)) (fun (_ : Unit) (t : State) => CQ (dC, dI) [] [] (va_A [(h0, .inr (10, [.ref h1, .ref h2, .ref h3, .ref h4, .ref h5, .ref h6, .ref h7, .ref h8, .ref h9, .ref h10, .ref h11, .ref h12, .ref h13, .ref h14, .ref h15, .int (-1), .int 0, .int (-1), .int (-1)])), (h14, .inl (w0, 4, .inl (upd (upd (upd (upd (fun _ => 0) 0 (-1)) 1 (-1)) 2 (-1)) 3 (-1))))] sz) t) (va_A [(h0, .inr (10, [.ref h1, .ref h2, .ref h3, .ref h4, .ref h5, .ref h6, .ref h7, .ref h8, .ref h9, .ref h10, .ref h11, .ref h12, .ref h13, .ref h14, .ref h15, .int (-1), .int 0, .int (-1), .int (-1)])), (h14, .inl (w0, 4, .inl (upd (upd (upd (upd (fun _ => 0) 0 (-1)) 1 (-1)) 2 (-1)) 3 (-1))))] sz)) 0 0 (va_A [(h0, .inr (10, [.ref h1, .ref h2, .ref h3, .ref h4, .ref h5, .ref h6, .ref h7, .ref h8, .ref h9, .ref h10, .ref h11, .ref h12, .ref h13, .ref h14, .ref h15, .int (-1), .int 0, .int (-1), .int (-1)])), (h14, .inl (w0, 4, .inl (upd (upd (upd (upd (fun _ => 0) 0 (-1)) 1 (-1)) 2 (-1)) 3 (-1))))] sz) := by
  refine Met.ofW (cc := cX11_told) (maxL := 2) (ret := (some .int)) (by decide) rfl ?_
  intro p e s m args below meth c s₁ B hml hv
  obtain ⟨rfl, hsz, hP, hK, hD0, hE⟩ := hv
  have hx := B.exec
  have hb := B.bytes
  have hr := B.returns
  have hts := atoms_spec (ws := wsX11_told) B.pre
  have hown : s.vm.findClass RX11 = some m.cls := findClass_of_methodNamed B.named
  have hlocks := B.notSynchronized
  subst hsz
  have hD := hD0.self (sz := s.heap.size)
  generalize hAe : va_A [(h0, .inr (10, [.ref h1, .ref h2, .ref h3, .ref h4, .ref h5, .ref h6, .ref h7, .ref h8, .ref h9, .ref h10, .ref h11, .ref h12, .ref h13, .ref h14, .ref h15, .int (-1), .int 0, .int (-1), .int (-1)])), (h14, .inl (w0, 4, .inl (upd (upd (upd (upd (fun _ => 0) 0 (-1)) 1 (-1)) 2 (-1)) 3 (-1))))] s.heap.size = A at hD hE ⊢
  have hA : ∀ q : Nat, s.heap.size ≤ q → A q := fun q h => by rw [← hAe]; exact Or.inr h
  have hS : va_S A s.heap s.heap [] := va_S.rf
  have hl := lv_entry ([.ref h0, .int 1]) (n := 2) (Nat.le_of_ble_eq_true rfl)
  rw [lg_entry_eq]
  generalize (lg_sl ([.ref h0, .int 1]) ++ List.replicate (2 - (lg_sl ([.ref h0, .int 1])).length) Slot.unset).toArray = ls at hl ⊢
  have hl : lv_has ls 2 [(0, .ref h0), (1, .int 1)] := hl
  refine lv_iload_n hx hb dX11_told_0 rfl (lv_at hl 1 rfl) ?_
  refine lv_if_lt (tgt := 18) hx hb dX11_told_1 (by decide) (fun c1 => absurd c1 (by decide)) (fun _ => ?_)
  refine lv_iload_n hx hb dX11_told_4 rfl (lv_at hl 1 rfl) ?_
  refine lv_iconst (v := 4) hx hb dX11_told_5 (by decide) ?_
  refine lv_icmp_ge (tgt := 18) hx hb dX11_told_6 (by decide) (fun c2 => absurd c2 (by decide)) (fun _ => ?_)
  refine lv_aload_n hx hb dX11_told_9 rfl (lv_at hl 0 rfl) ?_
  refine va_get (D := (dC, dI)) (ci := 10) (v := .ref h14) (C := RX11) (T := TX11) (N := 19) hx hb hts ii_X11_told_X11 hown hK hP 0 rfl rfl 13 (by decide) (hts _ mm_X11_told_1) (fun _ h9 => h9) rfl dX11_told_10 ?_
  refine lv_iload_n hx hb dX11_told_13 rfl (lv_at hl 1 rfl) ?_
  refine va_iald hx hb hK hP 1 0 rfl rfl (i := 1) (zz_in (by decide)) dX11_told_14 ?_
  refine zz_top (v := (-1)) (by rfl) ?_
  refine lv_goto (tgt := 19) hx hb dX11_told_15 (by decide) ?_
  have hP9 := hP.sub (ws' := []) [] rfl
  have hD9 := hD.sub (ws' := []) [] (by decide) rfl
  have hK9 := hK.sub (tys' := []) [] rfl
  refine W.widen (k := 0) (n := 0) (Nat.le_of_ble_eq_true rfl) (Nat.le_of_ble_eq_true rfl) ?_
  exact W.iret (v := (-1)) hx hb hr (fun t ht hW => ⟨⟨(-1), (), rfl, rfl, by rw [ht]; exact hP9, va_K.moved hW.alike hK9, hD9⟩, hS.F ht⟩) hS.2.2 dX11_told_19
set_option maxHeartbeats 4000000 in
set_option maxRecDepth 100000 in
theorem k_X11_told_2 (l : Launch) (dC : Nat → ClassId) (dI : Nat → Nat → Nat) (ad : Nat → Nat) (h0 h1 h2 h3 h4 h5 h6 h7 h8 h9 h10 h11 h12 h13 h14 h15 : Nat) (w0 : ClassId) (sz : Nat) : Met l yX11_told wsX11_told ({ frames := 0, cells := 0, slots := 0, locals := 0 }) (va_Pc [.ref h0, .int 2] (CP (dC, dI) [(h0, .inr (10, [.ref h1, .ref h2, .ref h3, .ref h4, .ref h5, .ref h6, .ref h7, .ref h8, .ref h9, .ref h10, .ref h11, .ref h12, .ref h13, .ref h14, .ref h15, .int (-1), .int 0, .int (-1), .int (-1)])), (h14, .inl (w0, 4, .inl (upd (upd (upd (upd (fun _ => 0) 0 (-1)) 1 (-1)) 2 (-1)) 3 (-1))))] [(w0, .int)] sz ad)) (va_Qi (fun (r : Int32) (_ : Unit) => r = (-1)) (fun (_ : Unit) (t : State) => CQ (dC, dI) [] [] (va_A [(h0, .inr (10, [.ref h1, .ref h2, .ref h3, .ref h4, .ref h5, .ref h6, .ref h7, .ref h8, .ref h9, .ref h10, .ref h11, .ref h12, .ref h13, .ref h14, .ref h15, .int (-1), .int 0, .int (-1), .int (-1)])), (h14, .inl (w0, 4, .inl (upd (upd (upd (upd (fun _ => 0) 0 (-1)) 1 (-1)) 2 (-1)) 3 (-1))))] sz) t) (va_A [(h0, .inr (10, [.ref h1, .ref h2, .ref h3, .ref h4, .ref h5, .ref h6, .ref h7, .ref h8, .ref h9, .ref h10, .ref h11, .ref h12, .ref h13, .ref h14, .ref h15, .int (-1), .int 0, .int (-1), .int (-1)])), (h14, .inl (w0, 4, .inl (upd (upd (upd (upd (fun _ => 0) 0 (-1)) 1 (-1)) 2 (-1)) 3 (-1))))] sz)) 0 0 (va_A [(h0, .inr (10, [.ref h1, .ref h2, .ref h3, .ref h4, .ref h5, .ref h6, .ref h7, .ref h8, .ref h9, .ref h10, .ref h11, .ref h12, .ref h13, .ref h14, .ref h15, .int (-1), .int 0, .int (-1), .int (-1)])), (h14, .inl (w0, 4, .inl (upd (upd (upd (upd (fun _ => 0) 0 (-1)) 1 (-1)) 2 (-1)) 3 (-1))))] sz) := by
  refine Met.ofW (cc := cX11_told) (maxL := 2) (ret := (some .int)) (by decide) rfl ?_
  intro p e s m args below meth c s₁ B hml hv
  obtain ⟨rfl, hsz, hP, hK, hD0, hE⟩ := hv
  have hx := B.exec
  have hb := B.bytes
  have hr := B.returns
  have hts := atoms_spec (ws := wsX11_told) B.pre
  have hown : s.vm.findClass RX11 = some m.cls := findClass_of_methodNamed B.named
  have hlocks := B.notSynchronized
  subst hsz
  have hD := hD0.self (sz := s.heap.size)
  generalize hAe : va_A [(h0, .inr (10, [.ref h1, .ref h2, .ref h3, .ref h4, .ref h5, .ref h6, .ref h7, .ref h8, .ref h9, .ref h10, .ref h11, .ref h12, .ref h13, .ref h14, .ref h15, .int (-1), .int 0, .int (-1), .int (-1)])), (h14, .inl (w0, 4, .inl (upd (upd (upd (upd (fun _ => 0) 0 (-1)) 1 (-1)) 2 (-1)) 3 (-1))))] s.heap.size = A at hD hE ⊢
  have hA : ∀ q : Nat, s.heap.size ≤ q → A q := fun q h => by rw [← hAe]; exact Or.inr h
  have hS : va_S A s.heap s.heap [] := va_S.rf
  have hl := lv_entry ([.ref h0, .int 2]) (n := 2) (Nat.le_of_ble_eq_true rfl)
  rw [lg_entry_eq]
  generalize (lg_sl ([.ref h0, .int 2]) ++ List.replicate (2 - (lg_sl ([.ref h0, .int 2])).length) Slot.unset).toArray = ls at hl ⊢
  have hl : lv_has ls 2 [(0, .ref h0), (1, .int 2)] := hl
  refine lv_iload_n hx hb dX11_told_0 rfl (lv_at hl 1 rfl) ?_
  refine lv_if_lt (tgt := 18) hx hb dX11_told_1 (by decide) (fun c1 => absurd c1 (by decide)) (fun _ => ?_)
  refine lv_iload_n hx hb dX11_told_4 rfl (lv_at hl 1 rfl) ?_
  refine lv_iconst (v := 4) hx hb dX11_told_5 (by decide) ?_
  refine lv_icmp_ge (tgt := 18) hx hb dX11_told_6 (by decide) (fun c2 => absurd c2 (by decide)) (fun _ => ?_)
  refine lv_aload_n hx hb dX11_told_9 rfl (lv_at hl 0 rfl) ?_
  refine va_get (D := (dC, dI)) (ci := 10) (v := .ref h14) (C := RX11) (T := TX11) (N := 19) hx hb hts ii_X11_told_X11 hown hK hP 0 rfl rfl 13 (by decide) (hts _ mm_X11_told_1) (fun _ h9 => h9) rfl dX11_told_10 ?_
  refine lv_iload_n hx hb dX11_told_13 rfl (lv_at hl 1 rfl) ?_
  refine va_iald hx hb hK hP 1 0 rfl rfl (i := 2) (zz_in (by decide)) dX11_told_14 ?_
  refine zz_top (v := (-1)) (by rfl) ?_
  refine lv_goto (tgt := 19) hx hb dX11_told_15 (by decide) ?_
  have hP9 := hP.sub (ws' := []) [] rfl
  have hD9 := hD.sub (ws' := []) [] (by decide) rfl
  have hK9 := hK.sub (tys' := []) [] rfl
  refine W.widen (k := 0) (n := 0) (Nat.le_of_ble_eq_true rfl) (Nat.le_of_ble_eq_true rfl) ?_
  exact W.iret (v := (-1)) hx hb hr (fun t ht hW => ⟨⟨(-1), (), rfl, rfl, by rw [ht]; exact hP9, va_K.moved hW.alike hK9, hD9⟩, hS.F ht⟩) hS.2.2 dX11_told_19
set_option maxHeartbeats 4000000 in
set_option maxRecDepth 100000 in
theorem k_X11_told_3 (l : Launch) (dC : Nat → ClassId) (dI : Nat → Nat → Nat) (ad : Nat → Nat) (h0 h1 h2 h3 h4 h5 h6 h7 h8 h9 h10 h11 h12 h13 h14 h15 : Nat) (w0 : ClassId) (sz : Nat) : Met l yX11_told wsX11_told ({ frames := 0, cells := 0, slots := 0, locals := 0 }) (va_Pc [.ref h0, .int 3] (CP (dC, dI) [(h0, .inr (10, [.ref h1, .ref h2, .ref h3, .ref h4, .ref h5, .ref h6, .ref h7, .ref h8, .ref h9, .ref h10, .ref h11, .ref h12, .ref h13, .ref h14, .ref h15, .int (-1), .int 0, .int (-1), .int (-1)])), (h14, .inl (w0, 4, .inl (upd (upd (upd (upd (fun _ => 0) 0 (-1)) 1 (-1)) 2 (-1)) 3 (-1))))] [(w0, .int)] sz ad)) (va_Qi (fun (r : Int32) (_ : Unit) => r = (-1)) (fun (_ : Unit) (t : State) => CQ (dC, dI) [] [] (va_A [(h0, .inr (10, [.ref h1, .ref h2, .ref h3, .ref h4, .ref h5, .ref h6, .ref h7, .ref h8, .ref h9, .ref h10, .ref h11, .ref h12, .ref h13, .ref h14, .ref h15, .int (-1), .int 0, .int (-1), .int (-1)])), (h14, .inl (w0, 4, .inl (upd (upd (upd (upd (fun _ => 0) 0 (-1)) 1 (-1)) 2 (-1)) 3 (-1))))] sz) t) (va_A [(h0, .inr (10, [.ref h1, .ref h2, .ref h3, .ref h4, .ref h5, .ref h6, .ref h7, .ref h8, .ref h9, .ref h10, .ref h11, .ref h12, .ref h13, .ref h14, .ref h15, .int (-1), .int 0, .int (-1), .int (-1)])), (h14, .inl (w0, 4, .inl (upd (upd (upd (upd (fun _ => 0) 0 (-1)) 1 (-1)) 2 (-1)) 3 (-1))))] sz)) 0 0 (va_A [(h0, .inr (10, [.ref h1, .ref h2, .ref h3, .ref h4, .ref h5, .ref h6, .ref h7, .ref h8, .ref h9, .ref h10, .ref h11, .ref h12, .ref h13, .ref h14, .ref h15, .int (-1), .int 0, .int (-1), .int (-1)])), (h14, .inl (w0, 4, .inl (upd (upd (upd (upd (fun _ => 0) 0 (-1)) 1 (-1)) 2 (-1)) 3 (-1))))] sz) := by
  refine Met.ofW (cc := cX11_told) (maxL := 2) (ret := (some .int)) (by decide) rfl ?_
  intro p e s m args below meth c s₁ B hml hv
  obtain ⟨rfl, hsz, hP, hK, hD0, hE⟩ := hv
  have hx := B.exec
  have hb := B.bytes
  have hr := B.returns
  have hts := atoms_spec (ws := wsX11_told) B.pre
  have hown : s.vm.findClass RX11 = some m.cls := findClass_of_methodNamed B.named
  have hlocks := B.notSynchronized
  subst hsz
  have hD := hD0.self (sz := s.heap.size)
  generalize hAe : va_A [(h0, .inr (10, [.ref h1, .ref h2, .ref h3, .ref h4, .ref h5, .ref h6, .ref h7, .ref h8, .ref h9, .ref h10, .ref h11, .ref h12, .ref h13, .ref h14, .ref h15, .int (-1), .int 0, .int (-1), .int (-1)])), (h14, .inl (w0, 4, .inl (upd (upd (upd (upd (fun _ => 0) 0 (-1)) 1 (-1)) 2 (-1)) 3 (-1))))] s.heap.size = A at hD hE ⊢
  have hA : ∀ q : Nat, s.heap.size ≤ q → A q := fun q h => by rw [← hAe]; exact Or.inr h
  have hS : va_S A s.heap s.heap [] := va_S.rf
  have hl := lv_entry ([.ref h0, .int 3]) (n := 2) (Nat.le_of_ble_eq_true rfl)
  rw [lg_entry_eq]
  generalize (lg_sl ([.ref h0, .int 3]) ++ List.replicate (2 - (lg_sl ([.ref h0, .int 3])).length) Slot.unset).toArray = ls at hl ⊢
  have hl : lv_has ls 2 [(0, .ref h0), (1, .int 3)] := hl
  refine lv_iload_n hx hb dX11_told_0 rfl (lv_at hl 1 rfl) ?_
  refine lv_if_lt (tgt := 18) hx hb dX11_told_1 (by decide) (fun c1 => absurd c1 (by decide)) (fun _ => ?_)
  refine lv_iload_n hx hb dX11_told_4 rfl (lv_at hl 1 rfl) ?_
  refine lv_iconst (v := 4) hx hb dX11_told_5 (by decide) ?_
  refine lv_icmp_ge (tgt := 18) hx hb dX11_told_6 (by decide) (fun c2 => absurd c2 (by decide)) (fun _ => ?_)
  refine lv_aload_n hx hb dX11_told_9 rfl (lv_at hl 0 rfl) ?_
  refine va_get (D := (dC, dI)) (ci := 10) (v := .ref h14) (C := RX11) (T := TX11) (N := 19) hx hb hts ii_X11_told_X11 hown hK hP 0 rfl rfl 13 (by decide) (hts _ mm_X11_told_1) (fun _ h9 => h9) rfl dX11_told_10 ?_
  refine lv_iload_n hx hb dX11_told_13 rfl (lv_at hl 1 rfl) ?_
  refine va_iald hx hb hK hP 1 0 rfl rfl (i := 3) (zz_in (by decide)) dX11_told_14 ?_
  refine zz_top (v := (-1)) (by rfl) ?_
  refine lv_goto (tgt := 19) hx hb dX11_told_15 (by decide) ?_
  have hP9 := hP.sub (ws' := []) [] rfl
  have hD9 := hD.sub (ws' := []) [] (by decide) rfl
  have hK9 := hK.sub (tys' := []) [] rfl
  refine W.widen (k := 0) (n := 0) (Nat.le_of_ble_eq_true rfl) (Nat.le_of_ble_eq_true rfl) ?_
  exact W.iret (v := (-1)) hx hb hr (fun t ht hW => ⟨⟨(-1), (), rfl, rfl, by rw [ht]; exact hP9, va_K.moved hW.alike hK9, hD9⟩, hS.F ht⟩) hS.2.2 dX11_told_19
set_option maxHeartbeats 4000000 in
set_option maxRecDepth 100000 in
theorem k_X11_told_4 (l : Launch) (dC : Nat → ClassId) (dI : Nat → Nat → Nat) (ad : Nat → Nat) (h0 : Nat) (p0 : Int32) (sz : Nat) (e0_0 : p0 < 0) : Met l yX11_told wsX11_told ({ frames := 0, cells := 0, slots := 0, locals := 0 }) (va_Pc [.ref h0, .int p0] (CP (dC, dI) [] [] sz ad)) (va_Qi (fun (r : Int32) (_ : Unit) => r = (-1)) (fun (_ : Unit) (t : State) => CQ (dC, dI) [] [] (va_A [] sz) t) (va_A [] sz)) 0 0 (va_A [] sz) := by
  refine Met.ofW (cc := cX11_told) (maxL := 2) (ret := (some .int)) (by decide) rfl ?_
  intro p e s m args below meth c s₁ B hml hv
  obtain ⟨rfl, hsz, hP, hK, hD0, hE⟩ := hv
  have hx := B.exec
  have hb := B.bytes
  have hr := B.returns
  have hts := atoms_spec (ws := wsX11_told) B.pre
  have hown : s.vm.findClass RX11 = some m.cls := findClass_of_methodNamed B.named
  have hlocks := B.notSynchronized
  subst hsz
  have hD := hD0.self (sz := s.heap.size)
  generalize hAe : va_A [] s.heap.size = A at hD hE ⊢
  have hA : ∀ q : Nat, s.heap.size ≤ q → A q := fun q h => by rw [← hAe]; exact Or.inr h
  have hS : va_S A s.heap s.heap [] := va_S.rf
  have hl := lv_entry ([.ref h0, .int p0]) (n := 2) (Nat.le_of_ble_eq_true rfl)
  rw [lg_entry_eq]
  generalize (lg_sl ([.ref h0, .int p0]) ++ List.replicate (2 - (lg_sl ([.ref h0, .int p0])).length) Slot.unset).toArray = ls at hl ⊢
  have hl : lv_has ls 2 [(0, .ref h0), (1, .int p0)] := hl
  refine lv_iload_n hx hb dX11_told_0 rfl (lv_at hl 1 rfl) ?_
  refine lv_if_lt (tgt := 18) hx hb dX11_told_1 (by decide) (fun _ => ?_) (fun c1 => ?_)
  rotate_left
  · exfalso; clear hP hD hK hS hE; simp only [Int32.lt_iff_toInt_lt, Int32.le_iff_toInt_le, ← Int32.toInt_inj, Int32.reduceToInt] at e0_0 c1; omega
  refine lv_iconst (v := (-1)) hx hb dX11_told_18 (by decide) ?_
  have hP9 := hP.sub (ws' := []) [] rfl
  have hD9 := hD.sub (ws' := []) [] (by decide) rfl
  have hK9 := hK.sub (tys' := []) [] rfl
  refine W.widen (k := 0) (n := 0) (Nat.le_of_ble_eq_true rfl) (Nat.le_of_ble_eq_true rfl) ?_
  exact W.iret (v := (-1)) hx hb hr (fun t ht hW => ⟨⟨(-1), (), rfl, rfl, by rw [ht]; exact hP9, va_K.moved hW.alike hK9, hD9⟩, hS.F ht⟩) hS.2.2 dX11_told_19
set_option maxHeartbeats 4000000 in
set_option maxRecDepth 100000 in
theorem k_X11_told_5 (l : Launch) (dC : Nat → ClassId) (dI : Nat → Nat → Nat) (ad : Nat → Nat) (h0 : Nat) (p0 : Int32) (sz : Nat) (e0_0 : 3 < p0) : Met l yX11_told wsX11_told ({ frames := 0, cells := 0, slots := 0, locals := 0 }) (va_Pc [.ref h0, .int p0] (CP (dC, dI) [] [] sz ad)) (va_Qi (fun (r : Int32) (_ : Unit) => r = (-1)) (fun (_ : Unit) (t : State) => CQ (dC, dI) [] [] (va_A [] sz) t) (va_A [] sz)) 0 0 (va_A [] sz) := by
  refine Met.ofW (cc := cX11_told) (maxL := 2) (ret := (some .int)) (by decide) rfl ?_
  intro p e s m args below meth c s₁ B hml hv
  obtain ⟨rfl, hsz, hP, hK, hD0, hE⟩ := hv
  have hx := B.exec
  have hb := B.bytes
  have hr := B.returns
  have hts := atoms_spec (ws := wsX11_told) B.pre
  have hown : s.vm.findClass RX11 = some m.cls := findClass_of_methodNamed B.named
  have hlocks := B.notSynchronized
  subst hsz
  have hD := hD0.self (sz := s.heap.size)
  generalize hAe : va_A [] s.heap.size = A at hD hE ⊢
  have hA : ∀ q : Nat, s.heap.size ≤ q → A q := fun q h => by rw [← hAe]; exact Or.inr h
  have hS : va_S A s.heap s.heap [] := va_S.rf
  have hl := lv_entry ([.ref h0, .int p0]) (n := 2) (Nat.le_of_ble_eq_true rfl)
  rw [lg_entry_eq]
  generalize (lg_sl ([.ref h0, .int p0]) ++ List.replicate (2 - (lg_sl ([.ref h0, .int p0])).length) Slot.unset).toArray = ls at hl ⊢
  have hl : lv_has ls 2 [(0, .ref h0), (1, .int p0)] := hl
  refine lv_iload_n hx hb dX11_told_0 rfl (lv_at hl 1 rfl) ?_
  refine lv_if_lt (tgt := 18) hx hb dX11_told_1 (by decide) (fun c1 => ?_) (fun _ => ?_)
  · exfalso; clear hP hD hK hS hE; simp only [Int32.lt_iff_toInt_lt, Int32.le_iff_toInt_le, ← Int32.toInt_inj, Int32.reduceToInt] at e0_0 c1; omega
  refine lv_iload_n hx hb dX11_told_4 rfl (lv_at hl 1 rfl) ?_
  refine lv_iconst (v := 4) hx hb dX11_told_5 (by decide) ?_
  refine lv_icmp_ge (tgt := 18) hx hb dX11_told_6 (by decide) (fun _ => ?_) (fun c2 => ?_)
  rotate_left
  · exfalso; clear hP hD hK hS hE; simp only [Int32.lt_iff_toInt_lt, Int32.le_iff_toInt_le, ← Int32.toInt_inj, Int32.reduceToInt] at e0_0 c2; omega
  refine lv_iconst (v := (-1)) hx hb dX11_told_18 (by decide) ?_
  have hP9 := hP.sub (ws' := []) [] rfl
  have hD9 := hD.sub (ws' := []) [] (by decide) rfl
  have hK9 := hK.sub (tys' := []) [] rfl
  refine W.widen (k := 0) (n := 0) (Nat.le_of_ble_eq_true rfl) (Nat.le_of_ble_eq_true rfl) ?_
  exact W.iret (v := (-1)) hx hb hr (fun t ht hW => ⟨⟨(-1), (), rfl, rfl, by rw [ht]; exact hP9, va_K.moved hW.alike hK9, hD9⟩, hS.F ht⟩) hS.2.2 dX11_told_19
set_option maxHeartbeats 4000000 in
set_option maxRecDepth 100000 in
theorem k_X8_step_2 (l : Launch) (dC : Nat → ClassId) (dI : Nat → Nat → Nat) (ad : Nat → Nat) (h0 h1 : Nat) (sz : Nat) : Met l yX8_step wsX8_step ({ frames := 0, cells := 0, slots := 0, locals := 0 }) (va_Pc [.ref h0] (CP (dC, dI) [(h0, .inr (9, [.ref h1, .int 0, .int 200, .int 0, .int 0, .int 0, .int 0, .ref (ad 25), .long 0, .int 0, .long 0, .int 0, .int 0, .int 0, .int 0]))] [] sz ad)) (va_Qv (fun _ : Unit => True) (fun (_ : Unit) (t : State) => CQ (dC, dI) [(h0, .inr (9, [.ref h1, .int 0, .int 200, .int 0, .int 3, .int 0, .int 0, .ref (ad 25), .long 0, .int 0, .long 0, .int 0, .int 0, .int 0, .int 0]))] [] (va_A [(h0, .inr (9, [.ref h1, .int 0, .int 200, .int 0, .int 0, .int 0, .int 0, .ref (ad 25), .long 0, .int 0, .long 0, .int 0, .int 0, .int 0, .int 0]))] sz) t) (va_A [(h0, .inr (9, [.ref h1, .int 0, .int 200, .int 0, .int 0, .int 0, .int 0, .ref (ad 25), .long 0, .int 0, .long 0, .int 0, .int 0, .int 0, .int 0]))] sz)) 0 0 (va_A [(h0, .inr (9, [.ref h1, .int 0, .int 200, .int 0, .int 0, .int 0, .int 0, .ref (ad 25), .long 0, .int 0, .long 0, .int 0, .int 0, .int 0, .int 0]))] sz) := by
  refine Met.ofW (cc := cX8_step) (maxL := 1) (ret := none) (by decide) rfl ?_
  intro p e s m args below meth c s₁ B hml hv
  obtain ⟨rfl, hsz, hP, hK, hD0, hE⟩ := hv
  have hx := B.exec
  have hb := B.bytes
  have hr := B.returns
  have hts := atoms_spec (ws := wsX8_step) B.pre
  have hown : s.vm.findClass RX8 = some m.cls := findClass_of_methodNamed B.named
  have hlocks := B.notSynchronized
  subst hsz
  have hD := hD0.self (sz := s.heap.size)
  generalize hAe : va_A [(h0, .inr (9, [.ref h1, .int 0, .int 200, .int 0, .int 0, .int 0, .int 0, .ref (ad 25), .long 0, .int 0, .long 0, .int 0, .int 0, .int 0, .int 0]))] s.heap.size = A at hD hE ⊢
  have hA : ∀ q : Nat, s.heap.size ≤ q → A q := fun q h => by rw [← hAe]; exact Or.inr h
  have hS : va_S A s.heap s.heap [] := va_S.rf
  have hl := lv_entry ([.ref h0]) (n := 1) (Nat.le_of_ble_eq_true rfl)
  rw [lg_entry_eq]
  generalize (lg_sl ([.ref h0]) ++ List.replicate (1 - (lg_sl ([.ref h0])).length) Slot.unset).toArray = ls at hl ⊢
  have hl : lv_has ls 1 [(0, .ref h0)] := hl
  refine lv_aload_n hx hb dX8_step_0 rfl (lv_at hl 0 rfl) ?_
  refine va_gets hx hb (EV.word hE (i := 25) (by decide)) hS hown (hts _ mm_X8_step_1) (fun _ h9 => h9) dX8_step_1 ?_
  refine va_put (D := (dC, dI)) (ci := 9) (v := .ref (ad 25)) (ty := .object "OffTheLead$Word") (C := RX8) (T := TX8) (N := 15) hx hb hts ii_X8_step_X8 tyX8 tyX8_ok nmX8 hown hK hP hD hS 0 rfl rfl 7 (by decide) (hts _ mm_X8_step_2) (fun _ h9 => h9) rfl (by decide +kernel) rfl rfl (Nat.le_of_ble_eq_true rfl) dX8_step_4 (fun H locs hP hD hS => ?_)
  have hP : va_P (dC, dI) vwCl [(h0, .inr (9, [.ref h1, .int 0, .int 200, .int 0, .int 0, .int 0, .int 0, .ref (ad 25), .long 0, .int 0, .long 0, .int 0, .int 0, .int 0, .int 0]))] H := hP
  have hD : va_D A [(h0, .inr (9, [.ref h1, .int 0, .int 200, .int 0, .int 0, .int 0, .int 0, .ref (ad 25), .long 0, .int 0, .long 0, .int 0, .int 0, .int 0, .int 0]))] := hD
  refine lv_aload_n hx hb dX8_step_7 rfl (lv_at hl 0 rfl) ?_
  refine va_get (D := (dC, dI)) (ci := 9) (v := .int 0) (C := RX8) (T := TX8) (N := 15) hx hb hts ii_X8_step_X8 hown hK hP 0 rfl rfl 3 (by decide) (hts _ mm_X8_step_3) (fun _ h9 => h9) rfl dX8_step_8 ?_
  refine lv_aload_n hx hb dX8_step_11 rfl (lv_at hl 0 rfl) ?_
  refine va_get (D := (dC, dI)) (ci := 9) (v := .int 0) (C := RX8) (T := TX8) (N := 15) hx hb hts ii_X8_step_X8 hown hK hP 0 rfl rfl 1 (by decide) (hts _ mm_X8_step_4) (fun _ h9 => h9) rfl dX8_step_12 ?_
  refine lv_icmp_ge (tgt := 59) hx hb dX8_step_15 (by decide) (fun _ => ?_) (fun c1 => absurd (by decide) c1)
  refine lv_aload_n hx hb dX8_step_59 rfl (lv_at hl 0 rfl) ?_
  refine lv_aload_n hx hb dX8_step_60 rfl (lv_at hl 0 rfl) ?_
  refine va_get (D := (dC, dI)) (ci := 9) (v := .int 0) (C := RX8) (T := TX8) (N := 15) hx hb hts ii_X8_step_X8 hown hK hP 0 rfl rfl 3 (by decide) (hts _ mm_X8_step_3) (fun _ h9 => h9) rfl dX8_step_61 ?_
  refine va_put (D := (dC, dI)) (ci := 9) (v := .int 0) (ty := .int) (C := RX8) (T := TX8) (N := 15) hx hb hts ii_X8_step_X8 tyX8 tyX8_ok nmX8 hown hK hP hD hS 0 rfl rfl 5 (by decide) (hts _ mm_X8_step_6) (fun _ h9 => h9) rfl (by decide +kernel) rfl rfl (Nat.le_of_ble_eq_true rfl) dX8_step_64 (fun H locs hP hD hS => ?_)
  have hP : va_P (dC, dI) vwCl [(h0, .inr (9, [.ref h1, .int 0, .int 200, .int 0, .int 0, .int 0, .int 0, .ref (ad 25), .long 0, .int 0, .long 0, .int 0, .int 0, .int 0, .int 0]))] H := hP
  have hD : va_D A [(h0, .inr (9, [.ref h1, .int 0, .int 200, .int 0, .int 0, .int 0, .int 0, .ref (ad 25), .long 0, .int 0, .long 0, .int 0, .int 0, .int 0, .int 0]))] := hD
  refine lv_aload_n hx hb dX8_step_67 rfl (lv_at hl 0 rfl) ?_
  refine va_get (D := (dC, dI)) (ci := 9) (v := .int 0) (C := RX8) (T := TX8) (N := 15) hx hb hts ii_X8_step_X8 hown hK hP 0 rfl rfl 1 (by decide) (hts _ mm_X8_step_4) (fun _ h9 => h9) rfl dX8_step_68 ?_
  refine lv_aload_n hx hb dX8_step_71 rfl (lv_at hl 0 rfl) ?_
  refine va_get (D := (dC, dI)) (ci := 9) (v := .int 200) (C := RX8) (T := TX8) (N := 15) hx hb hts ii_X8_step_X8 hown hK hP 0 rfl rfl 2 (by decide) (hts _ mm_X8_step_7) (fun _ h9 => h9) rfl dX8_step_72 ?_
  refine lv_icmp_le (tgt := 105) hx hb dX8_step_75 (by decide) (fun _ => ?_) (fun c2 => absurd (by decide) c2)
  refine lv_aload_n hx hb dX8_step_105 rfl (lv_at hl 0 rfl) ?_
  refine va_get (D := (dC, dI)) (ci := 9) (v := .int 0) (C := RX8) (T := TX8) (N := 15) hx hb hts ii_X8_step_X8 hown hK hP 0 rfl rfl 3 (by decide) (hts _ mm_X8_step_3) (fun _ h9 => h9) rfl dX8_step_106 ?_
  refine lv_aload_n hx hb dX8_step_109 rfl (lv_at hl 0 rfl) ?_
  refine va_get (D := (dC, dI)) (ci := 9) (v := .int 0) (C := RX8) (T := TX8) (N := 15) hx hb hts ii_X8_step_X8 hown hK hP 0 rfl rfl 1 (by decide) (hts _ mm_X8_step_4) (fun _ h9 => h9) rfl dX8_step_110 ?_
  refine lv_icmp_lt (tgt := 124) hx hb dX8_step_113 (by decide) (fun c3 => absurd c3 (by decide)) (fun _ => ?_)
  refine lv_aload_n hx hb dX8_step_116 rfl (lv_at hl 0 rfl) ?_
  refine lv_iconst (v := 3) hx hb dX8_step_117 (by decide) ?_
  refine va_put (D := (dC, dI)) (ci := 9) (v := .int 3) (ty := .int) (C := RX8) (T := TX8) (N := 15) hx hb hts ii_X8_step_X8 tyX8 tyX8_ok nmX8 hown hK hP hD hS 0 rfl rfl 4 (by decide) (hts _ mm_X8_step_8) (fun _ h9 => h9) rfl (by decide +kernel) rfl rfl (Nat.le_of_ble_eq_true rfl) dX8_step_118 (fun H locs hP hD hS => ?_)
  have hP : va_P (dC, dI) vwCl [(h0, .inr (9, [.ref h1, .int 0, .int 200, .int 0, .int 3, .int 0, .int 0, .ref (ad 25), .long 0, .int 0, .long 0, .int 0, .int 0, .int 0, .int 0]))] H := hP
  have hD : va_D A [(h0, .inr (9, [.ref h1, .int 0, .int 200, .int 0, .int 3, .int 0, .int 0, .ref (ad 25), .long 0, .int 0, .long 0, .int 0, .int 0, .int 0, .int 0]))] := hD
  refine lv_goto (tgt := 235) hx hb dX8_step_121 (by decide) ?_
  have hP9 := hP.sub (ws' := [(h0, .inr (9, [.ref h1, .int 0, .int 200, .int 0, .int 3, .int 0, .int 0, .ref (ad 25), .long 0, .int 0, .long 0, .int 0, .int 0, .int 0, .int 0]))]) [0] rfl
  have hD9 := hD.sub (ws' := [(h0, .inr (9, [.ref h1, .int 0, .int 200, .int 0, .int 3, .int 0, .int 0, .ref (ad 25), .long 0, .int 0, .long 0, .int 0, .int 0, .int 0, .int 0]))]) [0] (by decide) rfl
  have hK9 := hK.sub (tys' := []) [] rfl
  refine W.widen (k := 0) (n := 0) (Nat.le_of_ble_eq_true rfl) (Nat.le_of_ble_eq_true rfl) ?_
  exact W.vret hx hb hr (fun t ht hW => ⟨⟨(), rfl, trivial, by rw [ht]; exact hP9, va_K.moved hW.alike hK9, hD9⟩, hS.F ht⟩) hS.2.2 dX8_step_235
set_option maxHeartbeats 4000000 in
set_option maxRecDepth 100000 in
theorem k_X8_open_2 (l : Launch) (dC : Nat → ClassId) (dI : Nat → Nat → Nat) (ad : Nat → Nat) (h0 h1 : Nat) (sz : Nat) : Met l yX8_open wsX8_open ({ frames := 1, cells := 0, slots := 0, locals := 20 }) (va_Pc [.ref h0, .int 200] (CP (dC, dI) [(h0, .inr (9, [.ref h1, .int 0, .int 0, .int 0, .int 0, .int 0, .int 0, .ref (ad 25), .long 0, .int 0, .long 0, .int 0, .int 0, .int 0, .int 0]))] [] sz ad)) (va_Qv (fun _ : Unit => True) (fun (_ : Unit) (t : State) => CQ (dC, dI) [(h0, .inr (9, [.ref h1, .int 0, .int 200, .int 0, .int 3, .int 0, .int 0, .ref (ad 25), .long 0, .int 0, .long 0, .int 0, .int 0, .int 0, .int 0]))] [] (va_A [(h0, .inr (9, [.ref h1, .int 0, .int 0, .int 0, .int 0, .int 0, .int 0, .ref (ad 25), .long 0, .int 0, .long 0, .int 0, .int 0, .int 0, .int 0]))] sz) t) (va_A [(h0, .inr (9, [.ref h1, .int 0, .int 0, .int 0, .int 0, .int 0, .int 0, .ref (ad 25), .long 0, .int 0, .long 0, .int 0, .int 0, .int 0, .int 0]))] sz)) 0 0 (va_A [(h0, .inr (9, [.ref h1, .int 0, .int 0, .int 0, .int 0, .int 0, .int 0, .ref (ad 25), .long 0, .int 0, .long 0, .int 0, .int 0, .int 0, .int 0]))] sz) := by
  refine Met.ofW (cc := cX8_open) (maxL := 2) (ret := none) (by decide) rfl ?_
  intro p e s m args below meth c s₁ B hml hv
  obtain ⟨rfl, hsz, hP, hK, hD0, hE⟩ := hv
  have hx := B.exec
  have hb := B.bytes
  have hr := B.returns
  have hts := atoms_spec (ws := wsX8_open) B.pre
  have hown : s.vm.findClass RX8 = some m.cls := findClass_of_methodNamed B.named
  have hlocks := B.notSynchronized
  subst hsz
  have hD := hD0.self (sz := s.heap.size)
  generalize hAe : va_A [(h0, .inr (9, [.ref h1, .int 0, .int 0, .int 0, .int 0, .int 0, .int 0, .ref (ad 25), .long 0, .int 0, .long 0, .int 0, .int 0, .int 0, .int 0]))] s.heap.size = A at hD hE ⊢
  have hA : ∀ q : Nat, s.heap.size ≤ q → A q := fun q h => by rw [← hAe]; exact Or.inr h
  have hS : va_S A s.heap s.heap [] := va_S.rf
  have hl := lv_entry ([.ref h0, .int 200]) (n := 2) (Nat.le_of_ble_eq_true rfl)
  rw [lg_entry_eq]
  generalize (lg_sl ([.ref h0, .int 200]) ++ List.replicate (2 - (lg_sl ([.ref h0, .int 200])).length) Slot.unset).toArray = ls at hl ⊢
  have hl : lv_has ls 2 [(0, .ref h0), (1, .int 200)] := hl
  refine lv_aload_n hx hb dX8_open_0 rfl (lv_at hl 0 rfl) ?_
  refine lv_iload_n hx hb dX8_open_1 rfl (lv_at hl 1 rfl) ?_
  refine va_put (D := (dC, dI)) (ci := 9) (v := .int 200) (ty := .int) (C := RX8) (T := TX8) (N := 15) hx hb hts ii_X8_open_X8 tyX8 tyX8_ok nmX8 hown hK hP hD hS 0 rfl rfl 2 (by decide) (hts _ mm_X8_open_1) (fun _ h9 => h9) rfl (by decide +kernel) rfl rfl (Nat.le_of_ble_eq_true rfl) dX8_open_2 (fun H locs hP hD hS => ?_)
  have hP : va_P (dC, dI) vwCl [(h0, .inr (9, [.ref h1, .int 0, .int 200, .int 0, .int 0, .int 0, .int 0, .ref (ad 25), .long 0, .int 0, .long 0, .int 0, .int 0, .int 0, .int 0]))] H := hP
  have hD : va_D A [(h0, .inr (9, [.ref h1, .int 0, .int 200, .int 0, .int 0, .int 0, .int 0, .ref (ad 25), .long 0, .int 0, .long 0, .int 0, .int 0, .int 0, .int 0]))] := hD
  refine lv_aload_n hx hb dX8_open_5 rfl (lv_at hl 0 rfl) ?_
  refine lv_iconst (v := 0) hx hb dX8_open_6 (by decide) ?_
  refine va_put (D := (dC, dI)) (ci := 9) (v := .int 0) (ty := .int) (C := RX8) (T := TX8) (N := 15) hx hb hts ii_X8_open_X8 tyX8 tyX8_ok nmX8 hown hK hP hD hS 0 rfl rfl 3 (by decide) (hts _ mm_X8_open_2) (fun _ h9 => h9) rfl (by decide +kernel) rfl rfl (Nat.le_of_ble_eq_true rfl) dX8_open_7 (fun H locs hP hD hS => ?_)
  have hP : va_P (dC, dI) vwCl [(h0, .inr (9, [.ref h1, .int 0, .int 200, .int 0, .int 0, .int 0, .int 0, .ref (ad 25), .long 0, .int 0, .long 0, .int 0, .int 0, .int 0, .int 0]))] H := hP
  have hD : va_D A [(h0, .inr (9, [.ref h1, .int 0, .int 200, .int 0, .int 0, .int 0, .int 0, .ref (ad 25), .long 0, .int 0, .long 0, .int 0, .int 0, .int 0, .int 0]))] := hD
  refine lv_aload_n hx hb dX8_open_10 rfl (lv_at hl 0 rfl) ?_
  refine lv_iconst (v := 0) hx hb dX8_open_11 (by decide) ?_
  refine va_put (D := (dC, dI)) (ci := 9) (v := .int 0) (ty := .int) (C := RX8) (T := TX8) (N := 15) hx hb hts ii_X8_open_X8 tyX8 tyX8_ok nmX8 hown hK hP hD hS 0 rfl rfl 13 (by decide) (hts _ mm_X8_open_3) (fun _ h9 => h9) rfl (by decide +kernel) rfl rfl (Nat.le_of_ble_eq_true rfl) dX8_open_12 (fun H locs hP hD hS => ?_)
  have hP : va_P (dC, dI) vwCl [(h0, .inr (9, [.ref h1, .int 0, .int 200, .int 0, .int 0, .int 0, .int 0, .ref (ad 25), .long 0, .int 0, .long 0, .int 0, .int 0, .int 0, .int 0]))] H := hP
  have hD : va_D A [(h0, .inr (9, [.ref h1, .int 0, .int 200, .int 0, .int 0, .int 0, .int 0, .ref (ad 25), .long 0, .int 0, .long 0, .int 0, .int 0, .int 0, .int 0]))] := hD
  refine lv_aload_n hx hb dX8_open_15 rfl (lv_at hl 0 rfl) ?_
  refine lv_iconst (v := 0) hx hb dX8_open_16 (by decide) ?_
  refine va_put (D := (dC, dI)) (ci := 9) (v := .int 0) (ty := .int) (C := RX8) (T := TX8) (N := 15) hx hb hts ii_X8_open_X8 tyX8 tyX8_ok nmX8 hown hK hP hD hS 0 rfl rfl 14 (by decide) (hts _ mm_X8_open_4) (fun _ h9 => h9) rfl (by decide +kernel) rfl rfl (Nat.le_of_ble_eq_true rfl) dX8_open_17 (fun H locs hP hD hS => ?_)
  have hP : va_P (dC, dI) vwCl [(h0, .inr (9, [.ref h1, .int 0, .int 200, .int 0, .int 0, .int 0, .int 0, .ref (ad 25), .long 0, .int 0, .long 0, .int 0, .int 0, .int 0, .int 0]))] H := hP
  have hD : va_D A [(h0, .inr (9, [.ref h1, .int 0, .int 200, .int 0, .int 0, .int 0, .int 0, .ref (ad 25), .long 0, .int 0, .long 0, .int 0, .int 0, .int 0, .int 0]))] := hD
  refine lv_aload_n hx hb dX8_open_20 rfl (lv_at hl 0 rfl) ?_
  have hPc := hP.sub (ws' := [(h0, .inr (9, [.ref h1, .int 0, .int 200, .int 0, .int 0, .int 0, .int 0, .ref (ad 25), .long 0, .int 0, .long 0, .int 0, .int 0, .int 0, .int 0]))]) [0] rfl
  have hDc := hD.sub (ws' := [(h0, .inr (9, [.ref h1, .int 0, .int 200, .int 0, .int 0, .int 0, .int 0, .ref (ad 25), .long 0, .int 0, .long 0, .int 0, .int 0, .int 0, .int 0]))]) [0] (by decide) rfl
  have hKc := hK.sub (tys' := []) [] rfl
  have hFc := va_free (wc := [(h0, .inr (9, [.ref h1, .int 0, .int 200, .int 0, .int 0, .int 0, .int 0, .ref (ad 25), .long 0, .int 0, .long 0, .int 0, .int 0, .int 0, .int 0]))]) hD hS hA [0] rfl
  refine va_callv (va_runV (As := []) (rest := []) ⟨hx, hb, hml, hown, hts⟩ (k_X8_step_2 l dC dI ad h0 h1 H.size) (cwV 0 hts gX8_open_X8_step rfl rfl rfl (by decide +kernel) ⟨Nat.le_of_ble_eq_true rfl, Nat.le_of_ble_eq_true rfl⟩) ⟨fun a U g mk q => ⟨q.1, CP.blind q.2⟩, va_recv hKc hPc (ci := 9) (q0 := 0) rfl rfl, fun U hU hW => ⟨rfl, CP.of hPc hKc hDc hE hS hFc hU hW⟩⟩ rfl rfl hl.1 rfl (lv_room (Nat.le_of_ble_eq_true rfl)) dX8_open_21 ⟨Nat.le_of_ble_eq_true rfl, Nat.le_of_ble_eq_true rfl⟩) hS (fun q _ h => hFc q h) hFc (fun u t H1 locs ht hvm hw hB hz1 hk1 hS => ?_)
  obtain ⟨hP1, hK1, hD1⟩ := hB
  rw [ht] at hP1
  obtain ⟨hP, hD⟩ := va_join (wr := []) (w1 := [(h0, .inr (9, [.ref h1, .int 0, .int 200, .int 0, .int 3, .int 0, .int 0, .ref (ad 25), .long 0, .int 0, .long 0, .int 0, .int 0, .int 0, .int 0]))]) hP hD [0] [] rfl rfl (by decide) (by decide) hk1 hFc hP1 hD1
  generalize H1 = H at hP hS ⊢
  clear hPc hDc hKc hFc hP1 hD1 hK1 hk1 hz1
  have hP : va_P (dC, dI) vwCl [(h0, .inr (9, [.ref h1, .int 0, .int 200, .int 0, .int 3, .int 0, .int 0, .ref (ad 25), .long 0, .int 0, .long 0, .int 0, .int 0, .int 0, .int 0]))] H := hP
  have hD : va_D A [(h0, .inr (9, [.ref h1, .int 0, .int 200, .int 0, .int 3, .int 0, .int 0, .ref (ad 25), .long 0, .int 0, .long 0, .int 0, .int 0, .int 0, .int 0]))] := hD
  have hP9 := hP.sub (ws' := [(h0, .inr (9, [.ref h1, .int 0, .int 200, .int 0, .int 3, .int 0, .int 0, .ref (ad 25), .long 0, .int 0, .long 0, .int 0, .int 0, .int 0, .int 0]))]) [0] rfl
  have hD9 := hD.sub (ws' := [(h0, .inr (9, [.ref h1, .int 0, .int 200, .int 0, .int 3, .int 0, .int 0, .ref (ad 25), .long 0, .int 0, .long 0, .int 0, .int 0, .int 0, .int 0]))]) [0] (by decide) rfl
  have hK9 := hK.sub (tys' := []) [] rfl
  refine W.widen (k := 0) (n := 0) (Nat.le_of_ble_eq_true rfl) (Nat.le_of_ble_eq_true rfl) ?_
  exact W.vret hx hb hr (fun t ht hW => ⟨⟨(), rfl, trivial, by rw [ht]; exact hP9, va_K.moved hW.alike hK9, hD9⟩, hS.F ht⟩) hS.2.2 dX8_open_24
set_option maxHeartbeats 4000000 in
set_option maxRecDepth 100000 in
theorem k_X8_looksAtMark (l : Launch) (dC : Nat → ClassId) (dI : Nat → Nat → Nat) (ad : Nat → Nat) (h0 h1 : Nat) (sz : Nat) : Met l yX8_looksAtMark wsX8_looksAtMark ({ frames := 0, cells := 0, slots := 0, locals := 0 }) (va_Pc [.ref h0, .int 40] (CP (dC, dI) [(h0, .inr (9, [.ref h1, .int 0, .int 200, .int 0, .int 3, .int 0, .int 0, .ref (ad 25), .long 0, .int 0, .long 0, .int 0, .int 0, .int 0, .int 0]))] [] sz ad)) (va_Qi (fun (r : Int32) (_ : Unit) => r = 0) (fun (_ : Unit) (t : State) => CQ (dC, dI) [(h0, .inr (9, [.ref h1, .int 0, .int 200, .int 0, .int 3, .int 0, .int 0, .ref (ad 25), .long 0, .int 0, .long 0, .int 0, .int 0, .int 0, .int 0]))] [] (va_A [(h0, .inr (9, [.ref h1, .int 0, .int 200, .int 0, .int 3, .int 0, .int 0, .ref (ad 25), .long 0, .int 0, .long 0, .int 0, .int 0, .int 0, .int 0]))] sz) t) (va_A [(h0, .inr (9, [.ref h1, .int 0, .int 200, .int 0, .int 3, .int 0, .int 0, .ref (ad 25), .long 0, .int 0, .long 0, .int 0, .int 0, .int 0, .int 0]))] sz)) 0 0 (va_A [(h0, .inr (9, [.ref h1, .int 0, .int 200, .int 0, .int 3, .int 0, .int 0, .ref (ad 25), .long 0, .int 0, .long 0, .int 0, .int 0, .int 0, .int 0]))] sz) := by
  refine Met.ofW (cc := cX8_looksAtMark) (maxL := 2) (ret := (some .boolean)) (by decide) rfl ?_
  intro p e s m args below meth c s₁ B hml hv
  obtain ⟨rfl, hsz, hP, hK, hD0, hE⟩ := hv
  have hx := B.exec
  have hb := B.bytes
  have hr := B.returns
  have hts := atoms_spec (ws := wsX8_looksAtMark) B.pre
  have hown : s.vm.findClass RX8 = some m.cls := findClass_of_methodNamed B.named
  have hlocks := B.notSynchronized
  subst hsz
  have hD := hD0.self (sz := s.heap.size)
  generalize hAe : va_A [(h0, .inr (9, [.ref h1, .int 0, .int 200, .int 0, .int 3, .int 0, .int 0, .ref (ad 25), .long 0, .int 0, .long 0, .int 0, .int 0, .int 0, .int 0]))] s.heap.size = A at hD hE ⊢
  have hA : ∀ q : Nat, s.heap.size ≤ q → A q := fun q h => by rw [← hAe]; exact Or.inr h
  have hS : va_S A s.heap s.heap [] := va_S.rf
  have hl := lv_entry ([.ref h0, .int 40]) (n := 2) (Nat.le_of_ble_eq_true rfl)
  rw [lg_entry_eq]
  generalize (lg_sl ([.ref h0, .int 40]) ++ List.replicate (2 - (lg_sl ([.ref h0, .int 40])).length) Slot.unset).toArray = ls at hl ⊢
  have hl : lv_has ls 2 [(0, .ref h0), (1, .int 40)] := hl
  refine lv_aload_n hx hb dX8_looksAtMark_0 rfl (lv_at hl 0 rfl) ?_
  refine va_get (D := (dC, dI)) (ci := 9) (v := .int 3) (C := RX8) (T := TX8) (N := 15) hx hb hts ii_X8_looksAtMark_X8 hown hK hP 0 rfl rfl 4 (by decide) (hts _ mm_X8_looksAtMark_1) (fun _ h9 => h9) rfl dX8_looksAtMark_1 ?_
  refine lv_iconst (v := 2) hx hb dX8_looksAtMark_4 (by decide) ?_
  refine lv_icmp_ne (tgt := 20) hx hb dX8_looksAtMark_5 (by decide) (fun _ => ?_) (fun c1 => absurd c1 (by decide))
  refine lv_iconst (v := 0) hx hb dX8_looksAtMark_20 (by decide) ?_
  have hP9 := hP.sub (ws' := [(h0, .inr (9, [.ref h1, .int 0, .int 200, .int 0, .int 3, .int 0, .int 0, .ref (ad 25), .long 0, .int 0, .long 0, .int 0, .int 0, .int 0, .int 0]))]) [0] rfl
  have hD9 := hD.sub (ws' := [(h0, .inr (9, [.ref h1, .int 0, .int 200, .int 0, .int 3, .int 0, .int 0, .ref (ad 25), .long 0, .int 0, .long 0, .int 0, .int 0, .int 0, .int 0]))]) [0] (by decide) rfl
  have hK9 := hK.sub (tys' := []) [] rfl
  refine W.widen (k := 0) (n := 0) (Nat.le_of_ble_eq_true rfl) (Nat.le_of_ble_eq_true rfl) ?_
  exact W.zret (v := 0) hx hb hr rfl (fun t ht hW => ⟨⟨0, (), rfl, rfl, by rw [ht]; exact hP9, va_K.moved hW.alike hK9, hD9⟩, hS.F ht⟩) hS.2.2 dX8_looksAtMark_21
set_option maxHeartbeats 4000000 in
set_option maxRecDepth 100000 in
theorem k_X7_beginsOne (l : Launch) (dC : Nat → ClassId) (dI : Nat → Nat → Nat) (ad : Nat → Nat) (sz : Nat) : Met l yX7_beginsOne wsX7_beginsOne ({ frames := 0, cells := 0, slots := 0, locals := 0 }) (va_Pc [.ref (ad 25)] (CP (dC, dI) [] [] sz ad)) (va_Qi (fun (r : Int32) (_ : Unit) => r = 0) (fun (_ : Unit) (t : State) => CQ (dC, dI) [] [] (va_A [] sz) t) (va_A [] sz)) 0 0 (va_A [] sz) := by
  refine Met.ofW (cc := cX7_beginsOne) (maxL := 1) (ret := (some .boolean)) (by decide) rfl ?_
  intro p e s m args below meth c s₁ B hml hv
  obtain ⟨rfl, hsz, hP, hK, hD0, hE⟩ := hv
  have hx := B.exec
  have hb := B.bytes
  have hr := B.returns
  have hts := atoms_spec (ws := wsX7_beginsOne) B.pre
  have hown : s.vm.findClass RX7 = some m.cls := findClass_of_methodNamed B.named
  have hlocks := B.notSynchronized
  subst hsz
  have hD := hD0.self (sz := s.heap.size)
  generalize hAe : va_A [] s.heap.size = A at hD hE ⊢
  have hA : ∀ q : Nat, s.heap.size ≤ q → A q := fun q h => by rw [← hAe]; exact Or.inr h
  have hS : va_S A s.heap s.heap [] := va_S.rf
  have hl := lv_entry ([.ref (ad 25)]) (n := 1) (Nat.le_of_ble_eq_true rfl)
  rw [lg_entry_eq]
  generalize (lg_sl ([.ref (ad 25)]) ++ List.replicate (1 - (lg_sl ([.ref (ad 25)])).length) Slot.unset).toArray = ls at hl ⊢
  have hl : lv_has ls 1 [(0, .ref (ad 25))] := hl
  refine lv_aload_n hx hb dX7_beginsOne_0 rfl (lv_at hl 0 rfl) ?_
  refine va_gets hx hb (EV.word hE (i := 15) (by decide)) hS hown (hts _ mm_X7_beginsOne_1) (fun _ h9 => h9) dX7_beginsOne_1 ?_
  refine lv_acmp_eq (rx := (some (ad 25))) (ry := (some (ad 15))) (tgt := 63) hx hb dX7_beginsOne_4 (by decide) (fun c1 => absurd c1 (EV.ne hE (i := 25) (j := 15) (by decide) (by decide) (by decide))) (fun _ => ?_)
  refine lv_aload_n hx hb dX7_beginsOne_7 rfl (lv_at hl 0 rfl) ?_
  refine va_gets hx hb (EV.word hE (i := 16) (by decide)) hS hown (hts _ mm_X7_beginsOne_2) (fun _ h9 => h9) dX7_beginsOne_8 ?_
  refine lv_acmp_eq (rx := (some (ad 25))) (ry := (some (ad 16))) (tgt := 63) hx hb dX7_beginsOne_11 (by decide) (fun c2 => absurd c2 (EV.ne hE (i := 25) (j := 16) (by decide) (by decide) (by decide))) (fun _ => ?_)
  refine lv_aload_n hx hb dX7_beginsOne_14 rfl (lv_at hl 0 rfl) ?_
  refine va_gets hx hb (EV.word hE (i := 17) (by decide)) hS hown (hts _ mm_X7_beginsOne_3) (fun _ h9 => h9) dX7_beginsOne_15 ?_
  refine lv_acmp_eq (rx := (some (ad 25))) (ry := (some (ad 17))) (tgt := 63) hx hb dX7_beginsOne_18 (by decide) (fun c3 => absurd c3 (EV.ne hE (i := 25) (j := 17) (by decide) (by decide) (by decide))) (fun _ => ?_)
  refine lv_aload_n hx hb dX7_beginsOne_21 rfl (lv_at hl 0 rfl) ?_
  refine va_gets hx hb (EV.word hE (i := 18) (by decide)) hS hown (hts _ mm_X7_beginsOne_4) (fun _ h9 => h9) dX7_beginsOne_22 ?_
  refine lv_acmp_eq (rx := (some (ad 25))) (ry := (some (ad 18))) (tgt := 63) hx hb dX7_beginsOne_25 (by decide) (fun c4 => absurd c4 (EV.ne hE (i := 25) (j := 18) (by decide) (by decide) (by decide))) (fun _ => ?_)
  refine lv_aload_n hx hb dX7_beginsOne_28 rfl (lv_at hl 0 rfl) ?_
  refine va_gets hx hb (EV.word hE (i := 19) (by decide)) hS hown (hts _ mm_X7_beginsOne_5) (fun _ h9 => h9) dX7_beginsOne_29 ?_
  refine lv_acmp_eq (rx := (some (ad 25))) (ry := (some (ad 19))) (tgt := 63) hx hb dX7_beginsOne_32 (by decide) (fun c5 => absurd c5 (EV.ne hE (i := 25) (j := 19) (by decide) (by decide) (by decide))) (fun _ => ?_)
  refine lv_aload_n hx hb dX7_beginsOne_35 rfl (lv_at hl 0 rfl) ?_
  refine va_gets hx hb (EV.word hE (i := 20) (by decide)) hS hown (hts _ mm_X7_beginsOne_6) (fun _ h9 => h9) dX7_beginsOne_36 ?_
  refine lv_acmp_eq (rx := (some (ad 25))) (ry := (some (ad 20))) (tgt := 63) hx hb dX7_beginsOne_39 (by decide) (fun c6 => absurd c6 (EV.ne hE (i := 25) (j := 20) (by decide) (by decide) (by decide))) (fun _ => ?_)
  refine lv_aload_n hx hb dX7_beginsOne_42 rfl (lv_at hl 0 rfl) ?_
  refine va_gets hx hb (EV.word hE (i := 21) (by decide)) hS hown (hts _ mm_X7_beginsOne_7) (fun _ h9 => h9) dX7_beginsOne_43 ?_
  refine lv_acmp_eq (rx := (some (ad 25))) (ry := (some (ad 21))) (tgt := 63) hx hb dX7_beginsOne_46 (by decide) (fun c7 => absurd c7 (EV.ne hE (i := 25) (j := 21) (by decide) (by decide) (by decide))) (fun _ => ?_)
  refine lv_aload_n hx hb dX7_beginsOne_49 rfl (lv_at hl 0 rfl) ?_
  refine va_gets hx hb (EV.word hE (i := 22) (by decide)) hS hown (hts _ mm_X7_beginsOne_8) (fun _ h9 => h9) dX7_beginsOne_50 ?_
  refine lv_acmp_eq (rx := (some (ad 25))) (ry := (some (ad 22))) (tgt := 63) hx hb dX7_beginsOne_53 (by decide) (fun c8 => absurd c8 (EV.ne hE (i := 25) (j := 22) (by decide) (by decide) (by decide))) (fun _ => ?_)
  refine lv_aload_n hx hb dX7_beginsOne_56 rfl (lv_at hl 0 rfl) ?_
  refine va_gets hx hb (EV.word hE (i := 23) (by decide)) hS hown (hts _ mm_X7_beginsOne_9) (fun _ h9 => h9) dX7_beginsOne_57 ?_
  refine lv_acmp_ne (rx := (some (ad 25))) (ry := (some (ad 23))) (tgt := 67) hx hb dX7_beginsOne_60 (by decide) (fun _ => ?_) (fun c9 => absurd c9 (EV.ne hE (i := 25) (j := 23) (by decide) (by decide) (by decide)))
  refine lv_iconst (v := 0) hx hb dX7_beginsOne_67 (by decide) ?_
  have hP9 := hP.sub (ws' := []) [] rfl
  have hD9 := hD.sub (ws' := []) [] (by decide) rfl
  have hK9 := hK.sub (tys' := []) [] rfl
  refine W.widen (k := 0) (n := 0) (Nat.le_of_ble_eq_true rfl) (Nat.le_of_ble_eq_true rfl) ?_
  exact W.zret (v := 0) hx hb hr rfl (fun t ht hW => ⟨⟨0, (), rfl, rfl, by rw [ht]; exact hP9, va_K.moved hW.alike hK9, hD9⟩, hS.F ht⟩) hS.2.2 dX7_beginsOne_68
set_option maxHeartbeats 4000000 in
set_option maxRecDepth 100000 in
theorem k_X8_refuse (l : Launch) (dC : Nat → ClassId) (dI : Nat → Nat → Nat) (ad : Nat → Nat) (h0 h1 : Nat) (sz : Nat) : Met l yX8_refuse wsX8_refuse ({ frames := 0, cells := 0, slots := 0, locals := 0 }) (va_Pc [.ref h0, .int 1] (CP (dC, dI) [(h0, .inr (9, [.ref h1, .int 0, .int 200, .int 0, .int 3, .int 0, .int 0, .ref (ad 25), .long 0, .int 0, .long 0, .int 0, .int 0, .int 0, .int 0]))] [] sz ad)) (va_Qi (fun (r : Int32) (_ : Unit) => r = 0) (fun (_ : Unit) (t : State) => CQ (dC, dI) [(h0, .inr (9, [.ref h1, .int 0, .int 200, .int 0, .int 3, .int 0, .int 0, .ref (ad 25), .long 0, .int 0, .long 0, .int 0, .int 0, .int 1, .int 0]))] [] (va_A [(h0, .inr (9, [.ref h1, .int 0, .int 200, .int 0, .int 3, .int 0, .int 0, .ref (ad 25), .long 0, .int 0, .long 0, .int 0, .int 0, .int 0, .int 0]))] sz) t) (va_A [(h0, .inr (9, [.ref h1, .int 0, .int 200, .int 0, .int 3, .int 0, .int 0, .ref (ad 25), .long 0, .int 0, .long 0, .int 0, .int 0, .int 0, .int 0]))] sz)) 0 0 (va_A [(h0, .inr (9, [.ref h1, .int 0, .int 200, .int 0, .int 3, .int 0, .int 0, .ref (ad 25), .long 0, .int 0, .long 0, .int 0, .int 0, .int 0, .int 0]))] sz) := by
  refine Met.ofW (cc := cX8_refuse) (maxL := 2) (ret := (some .boolean)) (by decide) rfl ?_
  intro p e s m args below meth c s₁ B hml hv
  obtain ⟨rfl, hsz, hP, hK, hD0, hE⟩ := hv
  have hx := B.exec
  have hb := B.bytes
  have hr := B.returns
  have hts := atoms_spec (ws := wsX8_refuse) B.pre
  have hown : s.vm.findClass RX8 = some m.cls := findClass_of_methodNamed B.named
  have hlocks := B.notSynchronized
  subst hsz
  have hD := hD0.self (sz := s.heap.size)
  generalize hAe : va_A [(h0, .inr (9, [.ref h1, .int 0, .int 200, .int 0, .int 3, .int 0, .int 0, .ref (ad 25), .long 0, .int 0, .long 0, .int 0, .int 0, .int 0, .int 0]))] s.heap.size = A at hD hE ⊢
  have hA : ∀ q : Nat, s.heap.size ≤ q → A q := fun q h => by rw [← hAe]; exact Or.inr h
  have hS : va_S A s.heap s.heap [] := va_S.rf
  have hl := lv_entry ([.ref h0, .int 1]) (n := 2) (Nat.le_of_ble_eq_true rfl)
  rw [lg_entry_eq]
  generalize (lg_sl ([.ref h0, .int 1]) ++ List.replicate (2 - (lg_sl ([.ref h0, .int 1])).length) Slot.unset).toArray = ls at hl ⊢
  have hl : lv_has ls 2 [(0, .ref h0), (1, .int 1)] := hl
  refine lv_aload_n hx hb dX8_refuse_0 rfl (lv_at hl 0 rfl) ?_
  refine lv_iload_n hx hb dX8_refuse_1 rfl (lv_at hl 1 rfl) ?_
  refine va_put (D := (dC, dI)) (ci := 9) (v := .int 1) (ty := .int) (C := RX8) (T := TX8) (N := 15) hx hb hts ii_X8_refuse_X8 tyX8 tyX8_ok nmX8 hown hK hP hD hS 0 rfl rfl 13 (by decide) (hts _ mm_X8_refuse_1) (fun _ h9 => h9) rfl (by decide +kernel) rfl rfl (Nat.le_of_ble_eq_true rfl) dX8_refuse_2 (fun H locs hP hD hS => ?_)
  have hP : va_P (dC, dI) vwCl [(h0, .inr (9, [.ref h1, .int 0, .int 200, .int 0, .int 3, .int 0, .int 0, .ref (ad 25), .long 0, .int 0, .long 0, .int 0, .int 0, .int 1, .int 0]))] H := hP
  have hD : va_D A [(h0, .inr (9, [.ref h1, .int 0, .int 200, .int 0, .int 3, .int 0, .int 0, .ref (ad 25), .long 0, .int 0, .long 0, .int 0, .int 0, .int 1, .int 0]))] := hD
  refine lv_aload_n hx hb dX8_refuse_5 rfl (lv_at hl 0 rfl) ?_
  refine lv_aload_n hx hb dX8_refuse_6 rfl (lv_at hl 0 rfl) ?_
  refine va_get (D := (dC, dI)) (ci := 9) (v := .int 0) (C := RX8) (T := TX8) (N := 15) hx hb hts ii_X8_refuse_X8 hown hK hP 0 rfl rfl 5 (by decide) (hts _ mm_X8_refuse_2) (fun _ h9 => h9) rfl dX8_refuse_7 ?_
  refine va_put (D := (dC, dI)) (ci := 9) (v := .int 0) (ty := .int) (C := RX8) (T := TX8) (N := 15) hx hb hts ii_X8_refuse_X8 tyX8 tyX8_ok nmX8 hown hK hP hD hS 0 rfl rfl 14 (by decide) (hts _ mm_X8_refuse_3) (fun _ h9 => h9) rfl (by decide +kernel) rfl rfl (Nat.le_of_ble_eq_true rfl) dX8_refuse_10 (fun H locs hP hD hS => ?_)
  have hP : va_P (dC, dI) vwCl [(h0, .inr (9, [.ref h1, .int 0, .int 200, .int 0, .int 3, .int 0, .int 0, .ref (ad 25), .long 0, .int 0, .long 0, .int 0, .int 0, .int 1, .int 0]))] H := hP
  have hD : va_D A [(h0, .inr (9, [.ref h1, .int 0, .int 200, .int 0, .int 3, .int 0, .int 0, .ref (ad 25), .long 0, .int 0, .long 0, .int 0, .int 0, .int 1, .int 0]))] := hD
  refine lv_iconst (v := 0) hx hb dX8_refuse_13 (by decide) ?_
  have hP9 := hP.sub (ws' := [(h0, .inr (9, [.ref h1, .int 0, .int 200, .int 0, .int 3, .int 0, .int 0, .ref (ad 25), .long 0, .int 0, .long 0, .int 0, .int 0, .int 1, .int 0]))]) [0] rfl
  have hD9 := hD.sub (ws' := [(h0, .inr (9, [.ref h1, .int 0, .int 200, .int 0, .int 3, .int 0, .int 0, .ref (ad 25), .long 0, .int 0, .long 0, .int 0, .int 0, .int 1, .int 0]))]) [0] (by decide) rfl
  have hK9 := hK.sub (tys' := []) [] rfl
  refine W.widen (k := 0) (n := 0) (Nat.le_of_ble_eq_true rfl) (Nat.le_of_ble_eq_true rfl) ?_
  exact W.zret (v := 0) hx hb hr rfl (fun t ht hW => ⟨⟨0, (), rfl, rfl, by rw [ht]; exact hP9, va_K.moved hW.alike hK9, hD9⟩, hS.F ht⟩) hS.2.2 dX8_refuse_14
set_option maxHeartbeats 4000000 in
set_option maxRecDepth 100000 in
theorem k_X7_readOne (l : Launch) (dC : Nat → ClassId) (dI : Nat → Nat → Nat) (ad : Nat → Nat) (h0 h1 h2 h3 : Nat) (sz : Nat) : Met l yX7_readOne wsX7_readOne ({ frames := 1, cells := 0, slots := 0, locals := 21 }) (va_Pc [.ref h0, .ref h1, .ref h2, .int 1] (CP (dC, dI) [(h1, .inr (9, [.ref h3, .int 0, .int 200, .int 0, .int 3, .int 0, .int 0, .ref (ad 25), .long 0, .int 0, .long 0, .int 0, .int 0, .int 0, .int 0]))] [] sz ad)) (va_Qi (fun (r : Int32) (_ : Unit) => r = 0) (fun (_ : Unit) (t : State) => CQ (dC, dI) [(h1, .inr (9, [.ref h3, .int 0, .int 200, .int 0, .int 3, .int 0, .int 0, .ref (ad 25), .long 0, .int 0, .long 0, .int 0, .int 0, .int 1, .int 0]))] [] (va_A [(h1, .inr (9, [.ref h3, .int 0, .int 200, .int 0, .int 3, .int 0, .int 0, .ref (ad 25), .long 0, .int 0, .long 0, .int 0, .int 0, .int 0, .int 0]))] sz) t) (va_A [(h1, .inr (9, [.ref h3, .int 0, .int 200, .int 0, .int 3, .int 0, .int 0, .ref (ad 25), .long 0, .int 0, .long 0, .int 0, .int 0, .int 0, .int 0]))] sz)) 0 0 (va_A [(h1, .inr (9, [.ref h3, .int 0, .int 200, .int 0, .int 3, .int 0, .int 0, .ref (ad 25), .long 0, .int 0, .long 0, .int 0, .int 0, .int 0, .int 0]))] sz) := by
  refine Met.ofW (cc := cX7_readOne) (maxL := 7) (ret := (some .boolean)) (by decide) rfl ?_
  intro p e s m args below meth c s₁ B hml hv
  obtain ⟨rfl, hsz, hP, hK, hD0, hE⟩ := hv
  have hx := B.exec
  have hb := B.bytes
  have hr := B.returns
  have hts := atoms_spec (ws := wsX7_readOne) B.pre
  have hown : s.vm.findClass RX7 = some m.cls := findClass_of_methodNamed B.named
  have hlocks := B.notSynchronized
  subst hsz
  have hD := hD0.self (sz := s.heap.size)
  generalize hAe : va_A [(h1, .inr (9, [.ref h3, .int 0, .int 200, .int 0, .int 3, .int 0, .int 0, .ref (ad 25), .long 0, .int 0, .long 0, .int 0, .int 0, .int 0, .int 0]))] s.heap.size = A at hD hE ⊢
  have hA : ∀ q : Nat, s.heap.size ≤ q → A q := fun q h => by rw [← hAe]; exact Or.inr h
  have hS : va_S A s.heap s.heap [] := va_S.rf
  have hl := lv_entry ([.ref h0, .ref h1, .ref h2, .int 1]) (n := 7) (Nat.le_of_ble_eq_true rfl)
  rw [lg_entry_eq]
  generalize (lg_sl ([.ref h0, .ref h1, .ref h2, .int 1]) ++ List.replicate (7 - (lg_sl ([.ref h0, .ref h1, .ref h2, .int 1])).length) Slot.unset).toArray = ls at hl ⊢
  have hl : lv_has ls 7 [(0, .ref h0), (1, .ref h1), (2, .ref h2), (3, .int 1)] := hl
  refine lv_aload_n hx hb dX7_readOne_0 rfl (lv_at hl 1 rfl) ?_
  refine va_getN (host := "OffTheLead") (D := (dC, dI)) (ci := 9) (v := .ref (ad 25)) (C := RX8) (T := TX8) (N := 15) hx hb hts ii_X7_readOne_X8 hown hK hP 0 rfl rfl 7 (by decide) (va_Nw.use rfl (nf_X7_35 hE)) (fun _ h9 => h9) rfl dX7_readOne_1 ?_
  refine lv_astore (lv' := [(4, .ref (ad 25)), (0, .ref h0), (1, .ref h1), (2, .ref h2), (3, .int 1)]) hx hb dX7_readOne_4 hl (by decide) rfl (fun ls hl => ?_)
  refine lv_aload_n hx hb dX7_readOne_6 rfl (lv_at hl 2 rfl) ?_
  refine lv_bipush (v := 40) hx hb dX7_readOne_7 (by decide) ?_
  have hPc := hP.sub (ws' := [(h1, .inr (9, [.ref h3, .int 0, .int 200, .int 0, .int 3, .int 0, .int 0, .ref (ad 25), .long 0, .int 0, .long 0, .int 0, .int 0, .int 0, .int 0]))]) [0] rfl
  have hDc := hD.sub (ws' := [(h1, .inr (9, [.ref h3, .int 0, .int 200, .int 0, .int 3, .int 0, .int 0, .ref (ad 25), .long 0, .int 0, .long 0, .int 0, .int 0, .int 0, .int 0]))]) [0] (by decide) rfl
  have hKc := hK.sub (tys' := []) [] rfl
  have hFc := va_free (wc := [(h1, .inr (9, [.ref h3, .int 0, .int 200, .int 0, .int 3, .int 0, .int 0, .ref (ad 25), .long 0, .int 0, .long 0, .int 0, .int 0, .int 0, .int 0]))]) hD hS hA [0] rfl
  refine va_calli (va_runV (As := [.int 40]) (rest := []) ⟨hx, hb, hml, hown, hts⟩ (k_X8_looksAtMark l dC dI ad h1 h3 s.heap.size) (cwV 1 hts gX7_readOne_X8_looksAtMark rfl rfl rfl (by decide +kernel) ⟨Nat.le_of_ble_eq_true rfl, Nat.le_of_ble_eq_true rfl⟩) ⟨fun a U g mk q => ⟨q.1, CP.blind q.2⟩, va_recv hKc hPc (ci := 9) (q0 := 0) rfl rfl, fun U hU hW => ⟨rfl, CP.of hPc hKc hDc hE hS hFc hU hW⟩⟩ rfl rfl hl.1 rfl (lv_room (Nat.le_of_ble_eq_true rfl)) dX7_readOne_9 ⟨Nat.le_of_ble_eq_true rfl, Nat.le_of_ble_eq_true rfl⟩) hS (fun q _ h => hFc q h) hFc (fun r1 u t H1 locs ht hvm hw hB hz1 hk1 hS => ?_)
  obtain ⟨hP1, hK1, hD1⟩ := hB
  rw [ht] at hP1
  obtain ⟨hP, hD⟩ := va_join (wr := []) (w1 := [(h1, .inr (9, [.ref h3, .int 0, .int 200, .int 0, .int 3, .int 0, .int 0, .ref (ad 25), .long 0, .int 0, .long 0, .int 0, .int 0, .int 0, .int 0]))]) hP hD [0] [] rfl rfl (by decide) (by decide) hk1 hFc hP1 hD1
  generalize H1 = H at hP hS ⊢
  clear hPc hDc hKc hFc hP1 hD1 hK1 hk1 hz1
  have hP : va_P (dC, dI) vwCl [(h1, .inr (9, [.ref h3, .int 0, .int 200, .int 0, .int 3, .int 0, .int 0, .ref (ad 25), .long 0, .int 0, .long 0, .int 0, .int 0, .int 0, .int 0]))] H := hP
  have hD : va_D A [(h1, .inr (9, [.ref h3, .int 0, .int 200, .int 0, .int 3, .int 0, .int 0, .ref (ad 25), .long 0, .int 0, .long 0, .int 0, .int 0, .int 0, .int 0]))] := hD
  refine zz_top (v := 0) hw ?_
  refine lv_istore (lv' := [(5, .int 0), (4, .ref (ad 25)), (0, .ref h0), (1, .ref h1), (2, .ref h2), (3, .int 1)]) hx hb dX7_readOne_12 hl (by decide) rfl (fun ls hl => ?_)
  refine lv_iload hx hb dX7_readOne_14 (lv_at hl 0 rfl) ?_
  refine lv_if_ne (tgt := 33) hx hb dX7_readOne_16 (by decide) (fun c2 => absurd (by decide) c2) (fun _ => ?_)
  refine lv_aload hx hb dX7_readOne_19 (lv_at hl 1 rfl) ?_
  have hPc := hP.sub (ws' := []) [] rfl
  have hDc := hD.sub (ws' := []) [] (by decide) rfl
  have hKc := hK.sub (tys' := []) [] rfl
  have hFc := va_free (wc := []) hD hS hA [] rfl
  refine va_calli (va_runS (As := [.ref (ad 25)]) (rest := []) ⟨hx, hb, hml, hown, hts⟩ (k_X7_beginsOne l dC dI ad H.size) (va_cwS 1 hts gX7_readOne_X7_beginsOne rfl rfl rfl (by decide +kernel) ⟨Nat.le_of_ble_eq_true rfl, Nat.le_of_ble_eq_true rfl⟩) ⟨fun a U g mk q => ⟨q.1, CP.blind q.2⟩, fun U hU hW => ⟨rfl, CP.of hPc hKc hDc hE hS hFc hU hW⟩⟩ rfl rfl hl.1 rfl (lv_room (Nat.le_of_ble_eq_true rfl)) dX7_readOne_21 ⟨Nat.le_of_ble_eq_true rfl, Nat.le_of_ble_eq_true rfl⟩) hS (fun q _ h => hFc q h) hFc (fun r3 u t H1 locs ht hvm hw hB hz1 hk1 hS => ?_)
  obtain ⟨hP1, hK1, hD1⟩ := hB
  rw [ht] at hP1
  obtain ⟨hP, hD⟩ := va_join (wr := [(h1, .inr (9, [.ref h3, .int 0, .int 200, .int 0, .int 3, .int 0, .int 0, .ref (ad 25), .long 0, .int 0, .long 0, .int 0, .int 0, .int 0, .int 0]))]) (w1 := []) hP hD [] [0] rfl rfl (by decide) (by decide) hk1 hFc hP1 hD1
  generalize H1 = H at hP hS ⊢
  clear hPc hDc hKc hFc hP1 hD1 hK1 hk1 hz1
  have hP : va_P (dC, dI) vwCl [(h1, .inr (9, [.ref h3, .int 0, .int 200, .int 0, .int 3, .int 0, .int 0, .ref (ad 25), .long 0, .int 0, .long 0, .int 0, .int 0, .int 0, .int 0]))] H := hP
  have hD : va_D A [(h1, .inr (9, [.ref h3, .int 0, .int 200, .int 0, .int 3, .int 0, .int 0, .ref (ad 25), .long 0, .int 0, .long 0, .int 0, .int 0, .int 0, .int 0]))] := hD
  refine zz_top (v := 0) hw ?_
  refine lv_if_ne (tgt := 33) hx hb dX7_readOne_24 (by decide) (fun c4 => absurd (by decide) c4) (fun _ => ?_)
  refine lv_aload_n hx hb dX7_readOne_27 rfl (lv_at hl 3 rfl) ?_
  refine lv_iconst (v := 1) hx hb dX7_readOne_28 (by decide) ?_
  have hPc := hP.sub (ws' := [(h1, .inr (9, [.ref h3, .int 0, .int 200, .int 0, .int 3, .int 0, .int 0, .ref (ad 25), .long 0, .int 0, .long 0, .int 0, .int 0, .int 0, .int 0]))]) [0] rfl
  have hDc := hD.sub (ws' := [(h1, .inr (9, [.ref h3, .int 0, .int 200, .int 0, .int 3, .int 0, .int 0, .ref (ad 25), .long 0, .int 0, .long 0, .int 0, .int 0, .int 0, .int 0]))]) [0] (by decide) rfl
  have hKc := hK.sub (tys' := []) [] rfl
  have hFc := va_free (wc := [(h1, .inr (9, [.ref h3, .int 0, .int 200, .int 0, .int 3, .int 0, .int 0, .ref (ad 25), .long 0, .int 0, .long 0, .int 0, .int 0, .int 0, .int 0]))]) hD hS hA [0] rfl
  refine va_calli (va_runV (As := [.int 1]) (rest := []) ⟨hx, hb, hml, hown, hts⟩ (k_X8_refuse l dC dI ad h1 h3 H.size) (cwV 1 hts gX7_readOne_X8_refuse rfl rfl rfl (by decide +kernel) ⟨Nat.le_of_ble_eq_true rfl, Nat.le_of_ble_eq_true rfl⟩) ⟨fun a U g mk q => ⟨q.1, CP.blind q.2⟩, va_recv hKc hPc (ci := 9) (q0 := 0) rfl rfl, fun U hU hW => ⟨rfl, CP.of hPc hKc hDc hE hS hFc hU hW⟩⟩ rfl rfl hl.1 rfl (lv_room (Nat.le_of_ble_eq_true rfl)) dX7_readOne_29 ⟨Nat.le_of_ble_eq_true rfl, Nat.le_of_ble_eq_true rfl⟩) hS (fun q _ h => hFc q h) hFc (fun r5 u t H1 locs ht hvm hw hB hz1 hk1 hS => ?_)
  obtain ⟨hP1, hK1, hD1⟩ := hB
  rw [ht] at hP1
  obtain ⟨hP, hD⟩ := va_join (wr := []) (w1 := [(h1, .inr (9, [.ref h3, .int 0, .int 200, .int 0, .int 3, .int 0, .int 0, .ref (ad 25), .long 0, .int 0, .long 0, .int 0, .int 0, .int 1, .int 0]))]) hP hD [0] [] rfl rfl (by decide) (by decide) hk1 hFc hP1 hD1
  generalize H1 = H at hP hS ⊢
  clear hPc hDc hKc hFc hP1 hD1 hK1 hk1 hz1
  have hP : va_P (dC, dI) vwCl [(h1, .inr (9, [.ref h3, .int 0, .int 200, .int 0, .int 3, .int 0, .int 0, .ref (ad 25), .long 0, .int 0, .long 0, .int 0, .int 0, .int 1, .int 0]))] H := hP
  have hD : va_D A [(h1, .inr (9, [.ref h3, .int 0, .int 200, .int 0, .int 3, .int 0, .int 0, .ref (ad 25), .long 0, .int 0, .long 0, .int 0, .int 0, .int 1, .int 0]))] := hD
  refine zz_top (v := 0) hw ?_
  have hP9 := hP.sub (ws' := [(h1, .inr (9, [.ref h3, .int 0, .int 200, .int 0, .int 3, .int 0, .int 0, .ref (ad 25), .long 0, .int 0, .long 0, .int 0, .int 0, .int 1, .int 0]))]) [0] rfl
  have hD9 := hD.sub (ws' := [(h1, .inr (9, [.ref h3, .int 0, .int 200, .int 0, .int 3, .int 0, .int 0, .ref (ad 25), .long 0, .int 0, .long 0, .int 0, .int 0, .int 1, .int 0]))]) [0] (by decide) rfl
  have hK9 := hK.sub (tys' := []) [] rfl
  refine W.widen (k := 0) (n := 0) (Nat.le_of_ble_eq_true rfl) (Nat.le_of_ble_eq_true rfl) ?_
  exact W.zret (v := 0) hx hb hr rfl (fun t ht hW => ⟨⟨0, (), rfl, rfl, by rw [ht]; exact hP9, va_K.moved hW.alike hK9, hD9⟩, hS.F ht⟩) hS.2.2 dX7_readOne_32
set_option maxHeartbeats 4000000 in
set_option maxRecDepth 100000 in
theorem k_X7_readCond (l : Launch) (dC : Nat → ClassId) (dI : Nat → Nat → Nat) (ad : Nat → Nat) (h0 h1 h2 h3 h4 h5 h6 : Nat) (sz : Nat) : Met l yX7_readCond wsX7_readCond ({ frames := 2, cells := 0, slots := 0, locals := 47 }) (va_Pc [.ref h0, .ref h1, .ref h2, .int 1] (CP (dC, dI) [(h1, .inr (9, [.ref h3, .int 0, .int 200, .int 0, .int 3, .int 0, .int 0, .ref (ad 25), .long 0, .int 0, .long 0, .int 0, .int 0, .int 0, .int 0])), (h0, .inr (8, [.ref h4, .ref h5, .ref h6, .int 0, .int 0]))] [] sz ad)) (va_Qi (fun (r : Int32) (_ : Unit) => r = 0) (fun (_ : Unit) (t : State) => CQ (dC, dI) [(h0, .inr (8, [.ref h4, .ref h5, .ref h6, .int 0, .int 0])), (h1, .inr (9, [.ref h3, .int 0, .int 200, .int 0, .int 3, .int 0, .int 0, .ref (ad 25), .long 0, .int 0, .long 0, .int 0, .int 0, .int 1, .int 0]))] [] (va_A [(h1, .inr (9, [.ref h3, .int 0, .int 200, .int 0, .int 3, .int 0, .int 0, .ref (ad 25), .long 0, .int 0, .long 0, .int 0, .int 0, .int 0, .int 0])), (h0, .inr (8, [.ref h4, .ref h5, .ref h6, .int 0, .int 0]))] sz) t) (va_A [(h1, .inr (9, [.ref h3, .int 0, .int 200, .int 0, .int 3, .int 0, .int 0, .ref (ad 25), .long 0, .int 0, .long 0, .int 0, .int 0, .int 0, .int 0])), (h0, .inr (8, [.ref h4, .ref h5, .ref h6, .int 0, .int 0]))] sz)) 0 0 (va_A [(h1, .inr (9, [.ref h3, .int 0, .int 200, .int 0, .int 3, .int 0, .int 0, .ref (ad 25), .long 0, .int 0, .long 0, .int 0, .int 0, .int 0, .int 0])), (h0, .inr (8, [.ref h4, .ref h5, .ref h6, .int 0, .int 0]))] sz) := by
  refine Met.ofW (cc := cX7_readCond) (maxL := 7) (ret := (some .boolean)) (by decide) rfl ?_
  intro p e s m args below meth c s₁ B hml hv
  obtain ⟨rfl, hsz, hP, hK, hD0, hE⟩ := hv
  have hx := B.exec
  have hb := B.bytes
  have hr := B.returns
  have hts := atoms_spec (ws := wsX7_readCond) B.pre
  have hown : s.vm.findClass RX7 = some m.cls := findClass_of_methodNamed B.named
  have hlocks := B.notSynchronized
  subst hsz
  have hD := hD0.self (sz := s.heap.size)
  generalize hAe : va_A [(h1, .inr (9, [.ref h3, .int 0, .int 200, .int 0, .int 3, .int 0, .int 0, .ref (ad 25), .long 0, .int 0, .long 0, .int 0, .int 0, .int 0, .int 0])), (h0, .inr (8, [.ref h4, .ref h5, .ref h6, .int 0, .int 0]))] s.heap.size = A at hD hE ⊢
  have hA : ∀ q : Nat, s.heap.size ≤ q → A q := fun q h => by rw [← hAe]; exact Or.inr h
  have hS : va_S A s.heap s.heap [] := va_S.rf
  have hl := lv_entry ([.ref h0, .ref h1, .ref h2, .int 1]) (n := 7) (Nat.le_of_ble_eq_true rfl)
  rw [lg_entry_eq]
  generalize (lg_sl ([.ref h0, .ref h1, .ref h2, .int 1]) ++ List.replicate (7 - (lg_sl ([.ref h0, .ref h1, .ref h2, .int 1])).length) Slot.unset).toArray = ls at hl ⊢
  have hl : lv_has ls 7 [(0, .ref h0), (1, .ref h1), (2, .ref h2), (3, .int 1)] := hl
  refine lv_aload_n hx hb dX7_readCond_0 rfl (lv_at hl 0 rfl) ?_
  refine lv_aload_n hx hb dX7_readCond_1 rfl (lv_at hl 1 rfl) ?_
  refine lv_aload_n hx hb dX7_readCond_2 rfl (lv_at hl 2 rfl) ?_
  refine lv_iload_n hx hb dX7_readCond_3 rfl (lv_at hl 3 rfl) ?_
  have hPc := hP.sub (ws' := [(h1, .inr (9, [.ref h3, .int 0, .int 200, .int 0, .int 3, .int 0, .int 0, .ref (ad 25), .long 0, .int 0, .long 0, .int 0, .int 0, .int 0, .int 0]))]) [0] rfl
  have hDc := hD.sub (ws' := [(h1, .inr (9, [.ref h3, .int 0, .int 200, .int 0, .int 3, .int 0, .int 0, .ref (ad 25), .long 0, .int 0, .long 0, .int 0, .int 0, .int 0, .int 0]))]) [0] (by decide) rfl
  have hKc := hK.sub (tys' := []) [] rfl
  have hFc := va_free (wc := [(h1, .inr (9, [.ref h3, .int 0, .int 200, .int 0, .int 3, .int 0, .int 0, .ref (ad 25), .long 0, .int 0, .long 0, .int 0, .int 0, .int 0, .int 0]))]) hD hS hA [0] rfl
  refine va_calli (va_runV (As := [.ref h1, .ref h2, .int 1]) (rest := []) ⟨hx, hb, hml, hown, hts⟩ (k_X7_readOne l dC dI ad h0 h1 h2 h3 s.heap.size) (cwV 3 hts gX7_readCond_X7_readOne rfl rfl rfl (by decide +kernel) ⟨Nat.le_of_ble_eq_true rfl, Nat.le_of_ble_eq_true rfl⟩) ⟨fun a U g mk q => ⟨q.1, CP.blind q.2⟩, va_recv hK hP (ci := 8) (q0 := 1) rfl rfl, fun U hU hW => ⟨rfl, CP.of hPc hKc hDc hE hS hFc hU hW⟩⟩ rfl rfl hl.1 rfl (lv_room (Nat.le_of_ble_eq_true rfl)) dX7_readCond_4 ⟨Nat.le_of_ble_eq_true rfl, Nat.le_of_ble_eq_true rfl⟩) hS (fun q _ h => hFc q h) hFc (fun r1 u t H1 locs ht hvm hw hB hz1 hk1 hS => ?_)
  obtain ⟨hP1, hK1, hD1⟩ := hB
  rw [ht] at hP1
  obtain ⟨hP, hD⟩ := va_join (wr := [(h0, .inr (8, [.ref h4, .ref h5, .ref h6, .int 0, .int 0]))]) (w1 := [(h1, .inr (9, [.ref h3, .int 0, .int 200, .int 0, .int 3, .int 0, .int 0, .ref (ad 25), .long 0, .int 0, .long 0, .int 0, .int 0, .int 1, .int 0]))]) hP hD [0] [1] rfl rfl (by decide) (by decide) hk1 hFc hP1 hD1
  generalize H1 = H at hP hS ⊢
  clear hPc hDc hKc hFc hP1 hD1 hK1 hk1 hz1
  have hP : va_P (dC, dI) vwCl [(h0, .inr (8, [.ref h4, .ref h5, .ref h6, .int 0, .int 0])), (h1, .inr (9, [.ref h3, .int 0, .int 200, .int 0, .int 3, .int 0, .int 0, .ref (ad 25), .long 0, .int 0, .long 0, .int 0, .int 0, .int 1, .int 0]))] H := hP
  have hD : va_D A [(h0, .inr (8, [.ref h4, .ref h5, .ref h6, .int 0, .int 0])), (h1, .inr (9, [.ref h3, .int 0, .int 200, .int 0, .int 3, .int 0, .int 0, .ref (ad 25), .long 0, .int 0, .long 0, .int 0, .int 0, .int 1, .int 0]))] := hD
  refine zz_top (v := 0) hw ?_
  refine lv_istore (lv' := [(4, .int 0), (0, .ref h0), (1, .ref h1), (2, .ref h2), (3, .int 1)]) hx hb dX7_readCond_7 hl (by decide) rfl (fun ls hl => ?_)
  refine lv_iconst (v := 0) hx hb dX7_readCond_9 (by decide) ?_
  refine lv_istore (lv' := [(5, .int 0), (4, .int 0), (0, .ref h0), (1, .ref h1), (2, .ref h2), (3, .int 1)]) hx hb dX7_readCond_10 hl (by decide) rfl (fun ls hl => ?_)
  refine lv_iconst (v := 0) hx hb dX7_readCond_12 (by decide) ?_
  refine lv_istore (lv' := [(6, .int 0), (5, .int 0), (4, .int 0), (0, .ref h0), (1, .ref h1), (2, .ref h2), (3, .int 1)]) hx hb dX7_readCond_13 hl (by decide) rfl (fun ls hl => ?_)
  refine lv_iload hx hb dX7_readCond_15 (lv_at hl 0 rfl) ?_
  refine lv_bipush (v := 20) hx hb dX7_readCond_17 (by decide) ?_
  refine lv_icmp_ge (tgt := 108) hx hb dX7_readCond_19 (by decide) (fun c2 => absurd c2 (by decide)) (fun _ => ?_)
  refine lv_iload hx hb dX7_readCond_22 (lv_at hl 2 rfl) ?_
  refine lv_if_eq (tgt := 108) hx hb dX7_readCond_24 (by decide) (fun _ => ?_) (fun c3 => absurd (by decide) c3)
  refine lv_iload hx hb dX7_readCond_108 (lv_at hl 1 rfl) ?_
  refine lv_if_eq (tgt := 122) hx hb dX7_readCond_110 (by decide) (fun _ => ?_) (fun c4 => absurd (by decide) c4)
  refine lv_iload hx hb dX7_readCond_122 (lv_at hl 2 rfl) ?_
  refine lv_if_eq (tgt := 146) hx hb dX7_readCond_124 (by decide) (fun _ => ?_) (fun c5 => absurd (by decide) c5)
  refine lv_iload hx hb dX7_readCond_146 (lv_at hl 2 rfl) ?_
  have hP9 := hP.sub (ws' := [(h0, .inr (8, [.ref h4, .ref h5, .ref h6, .int 0, .int 0])), (h1, .inr (9, [.ref h3, .int 0, .int 200, .int 0, .int 3, .int 0, .int 0, .ref (ad 25), .long 0, .int 0, .long 0, .int 0, .int 0, .int 1, .int 0]))]) [0, 1] rfl
  have hD9 := hD.sub (ws' := [(h0, .inr (8, [.ref h4, .ref h5, .ref h6, .int 0, .int 0])), (h1, .inr (9, [.ref h3, .int 0, .int 200, .int 0, .int 3, .int 0, .int 0, .ref (ad 25), .long 0, .int 0, .long 0, .int 0, .int 0, .int 1, .int 0]))]) [0, 1] (by decide) rfl
  have hK9 := hK.sub (tys' := []) [] rfl
  refine W.widen (k := 0) (n := 0) (Nat.le_of_ble_eq_true rfl) (Nat.le_of_ble_eq_true rfl) ?_
  exact W.zret (v := 0) hx hb hr rfl (fun t ht hW => ⟨⟨0, (), rfl, rfl, by rw [ht]; exact hP9, va_K.moved hW.alike hK9, hD9⟩, hS.F ht⟩) hS.2.2 dX7_readCond_148
set_option maxHeartbeats 4000000 in
set_option maxRecDepth 100000 in
theorem k_X11_closeTape_2 (l : Launch) (dC : Nat → ClassId) (dI : Nat → Nat → Nat) (ad : Nat → Nat) (h0 h1 h2 h3 h4 h5 h6 h7 h8 h9 h10 h11 h12 h13 h14 h15 h16 : Nat) (sz : Nat) : Met l yX11_closeTape wsX11_closeTape ({ frames := 0, cells := 0, slots := 0, locals := 0 }) (va_Pc [.ref h0] (CP (dC, dI) [(h0, .inr (10, [.ref h1, .ref h2, .ref h3, .ref h4, .ref h5, .ref h6, .ref h7, .ref h8, .ref h9, .ref h10, .ref h11, .ref h12, .ref h13, .ref h14, .ref h15, .int (-1), .int 0, .int (-1), .int (-1)])), (h1, .inr (9, [.ref h16, .int 0, .int 200, .int 0, .int 3, .int 0, .int 0, .ref (ad 25), .long 0, .int 0, .long 0, .int 0, .int 0, .int 1, .int 0]))] [] sz ad)) (va_Qv (fun _ : Unit => True) (fun (_ : Unit) (t : State) => CQ (dC, dI) [(h0, .inr (10, [.ref h1, .ref h2, .ref h3, .ref h4, .ref h5, .ref h6, .ref h7, .ref h8, .ref h9, .ref h10, .ref h11, .ref h12, .ref h13, .ref h14, .ref h15, .int (-1), .int 1, .int (-1), .int (-1)])), (h1, .inr (9, [.ref h16, .int 0, .int 200, .int 0, .int 3, .int 0, .int 0, .ref (ad 25), .long 0, .int 0, .long 0, .int 0, .int 0, .int 1, .int 0]))] [] (va_A [(h0, .inr (10, [.ref h1, .ref h2, .ref h3, .ref h4, .ref h5, .ref h6, .ref h7, .ref h8, .ref h9, .ref h10, .ref h11, .ref h12, .ref h13, .ref h14, .ref h15, .int (-1), .int 0, .int (-1), .int (-1)])), (h1, .inr (9, [.ref h16, .int 0, .int 200, .int 0, .int 3, .int 0, .int 0, .ref (ad 25), .long 0, .int 0, .long 0, .int 0, .int 0, .int 1, .int 0]))] sz) t) (va_A [(h0, .inr (10, [.ref h1, .ref h2, .ref h3, .ref h4, .ref h5, .ref h6, .ref h7, .ref h8, .ref h9, .ref h10, .ref h11, .ref h12, .ref h13, .ref h14, .ref h15, .int (-1), .int 0, .int (-1), .int (-1)])), (h1, .inr (9, [.ref h16, .int 0, .int 200, .int 0, .int 3, .int 0, .int 0, .ref (ad 25), .long 0, .int 0, .long 0, .int 0, .int 0, .int 1, .int 0]))] sz)) 0 0 (va_A [(h0, .inr (10, [.ref h1, .ref h2, .ref h3, .ref h4, .ref h5, .ref h6, .ref h7, .ref h8, .ref h9, .ref h10, .ref h11, .ref h12, .ref h13, .ref h14, .ref h15, .int (-1), .int 0, .int (-1), .int (-1)])), (h1, .inr (9, [.ref h16, .int 0, .int 200, .int 0, .int 3, .int 0, .int 0, .ref (ad 25), .long 0, .int 0, .long 0, .int 0, .int 0, .int 1, .int 0]))] sz) := by
  refine Met.ofW (cc := cX11_closeTape) (maxL := 1) (ret := none) (by decide) rfl ?_
  intro p e s m args below meth c s₁ B hml hv
  obtain ⟨rfl, hsz, hP, hK, hD0, hE⟩ := hv
  have hx := B.exec
  have hb := B.bytes
  have hr := B.returns
  have hts := atoms_spec (ws := wsX11_closeTape) B.pre
  have hown : s.vm.findClass RX11 = some m.cls := findClass_of_methodNamed B.named
  have hlocks := B.notSynchronized
  subst hsz
  have hD := hD0.self (sz := s.heap.size)
  generalize hAe : va_A [(h0, .inr (10, [.ref h1, .ref h2, .ref h3, .ref h4, .ref h5, .ref h6, .ref h7, .ref h8, .ref h9, .ref h10, .ref h11, .ref h12, .ref h13, .ref h14, .ref h15, .int (-1), .int 0, .int (-1), .int (-1)])), (h1, .inr (9, [.ref h16, .int 0, .int 200, .int 0, .int 3, .int 0, .int 0, .ref (ad 25), .long 0, .int 0, .long 0, .int 0, .int 0, .int 1, .int 0]))] s.heap.size = A at hD hE ⊢
  have hA : ∀ q : Nat, s.heap.size ≤ q → A q := fun q h => by rw [← hAe]; exact Or.inr h
  have hS : va_S A s.heap s.heap [] := va_S.rf
  have hl := lv_entry ([.ref h0]) (n := 1) (Nat.le_of_ble_eq_true rfl)
  rw [lg_entry_eq]
  generalize (lg_sl ([.ref h0]) ++ List.replicate (1 - (lg_sl ([.ref h0])).length) Slot.unset).toArray = ls at hl ⊢
  have hl : lv_has ls 1 [(0, .ref h0)] := hl
  refine lv_aload_n hx hb dX11_closeTape_0 rfl (lv_at hl 0 rfl) ?_
  refine lv_aload_n hx hb dX11_closeTape_1 rfl (lv_at hl 0 rfl) ?_
  refine va_get (D := (dC, dI)) (ci := 10) (v := .ref h1) (C := RX11) (T := TX11) (N := 19) hx hb hts ii_X11_closeTape_X11 hown hK hP 0 rfl rfl 0 (by decide) (hts _ mm_X11_closeTape_1) (fun _ h9 => h9) rfl dX11_closeTape_2 ?_
  refine va_getN (host := "OffTheLead") (D := (dC, dI)) (ci := 9) (v := .int 1) (C := RX8) (T := TX8) (N := 15) hx hb hts ii_X11_closeTape_X8 hown hK hP 1 rfl rfl 13 (by decide) (va_Nw.use rfl (nf_X11_380 hE)) (fun _ h9 => h9) rfl dX11_closeTape_5 ?_
  refine va_put (D := (dC, dI)) (ci := 10) (v := .int 1) (ty := .int) (C := RX11) (T := TX11) (N := 19) hx hb hts ii_X11_closeTape_X11 tyX11 tyX11_ok nmX11 hown hK hP hD hS 0 rfl rfl 16 (by decide) (hts _ mm_X11_closeTape_2) (fun _ h9 => h9) rfl (by decide +kernel) rfl rfl (Nat.le_of_ble_eq_true rfl) dX11_closeTape_8 (fun H locs hP hD hS => ?_)
  have hP : va_P (dC, dI) vwCl [(h0, .inr (10, [.ref h1, .ref h2, .ref h3, .ref h4, .ref h5, .ref h6, .ref h7, .ref h8, .ref h9, .ref h10, .ref h11, .ref h12, .ref h13, .ref h14, .ref h15, .int (-1), .int 1, .int (-1), .int (-1)])), (h1, .inr (9, [.ref h16, .int 0, .int 200, .int 0, .int 3, .int 0, .int 0, .ref (ad 25), .long 0, .int 0, .long 0, .int 0, .int 0, .int 1, .int 0]))] H := hP
  have hD : va_D A [(h0, .inr (10, [.ref h1, .ref h2, .ref h3, .ref h4, .ref h5, .ref h6, .ref h7, .ref h8, .ref h9, .ref h10, .ref h11, .ref h12, .ref h13, .ref h14, .ref h15, .int (-1), .int 1, .int (-1), .int (-1)])), (h1, .inr (9, [.ref h16, .int 0, .int 200, .int 0, .int 3, .int 0, .int 0, .ref (ad 25), .long 0, .int 0, .long 0, .int 0, .int 0, .int 1, .int 0]))] := hD
  refine lv_aload_n hx hb dX11_closeTape_11 rfl (lv_at hl 0 rfl) ?_
  refine va_get (D := (dC, dI)) (ci := 10) (v := .ref h1) (C := RX11) (T := TX11) (N := 19) hx hb hts ii_X11_closeTape_X11 hown hK hP 0 rfl rfl 0 (by decide) (hts _ mm_X11_closeTape_1) (fun _ h9 => h9) rfl dX11_closeTape_12 ?_
  refine lv_iconst (v := 0) hx hb dX11_closeTape_15 (by decide) ?_
  refine va_putN (host := "OffTheLead") (D := (dC, dI)) (ci := 9) (v := .int 0) (ty := .int) (C := RX8) (T := TX8) (N := 15) hx hb hts ii_X11_closeTape_X8 tyX8 tyX8_ok nmX8 hown hK hP hD hS 1 rfl rfl 1 (by decide) (va_Nw.use rfl (nf_X11_100 hE)) (fun _ h9 => h9) rfl (by decide +kernel) rfl rfl (Nat.le_of_ble_eq_true rfl) dX11_closeTape_16 (fun H locs hP hD hS => ?_)
  have hP : va_P (dC, dI) vwCl [(h0, .inr (10, [.ref h1, .ref h2, .ref h3, .ref h4, .ref h5, .ref h6, .ref h7, .ref h8, .ref h9, .ref h10, .ref h11, .ref h12, .ref h13, .ref h14, .ref h15, .int (-1), .int 1, .int (-1), .int (-1)])), (h1, .inr (9, [.ref h16, .int 0, .int 200, .int 0, .int 3, .int 0, .int 0, .ref (ad 25), .long 0, .int 0, .long 0, .int 0, .int 0, .int 1, .int 0]))] H := hP
  have hD : va_D A [(h0, .inr (10, [.ref h1, .ref h2, .ref h3, .ref h4, .ref h5, .ref h6, .ref h7, .ref h8, .ref h9, .ref h10, .ref h11, .ref h12, .ref h13, .ref h14, .ref h15, .int (-1), .int 1, .int (-1), .int (-1)])), (h1, .inr (9, [.ref h16, .int 0, .int 200, .int 0, .int 3, .int 0, .int 0, .ref (ad 25), .long 0, .int 0, .long 0, .int 0, .int 0, .int 1, .int 0]))] := hD
  have hP9 := hP.sub (ws' := [(h0, .inr (10, [.ref h1, .ref h2, .ref h3, .ref h4, .ref h5, .ref h6, .ref h7, .ref h8, .ref h9, .ref h10, .ref h11, .ref h12, .ref h13, .ref h14, .ref h15, .int (-1), .int 1, .int (-1), .int (-1)])), (h1, .inr (9, [.ref h16, .int 0, .int 200, .int 0, .int 3, .int 0, .int 0, .ref (ad 25), .long 0, .int 0, .long 0, .int 0, .int 0, .int 1, .int 0]))]) [0, 1] rfl
  have hD9 := hD.sub (ws' := [(h0, .inr (10, [.ref h1, .ref h2, .ref h3, .ref h4, .ref h5, .ref h6, .ref h7, .ref h8, .ref h9, .ref h10, .ref h11, .ref h12, .ref h13, .ref h14, .ref h15, .int (-1), .int 1, .int (-1), .int (-1)])), (h1, .inr (9, [.ref h16, .int 0, .int 200, .int 0, .int 3, .int 0, .int 0, .ref (ad 25), .long 0, .int 0, .long 0, .int 0, .int 0, .int 1, .int 0]))]) [0, 1] (by decide) rfl
  have hK9 := hK.sub (tys' := []) [] rfl
  refine W.widen (k := 0) (n := 0) (Nat.le_of_ble_eq_true rfl) (Nat.le_of_ble_eq_true rfl) ?_
  exact W.vret hx hb hr (fun t ht hW => ⟨⟨(), rfl, trivial, by rw [ht]; exact hP9, va_K.moved hW.alike hK9, hD9⟩, hS.F ht⟩) hS.2.2 dX11_closeTape_19
set_option maxHeartbeats 4000000 in
set_option maxRecDepth 100000 in
theorem k_X11_sentence (l : Launch) (dC : Nat → ClassId) (dI : Nat → Nat → Nat) (ad : Nat → Nat) (h0 h1 h2 h3 h4 h5 h6 h7 h8 h9 h10 h11 h12 h13 h14 h15 h16 h17 h18 h19 : Nat) (sz : Nat) : Met l yX11_sentence wsX11_sentence ({ frames := 3, cells := 0, slots := 0, locals := 73 }) (va_Pc [.ref h0] (CP (dC, dI) [(h0, .inr (10, [.ref h1, .ref h2, .ref h3, .ref h4, .ref h5, .ref h6, .ref h7, .ref h8, .ref h9, .ref h10, .ref h11, .ref h12, .ref h13, .ref h14, .ref h15, .int (-1), .int 0, .int (-1), .int (-1)])), (h1, .inr (9, [.ref h16, .int 0, .int 0, .int 0, .int 0, .int 0, .int 0, .ref (ad 25), .long 0, .int 0, .long 0, .int 0, .int 0, .int 0, .int 0])), (h7, .inr (8, [.ref h17, .ref h18, .ref h19, .int 0, .int 0]))] [] sz ad)) (va_Qi (fun (r : Int32) (_ : Unit) => r = (-1)) (fun (_ : Unit) (t : State) => CQ (dC, dI) [] [] (va_A [(h0, .inr (10, [.ref h1, .ref h2, .ref h3, .ref h4, .ref h5, .ref h6, .ref h7, .ref h8, .ref h9, .ref h10, .ref h11, .ref h12, .ref h13, .ref h14, .ref h15, .int (-1), .int 0, .int (-1), .int (-1)])), (h1, .inr (9, [.ref h16, .int 0, .int 0, .int 0, .int 0, .int 0, .int 0, .ref (ad 25), .long 0, .int 0, .long 0, .int 0, .int 0, .int 0, .int 0])), (h7, .inr (8, [.ref h17, .ref h18, .ref h19, .int 0, .int 0]))] sz) t) (va_A [(h0, .inr (10, [.ref h1, .ref h2, .ref h3, .ref h4, .ref h5, .ref h6, .ref h7, .ref h8, .ref h9, .ref h10, .ref h11, .ref h12, .ref h13, .ref h14, .ref h15, .int (-1), .int 0, .int (-1), .int (-1)])), (h1, .inr (9, [.ref h16, .int 0, .int 0, .int 0, .int 0, .int 0, .int 0, .ref (ad 25), .long 0, .int 0, .long 0, .int 0, .int 0, .int 0, .int 0])), (h7, .inr (8, [.ref h17, .ref h18, .ref h19, .int 0, .int 0]))] sz)) 0 0 (va_A [(h0, .inr (10, [.ref h1, .ref h2, .ref h3, .ref h4, .ref h5, .ref h6, .ref h7, .ref h8, .ref h9, .ref h10, .ref h11, .ref h12, .ref h13, .ref h14, .ref h15, .int (-1), .int 0, .int (-1), .int (-1)])), (h1, .inr (9, [.ref h16, .int 0, .int 0, .int 0, .int 0, .int 0, .int 0, .ref (ad 25), .long 0, .int 0, .long 0, .int 0, .int 0, .int 0, .int 0])), (h7, .inr (8, [.ref h17, .ref h18, .ref h19, .int 0, .int 0]))] sz) := by
  refine Met.ofW (cc := cX11_sentence) (maxL := 1) (ret := (some .int)) (by decide) rfl ?_
  intro p e s m args below meth c s₁ B hml hv
  obtain ⟨rfl, hsz, hP, hK, hD0, hE⟩ := hv
  have hx := B.exec
  have hb := B.bytes
  have hr := B.returns
  have hts := atoms_spec (ws := wsX11_sentence) B.pre
  have hown : s.vm.findClass RX11 = some m.cls := findClass_of_methodNamed B.named
  have hlocks := B.notSynchronized
  subst hsz
  have hD := hD0.self (sz := s.heap.size)
  generalize hAe : va_A [(h0, .inr (10, [.ref h1, .ref h2, .ref h3, .ref h4, .ref h5, .ref h6, .ref h7, .ref h8, .ref h9, .ref h10, .ref h11, .ref h12, .ref h13, .ref h14, .ref h15, .int (-1), .int 0, .int (-1), .int (-1)])), (h1, .inr (9, [.ref h16, .int 0, .int 0, .int 0, .int 0, .int 0, .int 0, .ref (ad 25), .long 0, .int 0, .long 0, .int 0, .int 0, .int 0, .int 0])), (h7, .inr (8, [.ref h17, .ref h18, .ref h19, .int 0, .int 0]))] s.heap.size = A at hD hE ⊢
  have hA : ∀ q : Nat, s.heap.size ≤ q → A q := fun q h => by rw [← hAe]; exact Or.inr h
  have hS : va_S A s.heap s.heap [] := va_S.rf
  have hl := lv_entry ([.ref h0]) (n := 1) (Nat.le_of_ble_eq_true rfl)
  rw [lg_entry_eq]
  generalize (lg_sl ([.ref h0]) ++ List.replicate (1 - (lg_sl ([.ref h0])).length) Slot.unset).toArray = ls at hl ⊢
  have hl : lv_has ls 1 [(0, .ref h0)] := hl
  refine lv_aload_n hx hb dX11_sentence_0 rfl (lv_at hl 0 rfl) ?_
  refine va_get (D := (dC, dI)) (ci := 10) (v := .ref h1) (C := RX11) (T := TX11) (N := 19) hx hb hts ii_X11_sentence_X11 hown hK hP 0 rfl rfl 0 (by decide) (hts _ mm_X11_sentence_1) (fun _ h9 => h9) rfl dX11_sentence_1 ?_
  refine lv_sipush (v := 200) hx hb dX11_sentence_4 (by decide) ?_
  have hPc := hP.sub (ws' := [(h1, .inr (9, [.ref h16, .int 0, .int 0, .int 0, .int 0, .int 0, .int 0, .ref (ad 25), .long 0, .int 0, .long 0, .int 0, .int 0, .int 0, .int 0]))]) [1] rfl
  have hDc := hD.sub (ws' := [(h1, .inr (9, [.ref h16, .int 0, .int 0, .int 0, .int 0, .int 0, .int 0, .ref (ad 25), .long 0, .int 0, .long 0, .int 0, .int 0, .int 0, .int 0]))]) [1] (by decide) rfl
  have hKc := hK.sub (tys' := []) [] rfl
  have hFc := va_free (wc := [(h1, .inr (9, [.ref h16, .int 0, .int 0, .int 0, .int 0, .int 0, .int 0, .ref (ad 25), .long 0, .int 0, .long 0, .int 0, .int 0, .int 0, .int 0]))]) hD hS hA [1] rfl
  refine va_callv (va_runV (As := [.int 200]) (rest := []) ⟨hx, hb, hml, hown, hts⟩ (k_X8_open_2 l dC dI ad h1 h16 s.heap.size) (cwV 1 hts gX11_sentence_X8_open rfl rfl rfl (by decide +kernel) ⟨Nat.le_of_ble_eq_true rfl, Nat.le_of_ble_eq_true rfl⟩) ⟨fun a U g mk q => ⟨q.1, CP.blind q.2⟩, va_recv hKc hPc (ci := 9) (q0 := 0) rfl rfl, fun U hU hW => ⟨rfl, CP.of hPc hKc hDc hE hS hFc hU hW⟩⟩ rfl rfl hl.1 rfl (lv_room (Nat.le_of_ble_eq_true rfl)) dX11_sentence_7 ⟨Nat.le_of_ble_eq_true rfl, Nat.le_of_ble_eq_true rfl⟩) hS (fun q _ h => hFc q h) hFc (fun u t H1 locs ht hvm hw hB hz1 hk1 hS => ?_)
  obtain ⟨hP1, hK1, hD1⟩ := hB
  rw [ht] at hP1
  obtain ⟨hP, hD⟩ := va_join (wr := [(h0, .inr (10, [.ref h1, .ref h2, .ref h3, .ref h4, .ref h5, .ref h6, .ref h7, .ref h8, .ref h9, .ref h10, .ref h11, .ref h12, .ref h13, .ref h14, .ref h15, .int (-1), .int 0, .int (-1), .int (-1)])), (h7, .inr (8, [.ref h17, .ref h18, .ref h19, .int 0, .int 0]))]) (w1 := [(h1, .inr (9, [.ref h16, .int 0, .int 200, .int 0, .int 3, .int 0, .int 0, .ref (ad 25), .long 0, .int 0, .long 0, .int 0, .int 0, .int 0, .int 0]))]) hP hD [1] [0, 2] rfl rfl (by decide) (by decide) hk1 hFc hP1 hD1
  generalize H1 = H at hP hS ⊢
  clear hPc hDc hKc hFc hP1 hD1 hK1 hk1 hz1
  have hP : va_P (dC, dI) vwCl [(h0, .inr (10, [.ref h1, .ref h2, .ref h3, .ref h4, .ref h5, .ref h6, .ref h7, .ref h8, .ref h9, .ref h10, .ref h11, .ref h12, .ref h13, .ref h14, .ref h15, .int (-1), .int 0, .int (-1), .int (-1)])), (h7, .inr (8, [.ref h17, .ref h18, .ref h19, .int 0, .int 0])), (h1, .inr (9, [.ref h16, .int 0, .int 200, .int 0, .int 3, .int 0, .int 0, .ref (ad 25), .long 0, .int 0, .long 0, .int 0, .int 0, .int 0, .int 0]))] H := hP
  have hD : va_D A [(h0, .inr (10, [.ref h1, .ref h2, .ref h3, .ref h4, .ref h5, .ref h6, .ref h7, .ref h8, .ref h9, .ref h10, .ref h11, .ref h12, .ref h13, .ref h14, .ref h15, .int (-1), .int 0, .int (-1), .int (-1)])), (h7, .inr (8, [.ref h17, .ref h18, .ref h19, .int 0, .int 0])), (h1, .inr (9, [.ref h16, .int 0, .int 200, .int 0, .int 3, .int 0, .int 0, .ref (ad 25), .long 0, .int 0, .long 0, .int 0, .int 0, .int 0, .int 0]))] := hD
  refine lv_aload_n hx hb dX11_sentence_10 rfl (lv_at hl 0 rfl) ?_
  refine va_get (D := (dC, dI)) (ci := 10) (v := .ref h7) (C := RX11) (T := TX11) (N := 19) hx hb hts ii_X11_sentence_X11 hown hK hP 0 rfl rfl 6 (by decide) (hts _ mm_X11_sentence_2) (fun _ h9 => h9) rfl dX11_sentence_11 ?_
  have hPc := hP.sub (ws' := [(h7, .inr (8, [.ref h17, .ref h18, .ref h19, .int 0, .int 0]))]) [1] rfl
  have hDc := hD.sub (ws' := [(h7, .inr (8, [.ref h17, .ref h18, .ref h19, .int 0, .int 0]))]) [1] (by decide) rfl
  have hKc := hK.sub (tys' := []) [] rfl
  have hFc := va_free (wc := [(h7, .inr (8, [.ref h17, .ref h18, .ref h19, .int 0, .int 0]))]) hD hS hA [1] rfl
  refine va_callv (va_runV (As := []) (rest := []) ⟨hx, hb, hml, hown, hts⟩ (k_X7_clear l dC dI ad h7 h17 h18 h19 H.size) (cwV 0 hts gX11_sentence_X7_clear rfl rfl rfl (by decide +kernel) ⟨Nat.le_of_ble_eq_true rfl, Nat.le_of_ble_eq_true rfl⟩) ⟨fun a U g mk q => ⟨q.1, CP.blind q.2⟩, va_recv hKc hPc (ci := 8) (q0 := 0) rfl rfl, fun U hU hW => ⟨rfl, CP.of hPc hKc hDc hE hS hFc hU hW⟩⟩ rfl rfl hl.1 rfl (lv_room (Nat.le_of_ble_eq_true rfl)) dX11_sentence_14 ⟨Nat.le_of_ble_eq_true rfl, Nat.le_of_ble_eq_true rfl⟩) hS (fun q _ h => hFc q h) hFc (fun u t H1 locs ht hvm hw hB hz1 hk1 hS => ?_)
  obtain ⟨hP1, hK1, hD1⟩ := hB
  rw [ht] at hP1
  obtain ⟨hP, hD⟩ := va_join (wr := [(h0, .inr (10, [.ref h1, .ref h2, .ref h3, .ref h4, .ref h5, .ref h6, .ref h7, .ref h8, .ref h9, .ref h10, .ref h11, .ref h12, .ref h13, .ref h14, .ref h15, .int (-1), .int 0, .int (-1), .int (-1)])), (h1, .inr (9, [.ref h16, .int 0, .int 200, .int 0, .int 3, .int 0, .int 0, .ref (ad 25), .long 0, .int 0, .long 0, .int 0, .int 0, .int 0, .int 0]))]) (w1 := [(h7, .inr (8, [.ref h17, .ref h18, .ref h19, .int 0, .int 0]))]) hP hD [1] [0, 2] rfl rfl (by decide) (by decide) hk1 hFc hP1 hD1
  generalize H1 = H at hP hS ⊢
  clear hPc hDc hKc hFc hP1 hD1 hK1 hk1 hz1
  have hP : va_P (dC, dI) vwCl [(h0, .inr (10, [.ref h1, .ref h2, .ref h3, .ref h4, .ref h5, .ref h6, .ref h7, .ref h8, .ref h9, .ref h10, .ref h11, .ref h12, .ref h13, .ref h14, .ref h15, .int (-1), .int 0, .int (-1), .int (-1)])), (h1, .inr (9, [.ref h16, .int 0, .int 200, .int 0, .int 3, .int 0, .int 0, .ref (ad 25), .long 0, .int 0, .long 0, .int 0, .int 0, .int 0, .int 0])), (h7, .inr (8, [.ref h17, .ref h18, .ref h19, .int 0, .int 0]))] H := hP
  have hD : va_D A [(h0, .inr (10, [.ref h1, .ref h2, .ref h3, .ref h4, .ref h5, .ref h6, .ref h7, .ref h8, .ref h9, .ref h10, .ref h11, .ref h12, .ref h13, .ref h14, .ref h15, .int (-1), .int 0, .int (-1), .int (-1)])), (h1, .inr (9, [.ref h16, .int 0, .int 200, .int 0, .int 3, .int 0, .int 0, .ref (ad 25), .long 0, .int 0, .long 0, .int 0, .int 0, .int 0, .int 0])), (h7, .inr (8, [.ref h17, .ref h18, .ref h19, .int 0, .int 0]))] := hD
  refine lv_aload_n hx hb dX11_sentence_17 rfl (lv_at hl 0 rfl) ?_
  refine va_get (D := (dC, dI)) (ci := 10) (v := .ref h7) (C := RX11) (T := TX11) (N := 19) hx hb hts ii_X11_sentence_X11 hown hK hP 0 rfl rfl 6 (by decide) (hts _ mm_X11_sentence_2) (fun _ h9 => h9) rfl dX11_sentence_18 ?_
  refine lv_aload_n hx hb dX11_sentence_21 rfl (lv_at hl 0 rfl) ?_
  refine va_get (D := (dC, dI)) (ci := 10) (v := .ref h1) (C := RX11) (T := TX11) (N := 19) hx hb hts ii_X11_sentence_X11 hown hK hP 0 rfl rfl 0 (by decide) (hts _ mm_X11_sentence_1) (fun _ h9 => h9) rfl dX11_sentence_22 ?_
  refine lv_aload_n hx hb dX11_sentence_25 rfl (lv_at hl 0 rfl) ?_
  refine va_get (D := (dC, dI)) (ci := 10) (v := .ref h2) (C := RX11) (T := TX11) (N := 19) hx hb hts ii_X11_sentence_X11 hown hK hP 0 rfl rfl 1 (by decide) (hts _ mm_X11_sentence_3) (fun _ h9 => h9) rfl dX11_sentence_26 ?_
  refine lv_iconst (v := 1) hx hb dX11_sentence_29 (by decide) ?_
  have hPc := hP.sub (ws' := [(h1, .inr (9, [.ref h16, .int 0, .int 200, .int 0, .int 3, .int 0, .int 0, .ref (ad 25), .long 0, .int 0, .long 0, .int 0, .int 0, .int 0, .int 0])), (h7, .inr (8, [.ref h17, .ref h18, .ref h19, .int 0, .int 0]))]) [1, 2] rfl
  have hDc := hD.sub (ws' := [(h1, .inr (9, [.ref h16, .int 0, .int 200, .int 0, .int 3, .int 0, .int 0, .ref (ad 25), .long 0, .int 0, .long 0, .int 0, .int 0, .int 0, .int 0])), (h7, .inr (8, [.ref h17, .ref h18, .ref h19, .int 0, .int 0]))]) [1, 2] (by decide) rfl
  have hKc := hK.sub (tys' := []) [] rfl
  have hFc := va_free (wc := [(h1, .inr (9, [.ref h16, .int 0, .int 200, .int 0, .int 3, .int 0, .int 0, .ref (ad 25), .long 0, .int 0, .long 0, .int 0, .int 0, .int 0, .int 0])), (h7, .inr (8, [.ref h17, .ref h18, .ref h19, .int 0, .int 0]))]) hD hS hA [1, 2] rfl
  refine va_calli (va_runVN (As := [.ref h1, .ref h2, .int 1]) (rest := []) ⟨hx, hb, hml, hown, hts⟩ (k_X7_readCond l dC dI ad h7 h1 h2 h16 h17 h18 h19 H.size) (⟨va_cnB 3 hts gX11_sentence_X7_readCond_n357 rfl rfl rfl (nm_X11_357 hE) (hts _ mm_X11_sentence_99) (by decide +kernel) ⟨Nat.le_of_ble_eq_true rfl, Nat.le_of_ble_eq_true rfl⟩, (hts _ mm_X11_sentence_103), (hts _ mm_X11_sentence_104)⟩) ⟨fun a U g mk q => ⟨q.1, CP.blind q.2⟩, va_recv hKc hPc (ci := 8) (q0 := 1) rfl rfl, fun U hU hW => ⟨rfl, CP.of hPc hKc hDc hE hS hFc hU hW⟩⟩ rfl rfl hl.1 rfl (lv_room (Nat.le_of_ble_eq_true rfl)) dX11_sentence_30 ⟨Nat.le_of_ble_eq_true rfl, Nat.le_of_ble_eq_true rfl⟩) hS (fun q _ h => hFc q h) hFc (fun r1 u t H1 locs ht hvm hw hB hz1 hk1 hS => ?_)
  obtain ⟨hP1, hK1, hD1⟩ := hB
  rw [ht] at hP1
  obtain ⟨hP, hD⟩ := va_join (wr := [(h0, .inr (10, [.ref h1, .ref h2, .ref h3, .ref h4, .ref h5, .ref h6, .ref h7, .ref h8, .ref h9, .ref h10, .ref h11, .ref h12, .ref h13, .ref h14, .ref h15, .int (-1), .int 0, .int (-1), .int (-1)]))]) (w1 := [(h7, .inr (8, [.ref h17, .ref h18, .ref h19, .int 0, .int 0])), (h1, .inr (9, [.ref h16, .int 0, .int 200, .int 0, .int 3, .int 0, .int 0, .ref (ad 25), .long 0, .int 0, .long 0, .int 0, .int 0, .int 1, .int 0]))]) hP hD [1, 2] [0] rfl rfl (by decide) (by decide) hk1 hFc hP1 hD1
  generalize H1 = H at hP hS ⊢
  clear hPc hDc hKc hFc hP1 hD1 hK1 hk1 hz1
  have hP : va_P (dC, dI) vwCl [(h0, .inr (10, [.ref h1, .ref h2, .ref h3, .ref h4, .ref h5, .ref h6, .ref h7, .ref h8, .ref h9, .ref h10, .ref h11, .ref h12, .ref h13, .ref h14, .ref h15, .int (-1), .int 0, .int (-1), .int (-1)])), (h7, .inr (8, [.ref h17, .ref h18, .ref h19, .int 0, .int 0])), (h1, .inr (9, [.ref h16, .int 0, .int 200, .int 0, .int 3, .int 0, .int 0, .ref (ad 25), .long 0, .int 0, .long 0, .int 0, .int 0, .int 1, .int 0]))] H := hP
  have hD : va_D A [(h0, .inr (10, [.ref h1, .ref h2, .ref h3, .ref h4, .ref h5, .ref h6, .ref h7, .ref h8, .ref h9, .ref h10, .ref h11, .ref h12, .ref h13, .ref h14, .ref h15, .int (-1), .int 0, .int (-1), .int (-1)])), (h7, .inr (8, [.ref h17, .ref h18, .ref h19, .int 0, .int 0])), (h1, .inr (9, [.ref h16, .int 0, .int 200, .int 0, .int 3, .int 0, .int 0, .ref (ad 25), .long 0, .int 0, .long 0, .int 0, .int 0, .int 1, .int 0]))] := hD
  refine zz_top (v := 0) hw ?_
  refine lv_pop hx hb dX11_sentence_33 rfl ?_
  refine lv_aload_n hx hb dX11_sentence_34 rfl (lv_at hl 0 rfl) ?_
  have hPc := hP.sub (ws' := [(h0, .inr (10, [.ref h1, .ref h2, .ref h3, .ref h4, .ref h5, .ref h6, .ref h7, .ref h8, .ref h9, .ref h10, .ref h11, .ref h12, .ref h13, .ref h14, .ref h15, .int (-1), .int 0, .int (-1), .int (-1)])), (h1, .inr (9, [.ref h16, .int 0, .int 200, .int 0, .int 3, .int 0, .int 0, .ref (ad 25), .long 0, .int 0, .long 0, .int 0, .int 0, .int 1, .int 0]))]) [0, 2] rfl
  have hDc := hD.sub (ws' := [(h0, .inr (10, [.ref h1, .ref h2, .ref h3, .ref h4, .ref h5, .ref h6, .ref h7, .ref h8, .ref h9, .ref h10, .ref h11, .ref h12, .ref h13, .ref h14, .ref h15, .int (-1), .int 0, .int (-1), .int (-1)])), (h1, .inr (9, [.ref h16, .int 0, .int 200, .int 0, .int 3, .int 0, .int 0, .ref (ad 25), .long 0, .int 0, .long 0, .int 0, .int 0, .int 1, .int 0]))]) [0, 2] (by decide) rfl
  have hKc := hK.sub (tys' := []) [] rfl
  have hFc := va_free (wc := [(h0, .inr (10, [.ref h1, .ref h2, .ref h3, .ref h4, .ref h5, .ref h6, .ref h7, .ref h8, .ref h9, .ref h10, .ref h11, .ref h12, .ref h13, .ref h14, .ref h15, .int (-1), .int 0, .int (-1), .int (-1)])), (h1, .inr (9, [.ref h16, .int 0, .int 200, .int 0, .int 3, .int 0, .int 0, .ref (ad 25), .long 0, .int 0, .long 0, .int 0, .int 0, .int 1, .int 0]))]) hD hS hA [0, 2] rfl
  refine va_callv (va_runV (As := []) (rest := []) ⟨hx, hb, hml, hown, hts⟩ (k_X11_closeTape_2 l dC dI ad h0 h1 h2 h3 h4 h5 h6 h7 h8 h9 h10 h11 h12 h13 h14 h15 h16 H.size) (cwV 0 hts gX11_sentence_X11_closeTape rfl rfl rfl (by decide +kernel) ⟨Nat.le_of_ble_eq_true rfl, Nat.le_of_ble_eq_true rfl⟩) ⟨fun a U g mk q => ⟨q.1, CP.blind q.2⟩, va_recv hKc hPc (ci := 10) (q0 := 0) rfl rfl, fun U hU hW => ⟨rfl, CP.of hPc hKc hDc hE hS hFc hU hW⟩⟩ rfl rfl hl.1 rfl (lv_room (Nat.le_of_ble_eq_true rfl)) dX11_sentence_35 ⟨Nat.le_of_ble_eq_true rfl, Nat.le_of_ble_eq_true rfl⟩) hS (fun q _ h => hFc q h) hFc (fun u t H1 locs ht hvm hw hB hz1 hk1 hS => ?_)
  obtain ⟨hP1, hK1, hD1⟩ := hB
  rw [ht] at hP1
  obtain ⟨hP, hD⟩ := va_join (wr := [(h7, .inr (8, [.ref h17, .ref h18, .ref h19, .int 0, .int 0]))]) (w1 := [(h0, .inr (10, [.ref h1, .ref h2, .ref h3, .ref h4, .ref h5, .ref h6, .ref h7, .ref h8, .ref h9, .ref h10, .ref h11, .ref h12, .ref h13, .ref h14, .ref h15, .int (-1), .int 1, .int (-1), .int (-1)])), (h1, .inr (9, [.ref h16, .int 0, .int 200, .int 0, .int 3, .int 0, .int 0, .ref (ad 25), .long 0, .int 0, .long 0, .int 0, .int 0, .int 1, .int 0]))]) hP hD [0, 2] [1] rfl rfl (by decide) (by decide) hk1 hFc hP1 hD1
  generalize H1 = H at hP hS ⊢
  clear hPc hDc hKc hFc hP1 hD1 hK1 hk1 hz1
  have hP : va_P (dC, dI) vwCl [(h7, .inr (8, [.ref h17, .ref h18, .ref h19, .int 0, .int 0])), (h0, .inr (10, [.ref h1, .ref h2, .ref h3, .ref h4, .ref h5, .ref h6, .ref h7, .ref h8, .ref h9, .ref h10, .ref h11, .ref h12, .ref h13, .ref h14, .ref h15, .int (-1), .int 1, .int (-1), .int (-1)])), (h1, .inr (9, [.ref h16, .int 0, .int 200, .int 0, .int 3, .int 0, .int 0, .ref (ad 25), .long 0, .int 0, .long 0, .int 0, .int 0, .int 1, .int 0]))] H := hP
  have hD : va_D A [(h7, .inr (8, [.ref h17, .ref h18, .ref h19, .int 0, .int 0])), (h0, .inr (10, [.ref h1, .ref h2, .ref h3, .ref h4, .ref h5, .ref h6, .ref h7, .ref h8, .ref h9, .ref h10, .ref h11, .ref h12, .ref h13, .ref h14, .ref h15, .int (-1), .int 1, .int (-1), .int (-1)])), (h1, .inr (9, [.ref h16, .int 0, .int 200, .int 0, .int 3, .int 0, .int 0, .ref (ad 25), .long 0, .int 0, .long 0, .int 0, .int 0, .int 1, .int 0]))] := hD
  refine lv_aload_n hx hb dX11_sentence_38 rfl (lv_at hl 0 rfl) ?_
  refine va_get (D := (dC, dI)) (ci := 10) (v := .int 1) (C := RX11) (T := TX11) (N := 19) hx hb hts ii_X11_sentence_X11 hown hK hP 1 rfl rfl 16 (by decide) (hts _ mm_X11_sentence_4) (fun _ h9 => h9) rfl dX11_sentence_39 ?_
  refine lv_if_eq (tgt := 55) hx hb dX11_sentence_42 (by decide) (fun c2 => absurd c2 (by decide)) (fun _ => ?_)
  refine lv_iconst (v := (-1)) hx hb dX11_sentence_45 (by decide) ?_
  refine lv_aload_n hx hb dX11_sentence_46 rfl (lv_at hl 0 rfl) ?_
  refine va_get (D := (dC, dI)) (ci := 10) (v := .ref h1) (C := RX11) (T := TX11) (N := 19) hx hb hts ii_X11_sentence_X11 hown hK hP 1 rfl rfl 0 (by decide) (hts _ mm_X11_sentence_1) (fun _ h9 => h9) rfl dX11_sentence_47 ?_
  refine va_getN (host := "OffTheLead") (D := (dC, dI)) (ci := 9) (v := .int 0) (C := RX8) (T := TX8) (N := 15) hx hb hts ii_X11_sentence_X8 hown hK hP 2 rfl rfl 14 (by decide) (va_Nw.use rfl (nf_X11_120 hE)) (fun _ h9 => h9) rfl dX11_sentence_50 ?_
  refine lv_isub hx hb dX11_sentence_53 ?_
  refine zz_top (v := (-1)) (by decide) ?_
  have hP9 := hP.sub (ws' := []) [] rfl
  have hD9 := hD.sub (ws' := []) [] (by decide) rfl
  have hK9 := hK.sub (tys' := []) [] rfl
  refine W.widen (k := 0) (n := 0) (Nat.le_of_ble_eq_true rfl) (Nat.le_of_ble_eq_true rfl) ?_
  exact W.iret (v := (-1)) hx hb hr (fun t ht hW => ⟨⟨(-1), (), rfl, rfl, by rw [ht]; exact hP9, va_K.moved hW.alike hK9, hD9⟩, hS.F ht⟩) hS.2.2 dX11_sentence_54
set_option maxHeartbeats 4000000 in
set_option maxRecDepth 100000 in
theorem k_X11_said (l : Launch) (dC : Nat → ClassId) (dI : Nat → Nat → Nat) (ad : Nat → Nat) (h0 h1 h2 h3 h4 h5 h6 h7 h8 h9 h10 h11 h12 h13 h14 h15 h16 h17 h18 : Nat) (p0 : Int32) (sz : Nat) : Met l yX11_said wsX11_said ({ frames := 0, cells := 0, slots := 0, locals := 0 }) (va_Pc [.ref h0, .int p0] (CP (dC, dI) [(h0, .inr (10, [.ref h1, .ref h2, .ref h3, .ref h4, .ref h5, .ref h6, .ref h7, .ref h8, .ref h9, .ref h10, .ref h11, .ref h12, .ref h13, .ref h14, .ref h15, .int (-1), .int 0, .int (-1), .int (-1)])), (h6, .inr (8, [.ref h16, .ref h17, .ref h18, .int 0, .int 0]))] [] sz ad)) (va_Qi (fun (r : Int32) (_ : Unit) => r = (-1)) (fun (_ : Unit) (t : State) => CQ (dC, dI) [] [] (va_A [(h0, .inr (10, [.ref h1, .ref h2, .ref h3, .ref h4, .ref h5, .ref h6, .ref h7, .ref h8, .ref h9, .ref h10, .ref h11, .ref h12, .ref h13, .ref h14, .ref h15, .int (-1), .int 0, .int (-1), .int (-1)])), (h6, .inr (8, [.ref h16, .ref h17, .ref h18, .int 0, .int 0]))] sz) t) (va_A [(h0, .inr (10, [.ref h1, .ref h2, .ref h3, .ref h4, .ref h5, .ref h6, .ref h7, .ref h8, .ref h9, .ref h10, .ref h11, .ref h12, .ref h13, .ref h14, .ref h15, .int (-1), .int 0, .int (-1), .int (-1)])), (h6, .inr (8, [.ref h16, .ref h17, .ref h18, .int 0, .int 0]))] sz)) 0 0 (va_A [(h0, .inr (10, [.ref h1, .ref h2, .ref h3, .ref h4, .ref h5, .ref h6, .ref h7, .ref h8, .ref h9, .ref h10, .ref h11, .ref h12, .ref h13, .ref h14, .ref h15, .int (-1), .int 0, .int (-1), .int (-1)])), (h6, .inr (8, [.ref h16, .ref h17, .ref h18, .int 0, .int 0]))] sz) := by
  refine Met.ofW (cc := cX11_said) (maxL := 4) (ret := (some .int)) (by decide) rfl ?_
  intro p e s m args below meth c s₁ B hml hv
  obtain ⟨rfl, hsz, hP, hK, hD0, hE⟩ := hv
  have hx := B.exec
  have hb := B.bytes
  have hr := B.returns
  have hts := atoms_spec (ws := wsX11_said) B.pre
  have hown : s.vm.findClass RX11 = some m.cls := findClass_of_methodNamed B.named
  have hlocks := B.notSynchronized
  subst hsz
  have hD := hD0.self (sz := s.heap.size)
  generalize hAe : va_A [(h0, .inr (10, [.ref h1, .ref h2, .ref h3, .ref h4, .ref h5, .ref h6, .ref h7, .ref h8, .ref h9, .ref h10, .ref h11, .ref h12, .ref h13, .ref h14, .ref h15, .int (-1), .int 0, .int (-1), .int (-1)])), (h6, .inr (8, [.ref h16, .ref h17, .ref h18, .int 0, .int 0]))] s.heap.size = A at hD hE ⊢
  have hA : ∀ q : Nat, s.heap.size ≤ q → A q := fun q h => by rw [← hAe]; exact Or.inr h
  have hS : va_S A s.heap s.heap [] := va_S.rf
  have hl := lv_entry ([.ref h0, .int p0]) (n := 4) (Nat.le_of_ble_eq_true rfl)
  rw [lg_entry_eq]
  generalize (lg_sl ([.ref h0, .int p0]) ++ List.replicate (4 - (lg_sl ([.ref h0, .int p0])).length) Slot.unset).toArray = ls at hl ⊢
  have hl : lv_has ls 4 [(0, .ref h0), (1, .int p0)] := hl
  refine lv_aload_n hx hb dX11_said_0 rfl (lv_at hl 0 rfl) ?_
  refine va_get (D := (dC, dI)) (ci := 10) (v := .ref h6) (C := RX11) (T := TX11) (N := 19) hx hb hts ii_X11_said_X11 hown hK hP 0 rfl rfl 5 (by decide) (hts _ mm_X11_said_1) (fun _ h9 => h9) rfl dX11_said_1 ?_
  refine va_getN (host := "OffTheLead") (D := (dC, dI)) (ci := 8) (v := .int 0) (C := RX7) (T := TX7) (N := 5) hx hb hts ii_X11_said_X7 hown hK hP 1 rfl rfl 4 (by decide) (va_Nw.use rfl (nf_X11_364 hE)) (fun _ h9 => h9) rfl dX11_said_4 ?_
  refine lv_if_eq (tgt := 15) hx hb dX11_said_7 (by decide) (fun _ => ?_) (fun c1 => absurd (by decide) c1)
  refine lv_iconst (v := (-1)) hx hb dX11_said_15 (by decide) ?_
  have hP9 := hP.sub (ws' := []) [] rfl
  have hD9 := hD.sub (ws' := []) [] (by decide) rfl
  have hK9 := hK.sub (tys' := []) [] rfl
  refine W.widen (k := 0) (n := 0) (Nat.le_of_ble_eq_true rfl) (Nat.le_of_ble_eq_true rfl) ?_
  exact W.iret (v := (-1)) hx hb hr (fun t ht hW => ⟨⟨(-1), (), rfl, rfl, by rw [ht]; exact hP9, va_K.moved hW.alike hK9, hD9⟩, hS.F ht⟩) hS.2.2 dX11_said_16
set_option maxHeartbeats 4000000 in
set_option maxRecDepth 100000 in
theorem k_X7_copyFrom (l : Launch) (dC : Nat → ClassId) (dI : Nat → Nat → Nat) (ad : Nat → Nat) (h0 h1 h2 h3 h4 h5 h6 h7 : Nat) (sz : Nat) : Met l yX7_copyFrom wsX7_copyFrom ({ frames := 0, cells := 0, slots := 0, locals := 0 }) (va_Pc [.ref h0, .ref h1] (CP (dC, dI) [(h1, .inr (8, [.ref h2, .ref h3, .ref h4, .int 0, .int 0])), (h0, .inr (8, [.ref h5, .ref h6, .ref h7, .int 0, .int 0]))] [] sz ad)) (va_Qv (fun _ : Unit => True) (fun (_ : Unit) (t : State) => CQ (dC, dI) [(h1, .inr (8, [.ref h2, .ref h3, .ref h4, .int 0, .int 0])), (h0, .inr (8, [.ref h5, .ref h6, .ref h7, .int 0, .int 0]))] [] (va_A [(h1, .inr (8, [.ref h2, .ref h3, .ref h4, .int 0, .int 0])), (h0, .inr (8, [.ref h5, .ref h6, .ref h7, .int 0, .int 0]))] sz) t) (va_A [(h1, .inr (8, [.ref h2, .ref h3, .ref h4, .int 0, .int 0])), (h0, .inr (8, [.ref h5, .ref h6, .ref h7, .int 0, .int 0]))] sz)) 0 0 (va_A [(h1, .inr (8, [.ref h2, .ref h3, .ref h4, .int 0, .int 0])), (h0, .inr (8, [.ref h5, .ref h6, .ref h7, .int 0, .int 0]))] sz) := by
  refine Met.ofW (cc := cX7_copyFrom) (maxL := 3) (ret := none) (by decide) rfl ?_
  intro p e s m args below meth c s₁ B hml hv
  obtain ⟨rfl, hsz, hP, hK, hD0, hE⟩ := hv
  have hx := B.exec
  have hb := B.bytes
  have hr := B.returns
  have hts := atoms_spec (ws := wsX7_copyFrom) B.pre
  have hown : s.vm.findClass RX7 = some m.cls := findClass_of_methodNamed B.named
  have hlocks := B.notSynchronized
  subst hsz
  have hD := hD0.self (sz := s.heap.size)
  generalize hAe : va_A [(h1, .inr (8, [.ref h2, .ref h3, .ref h4, .int 0, .int 0])), (h0, .inr (8, [.ref h5, .ref h6, .ref h7, .int 0, .int 0]))] s.heap.size = A at hD hE ⊢
  have hA : ∀ q : Nat, s.heap.size ≤ q → A q := fun q h => by rw [← hAe]; exact Or.inr h
  have hS : va_S A s.heap s.heap [] := va_S.rf
  have hl := lv_entry ([.ref h0, .ref h1]) (n := 3) (Nat.le_of_ble_eq_true rfl)
  rw [lg_entry_eq]
  generalize (lg_sl ([.ref h0, .ref h1]) ++ List.replicate (3 - (lg_sl ([.ref h0, .ref h1])).length) Slot.unset).toArray = ls at hl ⊢
  have hl : lv_has ls 3 [(0, .ref h0), (1, .ref h1)] := hl
  refine lv_aload_n hx hb dX7_copyFrom_0 rfl (lv_at hl 0 rfl) ?_
  refine lv_aload_n hx hb dX7_copyFrom_1 rfl (lv_at hl 1 rfl) ?_
  refine va_get (D := (dC, dI)) (ci := 8) (v := .int 0) (C := RX7) (T := TX7) (N := 5) hx hb hts ii_X7_copyFrom_X7 hown hK hP 0 rfl rfl 3 (by decide) (hts _ mm_X7_copyFrom_1) (fun _ h9 => h9) rfl dX7_copyFrom_2 ?_
  refine va_put (D := (dC, dI)) (ci := 8) (v := .int 0) (ty := .int) (C := RX7) (T := TX7) (N := 5) hx hb hts ii_X7_copyFrom_X7 tyX7 tyX7_ok nmX7 hown hK hP hD hS 1 rfl rfl 3 (by decide) (hts _ mm_X7_copyFrom_1) (fun _ h9 => h9) rfl (by decide +kernel) rfl rfl (Nat.le_of_ble_eq_true rfl) dX7_copyFrom_5 (fun H locs hP hD hS => ?_)
  have hP : va_P (dC, dI) vwCl [(h1, .inr (8, [.ref h2, .ref h3, .ref h4, .int 0, .int 0])), (h0, .inr (8, [.ref h5, .ref h6, .ref h7, .int 0, .int 0]))] H := hP
  have hD : va_D A [(h1, .inr (8, [.ref h2, .ref h3, .ref h4, .int 0, .int 0])), (h0, .inr (8, [.ref h5, .ref h6, .ref h7, .int 0, .int 0]))] := hD
  refine lv_aload_n hx hb dX7_copyFrom_8 rfl (lv_at hl 0 rfl) ?_
  refine lv_aload_n hx hb dX7_copyFrom_9 rfl (lv_at hl 1 rfl) ?_
  refine va_get (D := (dC, dI)) (ci := 8) (v := .int 0) (C := RX7) (T := TX7) (N := 5) hx hb hts ii_X7_copyFrom_X7 hown hK hP 0 rfl rfl 4 (by decide) (hts _ mm_X7_copyFrom_2) (fun _ h9 => h9) rfl dX7_copyFrom_10 ?_
  refine va_put (D := (dC, dI)) (ci := 8) (v := .int 0) (ty := .int) (C := RX7) (T := TX7) (N := 5) hx hb hts ii_X7_copyFrom_X7 tyX7 tyX7_ok nmX7 hown hK hP hD hS 1 rfl rfl 4 (by decide) (hts _ mm_X7_copyFrom_2) (fun _ h9 => h9) rfl (by decide +kernel) rfl rfl (Nat.le_of_ble_eq_true rfl) dX7_copyFrom_13 (fun H locs hP hD hS => ?_)
  have hP : va_P (dC, dI) vwCl [(h1, .inr (8, [.ref h2, .ref h3, .ref h4, .int 0, .int 0])), (h0, .inr (8, [.ref h5, .ref h6, .ref h7, .int 0, .int 0]))] H := hP
  have hD : va_D A [(h1, .inr (8, [.ref h2, .ref h3, .ref h4, .int 0, .int 0])), (h0, .inr (8, [.ref h5, .ref h6, .ref h7, .int 0, .int 0]))] := hD
  refine lv_iconst (v := 0) hx hb dX7_copyFrom_16 (by decide) ?_
  refine lv_istore_n (lv' := [(2, .int 0), (0, .ref h0), (1, .ref h1)]) hx hb dX7_copyFrom_17 rfl hl (by decide) rfl (fun ls hl => ?_)
  refine lv_iload_n hx hb dX7_copyFrom_18 rfl (lv_at hl 0 rfl) ?_
  refine lv_aload_n hx hb dX7_copyFrom_19 rfl (lv_at hl 1 rfl) ?_
  refine va_get (D := (dC, dI)) (ci := 8) (v := .int 0) (C := RX7) (T := TX7) (N := 5) hx hb hts ii_X7_copyFrom_X7 hown hK hP 1 rfl rfl 3 (by decide) (hts _ mm_X7_copyFrom_1) (fun _ h9 => h9) rfl dX7_copyFrom_20 ?_
  refine lv_icmp_ge (tgt := 68) hx hb dX7_copyFrom_23 (by decide) (fun _ => ?_) (fun c1 => absurd (by decide) c1)
  have hP9 := hP.sub (ws' := [(h1, .inr (8, [.ref h2, .ref h3, .ref h4, .int 0, .int 0])), (h0, .inr (8, [.ref h5, .ref h6, .ref h7, .int 0, .int 0]))]) [0, 1] rfl
  have hD9 := hD.sub (ws' := [(h1, .inr (8, [.ref h2, .ref h3, .ref h4, .int 0, .int 0])), (h0, .inr (8, [.ref h5, .ref h6, .ref h7, .int 0, .int 0]))]) [0, 1] (by decide) rfl
  have hK9 := hK.sub (tys' := []) [] rfl
  refine W.widen (k := 0) (n := 0) (Nat.le_of_ble_eq_true rfl) (Nat.le_of_ble_eq_true rfl) ?_
  exact W.vret hx hb hr (fun t ht hW => ⟨⟨(), rfl, trivial, by rw [ht]; exact hP9, va_K.moved hW.alike hK9, hD9⟩, hS.F ht⟩) hS.2.2 dX7_copyFrom_68
set_option maxHeartbeats 4000000 in
set_option maxRecDepth 100000 in
theorem k_X11_image (l : Launch) (dC : Nat → ClassId) (dI : Nat → Nat → Nat) (ad : Nat → Nat) (h0 h1 h2 h3 h4 h5 h6 h7 h8 h9 h10 h11 h12 h13 h14 h15 h16 h17 h18 h19 h20 h21 h22 h23 h24 h25 h26 h27 h28 h29 h30 h31 h32 h33 h34 h35 : Nat) (w0 w1 w2 : ClassId) (sz : Nat) : Met l yX11_image wsX11_image ({ frames := 1, cells := 0, slots := 0, locals := 22 }) (va_Pc [.ref h0, .int 0] (CP (dC, dI) [(h0, .inr (10, [.ref h1, .ref h2, .ref h3, .ref h4, .ref h5, .ref h6, .ref h7, .ref h8, .ref h9, .ref h10, .ref h11, .ref h12, .ref h13, .ref h14, .ref h15, .int (-1), .int 0, .int (-1), .int (-1)])), (h2, .inr (5, [.ref h16, .ref h17, .ref h18, .ref h19, .ref h20, .int 0, .int 0, .int 0, .int 2, .int 0, .int 0, .int 0])), (h6, .inr (8, [.ref h21, .ref h22, .ref h23, .int 0, .int 0])), (h10, .inl (w0, 2, .inr (.inr (.inr (.inr (va_up (va_up (fun _ => none) 0 (some h24)) 1 (some h25))))))), (h11, .inl (w1, 2, .inr (.inr (.inr (.inr (va_up (va_up (fun _ => none) 0 (some h26)) 1 (some h27))))))), (h12, .inl (w2, 2, .inl (fun _ => 0))), (h24, .inr (5, [.ref h28, .ref h29, .ref h30, .ref h31, .ref h32, .int 0, .int 0, .int 0, .int 2, .int 0, .int 0, .int 0])), (h26, .inr (8, [.ref h33, .ref h34, .ref h35, .int 0, .int 0]))] [(w0, .object RX4), (w1, .object RX7), (w2, .boolean)] sz ad)) (va_Qi (fun (r : Int32) (_ : Unit) => r = 1) (fun (_ : Unit) (t : State) => CQ (dC, dI) [] [] (va_A [(h0, .inr (10, [.ref h1, .ref h2, .ref h3, .ref h4, .ref h5, .ref h6, .ref h7, .ref h8, .ref h9, .ref h10, .ref h11, .ref h12, .ref h13, .ref h14, .ref h15, .int (-1), .int 0, .int (-1), .int (-1)])), (h2, .inr (5, [.ref h16, .ref h17, .ref h18, .ref h19, .ref h20, .int 0, .int 0, .int 0, .int 2, .int 0, .int 0, .int 0])), (h6, .inr (8, [.ref h21, .ref h22, .ref h23, .int 0, .int 0])), (h10, .inl (w0, 2, .inr (.inr (.inr (.inr (va_up (va_up (fun _ => none) 0 (some h24)) 1 (some h25))))))), (h11, .inl (w1, 2, .inr (.inr (.inr (.inr (va_up (va_up (fun _ => none) 0 (some h26)) 1 (some h27))))))), (h12, .inl (w2, 2, .inl (fun _ => 0))), (h24, .inr (5, [.ref h28, .ref h29, .ref h30, .ref h31, .ref h32, .int 0, .int 0, .int 0, .int 2, .int 0, .int 0, .int 0])), (h26, .inr (8, [.ref h33, .ref h34, .ref h35, .int 0, .int 0]))] sz) t) (va_A [(h0, .inr (10, [.ref h1, .ref h2, .ref h3, .ref h4, .ref h5, .ref h6, .ref h7, .ref h8, .ref h9, .ref h10, .ref h11, .ref h12, .ref h13, .ref h14, .ref h15, .int (-1), .int 0, .int (-1), .int (-1)])), (h2, .inr (5, [.ref h16, .ref h17, .ref h18, .ref h19, .ref h20, .int 0, .int 0, .int 0, .int 2, .int 0, .int 0, .int 0])), (h6, .inr (8, [.ref h21, .ref h22, .ref h23, .int 0, .int 0])), (h10, .inl (w0, 2, .inr (.inr (.inr (.inr (va_up (va_up (fun _ => none) 0 (some h24)) 1 (some h25))))))), (h11, .inl (w1, 2, .inr (.inr (.inr (.inr (va_up (va_up (fun _ => none) 0 (some h26)) 1 (some h27))))))), (h12, .inl (w2, 2, .inl (fun _ => 0))), (h24, .inr (5, [.ref h28, .ref h29, .ref h30, .ref h31, .ref h32, .int 0, .int 0, .int 0, .int 2, .int 0, .int 0, .int 0])), (h26, .inr (8, [.ref h33, .ref h34, .ref h35, .int 0, .int 0]))] sz)) 0 0 (va_A [(h0, .inr (10, [.ref h1, .ref h2, .ref h3, .ref h4, .ref h5, .ref h6, .ref h7, .ref h8, .ref h9, .ref h10, .ref h11, .ref h12, .ref h13, .ref h14, .ref h15, .int (-1), .int 0, .int (-1), .int (-1)])), (h2, .inr (5, [.ref h16, .ref h17, .ref h18, .ref h19, .ref h20, .int 0, .int 0, .int 0, .int 2, .int 0, .int 0, .int 0])), (h6, .inr (8, [.ref h21, .ref h22, .ref h23, .int 0, .int 0])), (h10, .inl (w0, 2, .inr (.inr (.inr (.inr (va_up (va_up (fun _ => none) 0 (some h24)) 1 (some h25))))))), (h11, .inl (w1, 2, .inr (.inr (.inr (.inr (va_up (va_up (fun _ => none) 0 (some h26)) 1 (some h27))))))), (h12, .inl (w2, 2, .inl (fun _ => 0))), (h24, .inr (5, [.ref h28, .ref h29, .ref h30, .ref h31, .ref h32, .int 0, .int 0, .int 0, .int 2, .int 0, .int 0, .int 0])), (h26, .inr (8, [.ref h33, .ref h34, .ref h35, .int 0, .int 0]))] sz) := by
  refine Met.ofW (cc := cX11_image) (maxL := 2) (ret := (some .boolean)) (by decide) rfl ?_
  intro p e s m args below meth c s₁ B hml hv
  obtain ⟨rfl, hsz, hP, hK, hD0, hE⟩ := hv
  have hx := B.exec
  have hb := B.bytes
  have hr := B.returns
  have hts := atoms_spec (ws := wsX11_image) B.pre
  have hown : s.vm.findClass RX11 = some m.cls := findClass_of_methodNamed B.named
  have hlocks := B.notSynchronized
  subst hsz
  have hD := hD0.self (sz := s.heap.size)
  generalize hAe : va_A [(h0, .inr (10, [.ref h1, .ref h2, .ref h3, .ref h4, .ref h5, .ref h6, .ref h7, .ref h8, .ref h9, .ref h10, .ref h11, .ref h12, .ref h13, .ref h14, .ref h15, .int (-1), .int 0, .int (-1), .int (-1)])), (h2, .inr (5, [.ref h16, .ref h17, .ref h18, .ref h19, .ref h20, .int 0, .int 0, .int 0, .int 2, .int 0, .int 0, .int 0])), (h6, .inr (8, [.ref h21, .ref h22, .ref h23, .int 0, .int 0])), (h10, .inl (w0, 2, .inr (.inr (.inr (.inr (va_up (va_up (fun _ => none) 0 (some h24)) 1 (some h25))))))), (h11, .inl (w1, 2, .inr (.inr (.inr (.inr (va_up (va_up (fun _ => none) 0 (some h26)) 1 (some h27))))))), (h12, .inl (w2, 2, .inl (fun _ => 0))), (h24, .inr (5, [.ref h28, .ref h29, .ref h30, .ref h31, .ref h32, .int 0, .int 0, .int 0, .int 2, .int 0, .int 0, .int 0])), (h26, .inr (8, [.ref h33, .ref h34, .ref h35, .int 0, .int 0]))] s.heap.size = A at hD hE ⊢
  have hA : ∀ q : Nat, s.heap.size ≤ q → A q := fun q h => by rw [← hAe]; exact Or.inr h
  have hS : va_S A s.heap s.heap [] := va_S.rf
  have hl := lv_entry ([.ref h0, .int 0]) (n := 2) (Nat.le_of_ble_eq_true rfl)
  rw [lg_entry_eq]
  generalize (lg_sl ([.ref h0, .int 0]) ++ List.replicate (2 - (lg_sl ([.ref h0, .int 0])).length) Slot.unset).toArray = ls at hl ⊢
  have hl : lv_has ls 2 [(0, .ref h0), (1, .int 0)] := hl
  refine lv_iload_n hx hb dX11_image_0 rfl (lv_at hl 1 rfl) ?_
  refine lv_if_lt (tgt := 9) hx hb dX11_image_1 (by decide) (fun c1 => absurd c1 (by decide)) (fun _ => ?_)
  refine lv_iload_n hx hb dX11_image_4 rfl (lv_at hl 1 rfl) ?_
  refine lv_iconst (v := 2) hx hb dX11_image_5 (by decide) ?_
  refine lv_icmp_lt (tgt := 11) hx hb dX11_image_6 (by decide) (fun _ => ?_) (fun c2 => absurd (by decide) c2)
  refine lv_aload_n hx hb dX11_image_11 rfl (lv_at hl 0 rfl) ?_
  refine va_get (D := (dC, dI)) (ci := 10) (v := .ref h10) (C := RX11) (T := TX11) (N := 19) hx hb hts ii_X11_image_X11 hown hK hP 0 rfl rfl 9 (by decide) (hts _ mm_X11_image_1) (fun _ h9 => h9) rfl dX11_image_12 ?_
  refine lv_iload_n hx hb dX11_image_15 rfl (lv_at hl 1 rfl) ?_
  refine va_aldq hx hb hK hP 3 0 rfl rfl (i := 0) (zz_in (by decide)) dX11_image_16 ?_
  refine zz_topq (r := some h24) (by rfl) ?_
  refine lv_aload_n hx hb dX11_image_17 rfl (lv_at hl 0 rfl) ?_
  refine va_get (D := (dC, dI)) (ci := 10) (v := .ref h2) (C := RX11) (T := TX11) (N := 19) hx hb hts ii_X11_image_X11 hown hK hP 0 rfl rfl 1 (by decide) (hts _ mm_X11_image_2) (fun _ h9 => h9) rfl dX11_image_18 ?_
  have hPc := hP.sub (ws' := [(h2, .inr (5, [.ref h16, .ref h17, .ref h18, .ref h19, .ref h20, .int 0, .int 0, .int 0, .int 2, .int 0, .int 0, .int 0])), (h24, .inr (5, [.ref h28, .ref h29, .ref h30, .ref h31, .ref h32, .int 0, .int 0, .int 0, .int 2, .int 0, .int 0, .int 0]))]) [1, 6] rfl
  have hDc := hD.sub (ws' := [(h2, .inr (5, [.ref h16, .ref h17, .ref h18, .ref h19, .ref h20, .int 0, .int 0, .int 0, .int 2, .int 0, .int 0, .int 0])), (h24, .inr (5, [.ref h28, .ref h29, .ref h30, .ref h31, .ref h32, .int 0, .int 0, .int 0, .int 2, .int 0, .int 0, .int 0]))]) [1, 6] (by decide) rfl
  have hKc := hK.sub (tys' := []) [] rfl
  have hFc := va_free (wc := [(h2, .inr (5, [.ref h16, .ref h17, .ref h18, .ref h19, .ref h20, .int 0, .int 0, .int 0, .int 2, .int 0, .int 0, .int 0])), (h24, .inr (5, [.ref h28, .ref h29, .ref h30, .ref h31, .ref h32, .int 0, .int 0, .int 0, .int 2, .int 0, .int 0, .int 0]))]) hD hS hA [1, 6] rfl
  refine va_callv (va_runV (As := [.ref h2]) (rest := []) ⟨hx, hb, hml, hown, hts⟩ (k_X4_copyFrom_1 l dC dI ad h24 h2 h16 h17 h18 h19 h20 h28 h29 h30 h31 h32 s.heap.size) (cwV 1 hts gX11_image_X4_copyFrom rfl rfl rfl (by decide +kernel) ⟨Nat.le_of_ble_eq_true rfl, Nat.le_of_ble_eq_true rfl⟩) ⟨fun a U g mk q => ⟨q.1, CP.blind q.2⟩, va_recv hKc hPc (ci := 5) (q0 := 1) rfl rfl, fun U hU hW => ⟨rfl, CP.of hPc hKc hDc hE hS hFc hU hW⟩⟩ rfl rfl hl.1 rfl (lv_room (Nat.le_of_ble_eq_true rfl)) dX11_image_21 ⟨Nat.le_of_ble_eq_true rfl, Nat.le_of_ble_eq_true rfl⟩) hS (fun q _ h => hFc q h) hFc (fun u t H1 locs ht hvm hw hB hz1 hk1 hS => ?_)
  obtain ⟨hP1, hK1, hD1⟩ := hB
  rw [ht] at hP1
  obtain ⟨hP, hD⟩ := va_join (wr := [(h0, .inr (10, [.ref h1, .ref h2, .ref h3, .ref h4, .ref h5, .ref h6, .ref h7, .ref h8, .ref h9, .ref h10, .ref h11, .ref h12, .ref h13, .ref h14, .ref h15, .int (-1), .int 0, .int (-1), .int (-1)])), (h6, .inr (8, [.ref h21, .ref h22, .ref h23, .int 0, .int 0])), (h10, .inl (w0, 2, .inr (.inr (.inr (.inr (va_up (va_up (fun _ => none) 0 (some h24)) 1 (some h25))))))), (h11, .inl (w1, 2, .inr (.inr (.inr (.inr (va_up (va_up (fun _ => none) 0 (some h26)) 1 (some h27))))))), (h12, .inl (w2, 2, .inl (fun _ => 0))), (h26, .inr (8, [.ref h33, .ref h34, .ref h35, .int 0, .int 0]))]) (w1 := [(h2, .inr (5, [.ref h16, .ref h17, .ref h18, .ref h19, .ref h20, .int 0, .int 0, .int 0, .int 2, .int 0, .int 0, .int 0])), (h24, .inr (5, [.ref h28, .ref h29, .ref h30, .ref h31, .ref h32, .int 0, .int 0, .int 0, .int 2, .int 0, .int 0, .int 0]))]) hP hD [1, 6] [0, 2, 3, 4, 5, 7] rfl rfl (by decide) (by decide) hk1 hFc hP1 hD1
  generalize H1 = H at hP hS ⊢
  clear hPc hDc hKc hFc hP1 hD1 hK1 hk1 hz1
  have hP : va_P (dC, dI) vwCl [(h0, .inr (10, [.ref h1, .ref h2, .ref h3, .ref h4, .ref h5, .ref h6, .ref h7, .ref h8, .ref h9, .ref h10, .ref h11, .ref h12, .ref h13, .ref h14, .ref h15, .int (-1), .int 0, .int (-1), .int (-1)])), (h6, .inr (8, [.ref h21, .ref h22, .ref h23, .int 0, .int 0])), (h10, .inl (w0, 2, .inr (.inr (.inr (.inr (va_up (va_up (fun _ => none) 0 (some h24)) 1 (some h25))))))), (h11, .inl (w1, 2, .inr (.inr (.inr (.inr (va_up (va_up (fun _ => none) 0 (some h26)) 1 (some h27))))))), (h12, .inl (w2, 2, .inl (fun _ => 0))), (h26, .inr (8, [.ref h33, .ref h34, .ref h35, .int 0, .int 0])), (h2, .inr (5, [.ref h16, .ref h17, .ref h18, .ref h19, .ref h20, .int 0, .int 0, .int 0, .int 2, .int 0, .int 0, .int 0])), (h24, .inr (5, [.ref h28, .ref h29, .ref h30, .ref h31, .ref h32, .int 0, .int 0, .int 0, .int 2, .int 0, .int 0, .int 0]))] H := hP
  have hD : va_D A [(h0, .inr (10, [.ref h1, .ref h2, .ref h3, .ref h4, .ref h5, .ref h6, .ref h7, .ref h8, .ref h9, .ref h10, .ref h11, .ref h12, .ref h13, .ref h14, .ref h15, .int (-1), .int 0, .int (-1), .int (-1)])), (h6, .inr (8, [.ref h21, .ref h22, .ref h23, .int 0, .int 0])), (h10, .inl (w0, 2, .inr (.inr (.inr (.inr (va_up (va_up (fun _ => none) 0 (some h24)) 1 (some h25))))))), (h11, .inl (w1, 2, .inr (.inr (.inr (.inr (va_up (va_up (fun _ => none) 0 (some h26)) 1 (some h27))))))), (h12, .inl (w2, 2, .inl (fun _ => 0))), (h26, .inr (8, [.ref h33, .ref h34, .ref h35, .int 0, .int 0])), (h2, .inr (5, [.ref h16, .ref h17, .ref h18, .ref h19, .ref h20, .int 0, .int 0, .int 0, .int 2, .int 0, .int 0, .int 0])), (h24, .inr (5, [.ref h28, .ref h29, .ref h30, .ref h31, .ref h32, .int 0, .int 0, .int 0, .int 2, .int 0, .int 0, .int 0]))] := hD
  refine lv_aload_n hx hb dX11_image_24 rfl (lv_at hl 0 rfl) ?_
  refine va_get (D := (dC, dI)) (ci := 10) (v := .ref h11) (C := RX11) (T := TX11) (N := 19) hx hb hts ii_X11_image_X11 hown hK hP 0 rfl rfl 10 (by decide) (hts _ mm_X11_image_3) (fun _ h9 => h9) rfl dX11_image_25 ?_
  refine lv_iload_n hx hb dX11_image_28 rfl (lv_at hl 1 rfl) ?_
  refine va_aldq hx hb hK hP 3 1 rfl rfl (i := 0) (zz_in (by decide)) dX11_image_29 ?_
  refine zz_topq (r := some h26) (by rfl) ?_
  refine lv_aload_n hx hb dX11_image_30 rfl (lv_at hl 0 rfl) ?_
  refine va_get (D := (dC, dI)) (ci := 10) (v := .ref h6) (C := RX11) (T := TX11) (N := 19) hx hb hts ii_X11_image_X11 hown hK hP 0 rfl rfl 5 (by decide) (hts _ mm_X11_image_4) (fun _ h9 => h9) rfl dX11_image_31 ?_
  have hPc := hP.sub (ws' := [(h6, .inr (8, [.ref h21, .ref h22, .ref h23, .int 0, .int 0])), (h26, .inr (8, [.ref h33, .ref h34, .ref h35, .int 0, .int 0]))]) [1, 5] rfl
  have hDc := hD.sub (ws' := [(h6, .inr (8, [.ref h21, .ref h22, .ref h23, .int 0, .int 0])), (h26, .inr (8, [.ref h33, .ref h34, .ref h35, .int 0, .int 0]))]) [1, 5] (by decide) rfl
  have hKc := hK.sub (tys' := []) [] rfl
  have hFc := va_free (wc := [(h6, .inr (8, [.ref h21, .ref h22, .ref h23, .int 0, .int 0])), (h26, .inr (8, [.ref h33, .ref h34, .ref h35, .int 0, .int 0]))]) hD hS hA [1, 5] rfl
  refine va_callv (va_runV (As := [.ref h6]) (rest := []) ⟨hx, hb, hml, hown, hts⟩ (k_X7_copyFrom l dC dI ad h26 h6 h21 h22 h23 h33 h34 h35 H.size) (cwV 1 hts gX11_image_X7_copyFrom rfl rfl rfl (by decide +kernel) ⟨Nat.le_of_ble_eq_true rfl, Nat.le_of_ble_eq_true rfl⟩) ⟨fun a U g mk q => ⟨q.1, CP.blind q.2⟩, va_recv hKc hPc (ci := 8) (q0 := 1) rfl rfl, fun U hU hW => ⟨rfl, CP.of hPc hKc hDc hE hS hFc hU hW⟩⟩ rfl rfl hl.1 rfl (lv_room (Nat.le_of_ble_eq_true rfl)) dX11_image_34 ⟨Nat.le_of_ble_eq_true rfl, Nat.le_of_ble_eq_true rfl⟩) hS (fun q _ h => hFc q h) hFc (fun u t H1 locs ht hvm hw hB hz1 hk1 hS => ?_)
  obtain ⟨hP1, hK1, hD1⟩ := hB
  rw [ht] at hP1
  obtain ⟨hP, hD⟩ := va_join (wr := [(h0, .inr (10, [.ref h1, .ref h2, .ref h3, .ref h4, .ref h5, .ref h6, .ref h7, .ref h8, .ref h9, .ref h10, .ref h11, .ref h12, .ref h13, .ref h14, .ref h15, .int (-1), .int 0, .int (-1), .int (-1)])), (h10, .inl (w0, 2, .inr (.inr (.inr (.inr (va_up (va_up (fun _ => none) 0 (some h24)) 1 (some h25))))))), (h11, .inl (w1, 2, .inr (.inr (.inr (.inr (va_up (va_up (fun _ => none) 0 (some h26)) 1 (some h27))))))), (h12, .inl (w2, 2, .inl (fun _ => 0))), (h2, .inr (5, [.ref h16, .ref h17, .ref h18, .ref h19, .ref h20, .int 0, .int 0, .int 0, .int 2, .int 0, .int 0, .int 0])), (h24, .inr (5, [.ref h28, .ref h29, .ref h30, .ref h31, .ref h32, .int 0, .int 0, .int 0, .int 2, .int 0, .int 0, .int 0]))]) (w1 := [(h6, .inr (8, [.ref h21, .ref h22, .ref h23, .int 0, .int 0])), (h26, .inr (8, [.ref h33, .ref h34, .ref h35, .int 0, .int 0]))]) hP hD [1, 5] [0, 2, 3, 4, 6, 7] rfl rfl (by decide) (by decide) hk1 hFc hP1 hD1
  generalize H1 = H at hP hS ⊢
  clear hPc hDc hKc hFc hP1 hD1 hK1 hk1 hz1
  have hP : va_P (dC, dI) vwCl [(h0, .inr (10, [.ref h1, .ref h2, .ref h3, .ref h4, .ref h5, .ref h6, .ref h7, .ref h8, .ref h9, .ref h10, .ref h11, .ref h12, .ref h13, .ref h14, .ref h15, .int (-1), .int 0, .int (-1), .int (-1)])), (h10, .inl (w0, 2, .inr (.inr (.inr (.inr (va_up (va_up (fun _ => none) 0 (some h24)) 1 (some h25))))))), (h11, .inl (w1, 2, .inr (.inr (.inr (.inr (va_up (va_up (fun _ => none) 0 (some h26)) 1 (some h27))))))), (h12, .inl (w2, 2, .inl (fun _ => 0))), (h2, .inr (5, [.ref h16, .ref h17, .ref h18, .ref h19, .ref h20, .int 0, .int 0, .int 0, .int 2, .int 0, .int 0, .int 0])), (h24, .inr (5, [.ref h28, .ref h29, .ref h30, .ref h31, .ref h32, .int 0, .int 0, .int 0, .int 2, .int 0, .int 0, .int 0])), (h6, .inr (8, [.ref h21, .ref h22, .ref h23, .int 0, .int 0])), (h26, .inr (8, [.ref h33, .ref h34, .ref h35, .int 0, .int 0]))] H := hP
  have hD : va_D A [(h0, .inr (10, [.ref h1, .ref h2, .ref h3, .ref h4, .ref h5, .ref h6, .ref h7, .ref h8, .ref h9, .ref h10, .ref h11, .ref h12, .ref h13, .ref h14, .ref h15, .int (-1), .int 0, .int (-1), .int (-1)])), (h10, .inl (w0, 2, .inr (.inr (.inr (.inr (va_up (va_up (fun _ => none) 0 (some h24)) 1 (some h25))))))), (h11, .inl (w1, 2, .inr (.inr (.inr (.inr (va_up (va_up (fun _ => none) 0 (some h26)) 1 (some h27))))))), (h12, .inl (w2, 2, .inl (fun _ => 0))), (h2, .inr (5, [.ref h16, .ref h17, .ref h18, .ref h19, .ref h20, .int 0, .int 0, .int 0, .int 2, .int 0, .int 0, .int 0])), (h24, .inr (5, [.ref h28, .ref h29, .ref h30, .ref h31, .ref h32, .int 0, .int 0, .int 0, .int 2, .int 0, .int 0, .int 0])), (h6, .inr (8, [.ref h21, .ref h22, .ref h23, .int 0, .int 0])), (h26, .inr (8, [.ref h33, .ref h34, .ref h35, .int 0, .int 0]))] := hD
  refine lv_aload_n hx hb dX11_image_37 rfl (lv_at hl 0 rfl) ?_
  refine va_get (D := (dC, dI)) (ci := 10) (v := .ref h12) (C := RX11) (T := TX11) (N := 19) hx hb hts ii_X11_image_X11 hown hK hP 0 rfl rfl 11 (by decide) (hts _ mm_X11_image_5) (fun _ h9 => h9) rfl dX11_image_38 ?_
  refine lv_iload_n hx hb dX11_image_41 rfl (lv_at hl 1 rfl) ?_
  refine lv_iconst (v := 1) hx hb dX11_image_42 (by decide) ?_
  refine va_zast hx hb hK hP hD hS 3 2 rfl rfl (i := 0) (zz_in (by decide)) dX11_image_43 (fun H locs hP hD hS => ?_)
  have hP : va_P (dC, dI) vwCl [(h0, .inr (10, [.ref h1, .ref h2, .ref h3, .ref h4, .ref h5, .ref h6, .ref h7, .ref h8, .ref h9, .ref h10, .ref h11, .ref h12, .ref h13, .ref h14, .ref h15, .int (-1), .int 0, .int (-1), .int (-1)])), (h10, .inl (w0, 2, .inr (.inr (.inr (.inr (va_up (va_up (fun _ => none) 0 (some h24)) 1 (some h25))))))), (h11, .inl (w1, 2, .inr (.inr (.inr (.inr (va_up (va_up (fun _ => none) 0 (some h26)) 1 (some h27))))))), (h12, .inl (w2, 2, .inl (upd (fun _ => 0) 0 1))), (h2, .inr (5, [.ref h16, .ref h17, .ref h18, .ref h19, .ref h20, .int 0, .int 0, .int 0, .int 2, .int 0, .int 0, .int 0])), (h24, .inr (5, [.ref h28, .ref h29, .ref h30, .ref h31, .ref h32, .int 0, .int 0, .int 0, .int 2, .int 0, .int 0, .int 0])), (h6, .inr (8, [.ref h21, .ref h22, .ref h23, .int 0, .int 0])), (h26, .inr (8, [.ref h33, .ref h34, .ref h35, .int 0, .int 0]))] H := hP
  have hD : va_D A [(h0, .inr (10, [.ref h1, .ref h2, .ref h3, .ref h4, .ref h5, .ref h6, .ref h7, .ref h8, .ref h9, .ref h10, .ref h11, .ref h12, .ref h13, .ref h14, .ref h15, .int (-1), .int 0, .int (-1), .int (-1)])), (h10, .inl (w0, 2, .inr (.inr (.inr (.inr (va_up (va_up (fun _ => none) 0 (some h24)) 1 (some h25))))))), (h11, .inl (w1, 2, .inr (.inr (.inr (.inr (va_up (va_up (fun _ => none) 0 (some h26)) 1 (some h27))))))), (h12, .inl (w2, 2, .inl (upd (fun _ => 0) 0 1))), (h2, .inr (5, [.ref h16, .ref h17, .ref h18, .ref h19, .ref h20, .int 0, .int 0, .int 0, .int 2, .int 0, .int 0, .int 0])), (h24, .inr (5, [.ref h28, .ref h29, .ref h30, .ref h31, .ref h32, .int 0, .int 0, .int 0, .int 2, .int 0, .int 0, .int 0])), (h6, .inr (8, [.ref h21, .ref h22, .ref h23, .int 0, .int 0])), (h26, .inr (8, [.ref h33, .ref h34, .ref h35, .int 0, .int 0]))] := hD
  refine lv_iconst (v := 1) hx hb dX11_image_44 (by decide) ?_
  have hP9 := hP.sub (ws' := []) [] rfl
  have hD9 := hD.sub (ws' := []) [] (by decide) rfl
  have hK9 := hK.sub (tys' := []) [] rfl
  refine W.widen (k := 0) (n := 0) (Nat.le_of_ble_eq_true rfl) (Nat.le_of_ble_eq_true rfl) ?_
  exact W.zret (v := 1) hx hb hr rfl (fun t ht hW => ⟨⟨1, (), rfl, rfl, by rw [ht]; exact hP9, va_K.moved hW.alike hK9, hD9⟩, hS.F ht⟩) hS.2.2 dX11_image_45
set_option maxHeartbeats 4000000 in
set_option maxRecDepth 100000 in
theorem k_X11_image_1 (l : Launch) (dC : Nat → ClassId) (dI : Nat → Nat → Nat) (ad : Nat → Nat) (h0 h1 h2 h3 h4 h5 h6 h7 h8 h9 h10 h11 h12 h13 h14 h15 h16 h17 h18 h19 h20 h21 h22 h23 h24 h25 h26 h27 h28 h29 h30 h31 h32 h33 h34 h35 : Nat) (w0 w1 w2 : ClassId) (sz : Nat) : Met l yX11_image wsX11_image ({ frames := 1, cells := 0, slots := 0, locals := 22 }) (va_Pc [.ref h0, .int 1] (CP (dC, dI) [(h0, .inr (10, [.ref h1, .ref h2, .ref h3, .ref h4, .ref h5, .ref h6, .ref h7, .ref h8, .ref h9, .ref h10, .ref h11, .ref h12, .ref h13, .ref h14, .ref h15, .int (-1), .int 0, .int (-1), .int (-1)])), (h2, .inr (5, [.ref h16, .ref h17, .ref h18, .ref h19, .ref h20, .int 0, .int 0, .int 0, .int 2, .int 0, .int 0, .int 0])), (h6, .inr (8, [.ref h21, .ref h22, .ref h23, .int 0, .int 0])), (h10, .inl (w0, 2, .inr (.inr (.inr (.inr (va_up (va_up (fun _ => none) 0 (some h24)) 1 (some h25))))))), (h11, .inl (w1, 2, .inr (.inr (.inr (.inr (va_up (va_up (fun _ => none) 0 (some h26)) 1 (some h27))))))), (h12, .inl (w2, 2, .inl (fun _ => 0))), (h25, .inr (5, [.ref h28, .ref h29, .ref h30, .ref h31, .ref h32, .int 0, .int 0, .int 0, .int 2, .int 0, .int 0, .int 0])), (h27, .inr (8, [.ref h33, .ref h34, .ref h35, .int 0, .int 0]))] [(w0, .object RX4), (w1, .object RX7), (w2, .boolean)] sz ad)) (va_Qi (fun (r : Int32) (_ : Unit) => r = 1) (fun (_ : Unit) (t : State) => CQ (dC, dI) [] [] (va_A [(h0, .inr (10, [.ref h1, .ref h2, .ref h3, .ref h4, .ref h5, .ref h6, .ref h7, .ref h8, .ref h9, .ref h10, .ref h11, .ref h12, .ref h13, .ref h14, .ref h15, .int (-1), .int 0, .int (-1), .int (-1)])), (h2, .inr (5, [.ref h16, .ref h17, .ref h18, .ref h19, .ref h20, .int 0, .int 0, .int 0, .int 2, .int 0, .int 0, .int 0])), (h6, .inr (8, [.ref h21, .ref h22, .ref h23, .int 0, .int 0])), (h10, .inl (w0, 2, .inr (.inr (.inr (.inr (va_up (va_up (fun _ => none) 0 (some h24)) 1 (some h25))))))), (h11, .inl (w1, 2, .inr (.inr (.inr (.inr (va_up (va_up (fun _ => none) 0 (some h26)) 1 (some h27))))))), (h12, .inl (w2, 2, .inl (fun _ => 0))), (h25, .inr (5, [.ref h28, .ref h29, .ref h30, .ref h31, .ref h32, .int 0, .int 0, .int 0, .int 2, .int 0, .int 0, .int 0])), (h27, .inr (8, [.ref h33, .ref h34, .ref h35, .int 0, .int 0]))] sz) t) (va_A [(h0, .inr (10, [.ref h1, .ref h2, .ref h3, .ref h4, .ref h5, .ref h6, .ref h7, .ref h8, .ref h9, .ref h10, .ref h11, .ref h12, .ref h13, .ref h14, .ref h15, .int (-1), .int 0, .int (-1), .int (-1)])), (h2, .inr (5, [.ref h16, .ref h17, .ref h18, .ref h19, .ref h20, .int 0, .int 0, .int 0, .int 2, .int 0, .int 0, .int 0])), (h6, .inr (8, [.ref h21, .ref h22, .ref h23, .int 0, .int 0])), (h10, .inl (w0, 2, .inr (.inr (.inr (.inr (va_up (va_up (fun _ => none) 0 (some h24)) 1 (some h25))))))), (h11, .inl (w1, 2, .inr (.inr (.inr (.inr (va_up (va_up (fun _ => none) 0 (some h26)) 1 (some h27))))))), (h12, .inl (w2, 2, .inl (fun _ => 0))), (h25, .inr (5, [.ref h28, .ref h29, .ref h30, .ref h31, .ref h32, .int 0, .int 0, .int 0, .int 2, .int 0, .int 0, .int 0])), (h27, .inr (8, [.ref h33, .ref h34, .ref h35, .int 0, .int 0]))] sz)) 0 0 (va_A [(h0, .inr (10, [.ref h1, .ref h2, .ref h3, .ref h4, .ref h5, .ref h6, .ref h7, .ref h8, .ref h9, .ref h10, .ref h11, .ref h12, .ref h13, .ref h14, .ref h15, .int (-1), .int 0, .int (-1), .int (-1)])), (h2, .inr (5, [.ref h16, .ref h17, .ref h18, .ref h19, .ref h20, .int 0, .int 0, .int 0, .int 2, .int 0, .int 0, .int 0])), (h6, .inr (8, [.ref h21, .ref h22, .ref h23, .int 0, .int 0])), (h10, .inl (w0, 2, .inr (.inr (.inr (.inr (va_up (va_up (fun _ => none) 0 (some h24)) 1 (some h25))))))), (h11, .inl (w1, 2, .inr (.inr (.inr (.inr (va_up (va_up (fun _ => none) 0 (some h26)) 1 (some h27))))))), (h12, .inl (w2, 2, .inl (fun _ => 0))), (h25, .inr (5, [.ref h28, .ref h29, .ref h30, .ref h31, .ref h32, .int 0, .int 0, .int 0, .int 2, .int 0, .int 0, .int 0])), (h27, .inr (8, [.ref h33, .ref h34, .ref h35, .int 0, .int 0]))] sz) := by
  refine Met.ofW (cc := cX11_image) (maxL := 2) (ret := (some .boolean)) (by decide) rfl ?_
  intro p e s m args below meth c s₁ B hml hv
  obtain ⟨rfl, hsz, hP, hK, hD0, hE⟩ := hv
  have hx := B.exec
  have hb := B.bytes
  have hr := B.returns
  have hts := atoms_spec (ws := wsX11_image) B.pre
  have hown : s.vm.findClass RX11 = some m.cls := findClass_of_methodNamed B.named
  have hlocks := B.notSynchronized
  subst hsz
  have hD := hD0.self (sz := s.heap.size)
  generalize hAe : va_A [(h0, .inr (10, [.ref h1, .ref h2, .ref h3, .ref h4, .ref h5, .ref h6, .ref h7, .ref h8, .ref h9, .ref h10, .ref h11, .ref h12, .ref h13, .ref h14, .ref h15, .int (-1), .int 0, .int (-1), .int (-1)])), (h2, .inr (5, [.ref h16, .ref h17, .ref h18, .ref h19, .ref h20, .int 0, .int 0, .int 0, .int 2, .int 0, .int 0, .int 0])), (h6, .inr (8, [.ref h21, .ref h22, .ref h23, .int 0, .int 0])), (h10, .inl (w0, 2, .inr (.inr (.inr (.inr (va_up (va_up (fun _ => none) 0 (some h24)) 1 (some h25))))))), (h11, .inl (w1, 2, .inr (.inr (.inr (.inr (va_up (va_up (fun _ => none) 0 (some h26)) 1 (some h27))))))), (h12, .inl (w2, 2, .inl (fun _ => 0))), (h25, .inr (5, [.ref h28, .ref h29, .ref h30, .ref h31, .ref h32, .int 0, .int 0, .int 0, .int 2, .int 0, .int 0, .int 0])), (h27, .inr (8, [.ref h33, .ref h34, .ref h35, .int 0, .int 0]))] s.heap.size = A at hD hE ⊢
  have hA : ∀ q : Nat, s.heap.size ≤ q → A q := fun q h => by rw [← hAe]; exact Or.inr h
  have hS : va_S A s.heap s.heap [] := va_S.rf
  have hl := lv_entry ([.ref h0, .int 1]) (n := 2) (Nat.le_of_ble_eq_true rfl)
  rw [lg_entry_eq]
  generalize (lg_sl ([.ref h0, .int 1]) ++ List.replicate (2 - (lg_sl ([.ref h0, .int 1])).length) Slot.unset).toArray = ls at hl ⊢
  have hl : lv_has ls 2 [(0, .ref h0), (1, .int 1)] := hl
  refine lv_iload_n hx hb dX11_image_0 rfl (lv_at hl 1 rfl) ?_
  refine lv_if_lt (tgt := 9) hx hb dX11_image_1 (by decide) (fun c1 => absurd c1 (by decide)) (fun _ => ?_)
  refine lv_iload_n hx hb dX11_image_4 rfl (lv_at hl 1 rfl) ?_
  refine lv_iconst (v := 2) hx hb dX11_image_5 (by decide) ?_
  refine lv_icmp_lt (tgt := 11) hx hb dX11_image_6 (by decide) (fun _ => ?_) (fun c2 => absurd (by decide) c2)
  refine lv_aload_n hx hb dX11_image_11 rfl (lv_at hl 0 rfl) ?_
  refine va_get (D := (dC, dI)) (ci := 10) (v := .ref h10) (C := RX11) (T := TX11) (N := 19) hx hb hts ii_X11_image_X11 hown hK hP 0 rfl rfl 9 (by decide) (hts _ mm_X11_image_1) (fun _ h9 => h9) rfl dX11_image_12 ?_
  refine lv_iload_n hx hb dX11_image_15 rfl (lv_at hl 1 rfl) ?_
  refine va_aldq hx hb hK hP 3 0 rfl rfl (i := 1) (zz_in (by decide)) dX11_image_16 ?_
  refine zz_topq (r := some h25) (by rfl) ?_
  refine lv_aload_n hx hb dX11_image_17 rfl (lv_at hl 0 rfl) ?_
  refine va_get (D := (dC, dI)) (ci := 10) (v := .ref h2) (C := RX11) (T := TX11) (N := 19) hx hb hts ii_X11_image_X11 hown hK hP 0 rfl rfl 1 (by decide) (hts _ mm_X11_image_2) (fun _ h9 => h9) rfl dX11_image_18 ?_
  have hPc := hP.sub (ws' := [(h2, .inr (5, [.ref h16, .ref h17, .ref h18, .ref h19, .ref h20, .int 0, .int 0, .int 0, .int 2, .int 0, .int 0, .int 0])), (h25, .inr (5, [.ref h28, .ref h29, .ref h30, .ref h31, .ref h32, .int 0, .int 0, .int 0, .int 2, .int 0, .int 0, .int 0]))]) [1, 6] rfl
  have hDc := hD.sub (ws' := [(h2, .inr (5, [.ref h16, .ref h17, .ref h18, .ref h19, .ref h20, .int 0, .int 0, .int 0, .int 2, .int 0, .int 0, .int 0])), (h25, .inr (5, [.ref h28, .ref h29, .ref h30, .ref h31, .ref h32, .int 0, .int 0, .int 0, .int 2, .int 0, .int 0, .int 0]))]) [1, 6] (by decide) rfl
  have hKc := hK.sub (tys' := []) [] rfl
  have hFc := va_free (wc := [(h2, .inr (5, [.ref h16, .ref h17, .ref h18, .ref h19, .ref h20, .int 0, .int 0, .int 0, .int 2, .int 0, .int 0, .int 0])), (h25, .inr (5, [.ref h28, .ref h29, .ref h30, .ref h31, .ref h32, .int 0, .int 0, .int 0, .int 2, .int 0, .int 0, .int 0]))]) hD hS hA [1, 6] rfl
  refine va_callv (va_runV (As := [.ref h2]) (rest := []) ⟨hx, hb, hml, hown, hts⟩ (k_X4_copyFrom_1 l dC dI ad h25 h2 h16 h17 h18 h19 h20 h28 h29 h30 h31 h32 s.heap.size) (cwV 1 hts gX11_image_X4_copyFrom rfl rfl rfl (by decide +kernel) ⟨Nat.le_of_ble_eq_true rfl, Nat.le_of_ble_eq_true rfl⟩) ⟨fun a U g mk q => ⟨q.1, CP.blind q.2⟩, va_recv hKc hPc (ci := 5) (q0 := 1) rfl rfl, fun U hU hW => ⟨rfl, CP.of hPc hKc hDc hE hS hFc hU hW⟩⟩ rfl rfl hl.1 rfl (lv_room (Nat.le_of_ble_eq_true rfl)) dX11_image_21 ⟨Nat.le_of_ble_eq_true rfl, Nat.le_of_ble_eq_true rfl⟩) hS (fun q _ h => hFc q h) hFc (fun u t H1 locs ht hvm hw hB hz1 hk1 hS => ?_)
  obtain ⟨hP1, hK1, hD1⟩ := hB
  rw [ht] at hP1
  obtain ⟨hP, hD⟩ := va_join (wr := [(h0, .inr (10, [.ref h1, .ref h2, .ref h3, .ref h4, .ref h5, .ref h6, .ref h7, .ref h8, .ref h9, .ref h10, .ref h11, .ref h12, .ref h13, .ref h14, .ref h15, .int (-1), .int 0, .int (-1), .int (-1)])), (h6, .inr (8, [.ref h21, .ref h22, .ref h23, .int 0, .int 0])), (h10, .inl (w0, 2, .inr (.inr (.inr (.inr (va_up (va_up (fun _ => none) 0 (some h24)) 1 (some h25))))))), (h11, .inl (w1, 2, .inr (.inr (.inr (.inr (va_up (va_up (fun _ => none) 0 (some h26)) 1 (some h27))))))), (h12, .inl (w2, 2, .inl (fun _ => 0))), (h27, .inr (8, [.ref h33, .ref h34, .ref h35, .int 0, .int 0]))]) (w1 := [(h2, .inr (5, [.ref h16, .ref h17, .ref h18, .ref h19, .ref h20, .int 0, .int 0, .int 0, .int 2, .int 0, .int 0, .int 0])), (h25, .inr (5, [.ref h28, .ref h29, .ref h30, .ref h31, .ref h32, .int 0, .int 0, .int 0, .int 2, .int 0, .int 0, .int 0]))]) hP hD [1, 6] [0, 2, 3, 4, 5, 7] rfl rfl (by decide) (by decide) hk1 hFc hP1 hD1
  generalize H1 = H at hP hS ⊢
  clear hPc hDc hKc hFc hP1 hD1 hK1 hk1 hz1
  have hP : va_P (dC, dI) vwCl [(h0, .inr (10, [.ref h1, .ref h2, .ref h3, .ref h4, .ref h5, .ref h6, .ref h7, .ref h8, .ref h9, .ref h10, .ref h11, .ref h12, .ref h13, .ref h14, .ref h15, .int (-1), .int 0, .int (-1), .int (-1)])), (h6, .inr (8, [.ref h21, .ref h22, .ref h23, .int 0, .int 0])), (h10, .inl (w0, 2, .inr (.inr (.inr (.inr (va_up (va_up (fun _ => none) 0 (some h24)) 1 (some h25))))))), (h11, .inl (w1, 2, .inr (.inr (.inr (.inr (va_up (va_up (fun _ => none) 0 (some h26)) 1 (some h27))))))), (h12, .inl (w2, 2, .inl (fun _ => 0))), (h27, .inr (8, [.ref h33, .ref h34, .ref h35, .int 0, .int 0])), (h2, .inr (5, [.ref h16, .ref h17, .ref h18, .ref h19, .ref h20, .int 0, .int 0, .int 0, .int 2, .int 0, .int 0, .int 0])), (h25, .inr (5, [.ref h28, .ref h29, .ref h30, .ref h31, .ref h32, .int 0, .int 0, .int 0, .int 2, .int 0, .int 0, .int 0]))] H := hP
  have hD : va_D A [(h0, .inr (10, [.ref h1, .ref h2, .ref h3, .ref h4, .ref h5, .ref h6, .ref h7, .ref h8, .ref h9, .ref h10, .ref h11, .ref h12, .ref h13, .ref h14, .ref h15, .int (-1), .int 0, .int (-1), .int (-1)])), (h6, .inr (8, [.ref h21, .ref h22, .ref h23, .int 0, .int 0])), (h10, .inl (w0, 2, .inr (.inr (.inr (.inr (va_up (va_up (fun _ => none) 0 (some h24)) 1 (some h25))))))), (h11, .inl (w1, 2, .inr (.inr (.inr (.inr (va_up (va_up (fun _ => none) 0 (some h26)) 1 (some h27))))))), (h12, .inl (w2, 2, .inl (fun _ => 0))), (h27, .inr (8, [.ref h33, .ref h34, .ref h35, .int 0, .int 0])), (h2, .inr (5, [.ref h16, .ref h17, .ref h18, .ref h19, .ref h20, .int 0, .int 0, .int 0, .int 2, .int 0, .int 0, .int 0])), (h25, .inr (5, [.ref h28, .ref h29, .ref h30, .ref h31, .ref h32, .int 0, .int 0, .int 0, .int 2, .int 0, .int 0, .int 0]))] := hD
  refine lv_aload_n hx hb dX11_image_24 rfl (lv_at hl 0 rfl) ?_
  refine va_get (D := (dC, dI)) (ci := 10) (v := .ref h11) (C := RX11) (T := TX11) (N := 19) hx hb hts ii_X11_image_X11 hown hK hP 0 rfl rfl 10 (by decide) (hts _ mm_X11_image_3) (fun _ h9 => h9) rfl dX11_image_25 ?_
  refine lv_iload_n hx hb dX11_image_28 rfl (lv_at hl 1 rfl) ?_
  refine va_aldq hx hb hK hP 3 1 rfl rfl (i := 1) (zz_in (by decide)) dX11_image_29 ?_
  refine zz_topq (r := some h27) (by rfl) ?_
  refine lv_aload_n hx hb dX11_image_30 rfl (lv_at hl 0 rfl) ?_
  refine va_get (D := (dC, dI)) (ci := 10) (v := .ref h6) (C := RX11) (T := TX11) (N := 19) hx hb hts ii_X11_image_X11 hown hK hP 0 rfl rfl 5 (by decide) (hts _ mm_X11_image_4) (fun _ h9 => h9) rfl dX11_image_31 ?_
  have hPc := hP.sub (ws' := [(h6, .inr (8, [.ref h21, .ref h22, .ref h23, .int 0, .int 0])), (h27, .inr (8, [.ref h33, .ref h34, .ref h35, .int 0, .int 0]))]) [1, 5] rfl
  have hDc := hD.sub (ws' := [(h6, .inr (8, [.ref h21, .ref h22, .ref h23, .int 0, .int 0])), (h27, .inr (8, [.ref h33, .ref h34, .ref h35, .int 0, .int 0]))]) [1, 5] (by decide) rfl
  have hKc := hK.sub (tys' := []) [] rfl
  have hFc := va_free (wc := [(h6, .inr (8, [.ref h21, .ref h22, .ref h23, .int 0, .int 0])), (h27, .inr (8, [.ref h33, .ref h34, .ref h35, .int 0, .int 0]))]) hD hS hA [1, 5] rfl
  refine va_callv (va_runV (As := [.ref h6]) (rest := []) ⟨hx, hb, hml, hown, hts⟩ (k_X7_copyFrom l dC dI ad h27 h6 h21 h22 h23 h33 h34 h35 H.size) (cwV 1 hts gX11_image_X7_copyFrom rfl rfl rfl (by decide +kernel) ⟨Nat.le_of_ble_eq_true rfl, Nat.le_of_ble_eq_true rfl⟩) ⟨fun a U g mk q => ⟨q.1, CP.blind q.2⟩, va_recv hKc hPc (ci := 8) (q0 := 1) rfl rfl, fun U hU hW => ⟨rfl, CP.of hPc hKc hDc hE hS hFc hU hW⟩⟩ rfl rfl hl.1 rfl (lv_room (Nat.le_of_ble_eq_true rfl)) dX11_image_34 ⟨Nat.le_of_ble_eq_true rfl, Nat.le_of_ble_eq_true rfl⟩) hS (fun q _ h => hFc q h) hFc (fun u t H1 locs ht hvm hw hB hz1 hk1 hS => ?_)
  obtain ⟨hP1, hK1, hD1⟩ := hB
  rw [ht] at hP1
  obtain ⟨hP, hD⟩ := va_join (wr := [(h0, .inr (10, [.ref h1, .ref h2, .ref h3, .ref h4, .ref h5, .ref h6, .ref h7, .ref h8, .ref h9, .ref h10, .ref h11, .ref h12, .ref h13, .ref h14, .ref h15, .int (-1), .int 0, .int (-1), .int (-1)])), (h10, .inl (w0, 2, .inr (.inr (.inr (.inr (va_up (va_up (fun _ => none) 0 (some h24)) 1 (some h25))))))), (h11, .inl (w1, 2, .inr (.inr (.inr (.inr (va_up (va_up (fun _ => none) 0 (some h26)) 1 (some h27))))))), (h12, .inl (w2, 2, .inl (fun _ => 0))), (h2, .inr (5, [.ref h16, .ref h17, .ref h18, .ref h19, .ref h20, .int 0, .int 0, .int 0, .int 2, .int 0, .int 0, .int 0])), (h25, .inr (5, [.ref h28, .ref h29, .ref h30, .ref h31, .ref h32, .int 0, .int 0, .int 0, .int 2, .int 0, .int 0, .int 0]))]) (w1 := [(h6, .inr (8, [.ref h21, .ref h22, .ref h23, .int 0, .int 0])), (h27, .inr (8, [.ref h33, .ref h34, .ref h35, .int 0, .int 0]))]) hP hD [1, 5] [0, 2, 3, 4, 6, 7] rfl rfl (by decide) (by decide) hk1 hFc hP1 hD1
  generalize H1 = H at hP hS ⊢
  clear hPc hDc hKc hFc hP1 hD1 hK1 hk1 hz1
  have hP : va_P (dC, dI) vwCl [(h0, .inr (10, [.ref h1, .ref h2, .ref h3, .ref h4, .ref h5, .ref h6, .ref h7, .ref h8, .ref h9, .ref h10, .ref h11, .ref h12, .ref h13, .ref h14, .ref h15, .int (-1), .int 0, .int (-1), .int (-1)])), (h10, .inl (w0, 2, .inr (.inr (.inr (.inr (va_up (va_up (fun _ => none) 0 (some h24)) 1 (some h25))))))), (h11, .inl (w1, 2, .inr (.inr (.inr (.inr (va_up (va_up (fun _ => none) 0 (some h26)) 1 (some h27))))))), (h12, .inl (w2, 2, .inl (fun _ => 0))), (h2, .inr (5, [.ref h16, .ref h17, .ref h18, .ref h19, .ref h20, .int 0, .int 0, .int 0, .int 2, .int 0, .int 0, .int 0])), (h25, .inr (5, [.ref h28, .ref h29, .ref h30, .ref h31, .ref h32, .int 0, .int 0, .int 0, .int 2, .int 0, .int 0, .int 0])), (h6, .inr (8, [.ref h21, .ref h22, .ref h23, .int 0, .int 0])), (h27, .inr (8, [.ref h33, .ref h34, .ref h35, .int 0, .int 0]))] H := hP
  have hD : va_D A [(h0, .inr (10, [.ref h1, .ref h2, .ref h3, .ref h4, .ref h5, .ref h6, .ref h7, .ref h8, .ref h9, .ref h10, .ref h11, .ref h12, .ref h13, .ref h14, .ref h15, .int (-1), .int 0, .int (-1), .int (-1)])), (h10, .inl (w0, 2, .inr (.inr (.inr (.inr (va_up (va_up (fun _ => none) 0 (some h24)) 1 (some h25))))))), (h11, .inl (w1, 2, .inr (.inr (.inr (.inr (va_up (va_up (fun _ => none) 0 (some h26)) 1 (some h27))))))), (h12, .inl (w2, 2, .inl (fun _ => 0))), (h2, .inr (5, [.ref h16, .ref h17, .ref h18, .ref h19, .ref h20, .int 0, .int 0, .int 0, .int 2, .int 0, .int 0, .int 0])), (h25, .inr (5, [.ref h28, .ref h29, .ref h30, .ref h31, .ref h32, .int 0, .int 0, .int 0, .int 2, .int 0, .int 0, .int 0])), (h6, .inr (8, [.ref h21, .ref h22, .ref h23, .int 0, .int 0])), (h27, .inr (8, [.ref h33, .ref h34, .ref h35, .int 0, .int 0]))] := hD
  refine lv_aload_n hx hb dX11_image_37 rfl (lv_at hl 0 rfl) ?_
  refine va_get (D := (dC, dI)) (ci := 10) (v := .ref h12) (C := RX11) (T := TX11) (N := 19) hx hb hts ii_X11_image_X11 hown hK hP 0 rfl rfl 11 (by decide) (hts _ mm_X11_image_5) (fun _ h9 => h9) rfl dX11_image_38 ?_
  refine lv_iload_n hx hb dX11_image_41 rfl (lv_at hl 1 rfl) ?_
  refine lv_iconst (v := 1) hx hb dX11_image_42 (by decide) ?_
  refine va_zast hx hb hK hP hD hS 3 2 rfl rfl (i := 1) (zz_in (by decide)) dX11_image_43 (fun H locs hP hD hS => ?_)
  have hP : va_P (dC, dI) vwCl [(h0, .inr (10, [.ref h1, .ref h2, .ref h3, .ref h4, .ref h5, .ref h6, .ref h7, .ref h8, .ref h9, .ref h10, .ref h11, .ref h12, .ref h13, .ref h14, .ref h15, .int (-1), .int 0, .int (-1), .int (-1)])), (h10, .inl (w0, 2, .inr (.inr (.inr (.inr (va_up (va_up (fun _ => none) 0 (some h24)) 1 (some h25))))))), (h11, .inl (w1, 2, .inr (.inr (.inr (.inr (va_up (va_up (fun _ => none) 0 (some h26)) 1 (some h27))))))), (h12, .inl (w2, 2, .inl (upd (fun _ => 0) 1 1))), (h2, .inr (5, [.ref h16, .ref h17, .ref h18, .ref h19, .ref h20, .int 0, .int 0, .int 0, .int 2, .int 0, .int 0, .int 0])), (h25, .inr (5, [.ref h28, .ref h29, .ref h30, .ref h31, .ref h32, .int 0, .int 0, .int 0, .int 2, .int 0, .int 0, .int 0])), (h6, .inr (8, [.ref h21, .ref h22, .ref h23, .int 0, .int 0])), (h27, .inr (8, [.ref h33, .ref h34, .ref h35, .int 0, .int 0]))] H := hP
  have hD : va_D A [(h0, .inr (10, [.ref h1, .ref h2, .ref h3, .ref h4, .ref h5, .ref h6, .ref h7, .ref h8, .ref h9, .ref h10, .ref h11, .ref h12, .ref h13, .ref h14, .ref h15, .int (-1), .int 0, .int (-1), .int (-1)])), (h10, .inl (w0, 2, .inr (.inr (.inr (.inr (va_up (va_up (fun _ => none) 0 (some h24)) 1 (some h25))))))), (h11, .inl (w1, 2, .inr (.inr (.inr (.inr (va_up (va_up (fun _ => none) 0 (some h26)) 1 (some h27))))))), (h12, .inl (w2, 2, .inl (upd (fun _ => 0) 1 1))), (h2, .inr (5, [.ref h16, .ref h17, .ref h18, .ref h19, .ref h20, .int 0, .int 0, .int 0, .int 2, .int 0, .int 0, .int 0])), (h25, .inr (5, [.ref h28, .ref h29, .ref h30, .ref h31, .ref h32, .int 0, .int 0, .int 0, .int 2, .int 0, .int 0, .int 0])), (h6, .inr (8, [.ref h21, .ref h22, .ref h23, .int 0, .int 0])), (h27, .inr (8, [.ref h33, .ref h34, .ref h35, .int 0, .int 0]))] := hD
  refine lv_iconst (v := 1) hx hb dX11_image_44 (by decide) ?_
  have hP9 := hP.sub (ws' := []) [] rfl
  have hD9 := hD.sub (ws' := []) [] (by decide) rfl
  have hK9 := hK.sub (tys' := []) [] rfl
  refine W.widen (k := 0) (n := 0) (Nat.le_of_ble_eq_true rfl) (Nat.le_of_ble_eq_true rfl) ?_
  exact W.zret (v := 1) hx hb hr rfl (fun t ht hW => ⟨⟨1, (), rfl, rfl, by rw [ht]; exact hP9, va_K.moved hW.alike hK9, hD9⟩, hS.F ht⟩) hS.2.2 dX11_image_45
set_option maxHeartbeats 4000000 in
set_option maxRecDepth 100000 in
theorem k_X11_image_2 (l : Launch) (dC : Nat → ClassId) (dI : Nat → Nat → Nat) (ad : Nat → Nat) (h0 : Nat) (p0 : Int32) (sz : Nat) (e0_0 : p0 < 0) : Met l yX11_image wsX11_image ({ frames := 0, cells := 0, slots := 0, locals := 0 }) (va_Pc [.ref h0, .int p0] (CP (dC, dI) [] [] sz ad)) (va_Qi (fun (r : Int32) (_ : Unit) => r = 0) (fun (_ : Unit) (t : State) => CQ (dC, dI) [] [] (va_A [] sz) t) (va_A [] sz)) 0 0 (va_A [] sz) := by
  refine Met.ofW (cc := cX11_image) (maxL := 2) (ret := (some .boolean)) (by decide) rfl ?_
  intro p e s m args below meth c s₁ B hml hv
  obtain ⟨rfl, hsz, hP, hK, hD0, hE⟩ := hv
  have hx := B.exec
  have hb := B.bytes
  have hr := B.returns
  have hts := atoms_spec (ws := wsX11_image) B.pre
  have hown : s.vm.findClass RX11 = some m.cls := findClass_of_methodNamed B.named
  have hlocks := B.notSynchronized
  subst hsz
  have hD := hD0.self (sz := s.heap.size)
  generalize hAe : va_A [] s.heap.size = A at hD hE ⊢
  have hA : ∀ q : Nat, s.heap.size ≤ q → A q := fun q h => by rw [← hAe]; exact Or.inr h
  have hS : va_S A s.heap s.heap [] := va_S.rf
  have hl := lv_entry ([.ref h0, .int p0]) (n := 2) (Nat.le_of_ble_eq_true rfl)
  rw [lg_entry_eq]
  generalize (lg_sl ([.ref h0, .int p0]) ++ List.replicate (2 - (lg_sl ([.ref h0, .int p0])).length) Slot.unset).toArray = ls at hl ⊢
  have hl : lv_has ls 2 [(0, .ref h0), (1, .int p0)] := hl
  refine lv_iload_n hx hb dX11_image_0 rfl (lv_at hl 1 rfl) ?_
  refine lv_if_lt (tgt := 9) hx hb dX11_image_1 (by decide) (fun _ => ?_) (fun c1 => ?_)
  rotate_left
  · exfalso; clear hP hD hK hS hE; simp only [Int32.lt_iff_toInt_lt, Int32.le_iff_toInt_le, ← Int32.toInt_inj, Int32.reduceToInt] at e0_0 c1; omega
  refine lv_iconst (v := 0) hx hb dX11_image_9 (by decide) ?_
  have hP9 := hP.sub (ws' := []) [] rfl
  have hD9 := hD.sub (ws' := []) [] (by decide) rfl
  have hK9 := hK.sub (tys' := []) [] rfl
  refine W.widen (k := 0) (n := 0) (Nat.le_of_ble_eq_true rfl) (Nat.le_of_ble_eq_true rfl) ?_
  exact W.zret (v := 0) hx hb hr rfl (fun t ht hW => ⟨⟨0, (), rfl, rfl, by rw [ht]; exact hP9, va_K.moved hW.alike hK9, hD9⟩, hS.F ht⟩) hS.2.2 dX11_image_10
set_option maxHeartbeats 4000000 in
set_option maxRecDepth 100000 in
theorem k_X11_image_3 (l : Launch) (dC : Nat → ClassId) (dI : Nat → Nat → Nat) (ad : Nat → Nat) (h0 : Nat) (p0 : Int32) (sz : Nat) (e0_0 : 1 < p0) : Met l yX11_image wsX11_image ({ frames := 0, cells := 0, slots := 0, locals := 0 }) (va_Pc [.ref h0, .int p0] (CP (dC, dI) [] [] sz ad)) (va_Qi (fun (r : Int32) (_ : Unit) => r = 0) (fun (_ : Unit) (t : State) => CQ (dC, dI) [] [] (va_A [] sz) t) (va_A [] sz)) 0 0 (va_A [] sz) := by
  refine Met.ofW (cc := cX11_image) (maxL := 2) (ret := (some .boolean)) (by decide) rfl ?_
  intro p e s m args below meth c s₁ B hml hv
  obtain ⟨rfl, hsz, hP, hK, hD0, hE⟩ := hv
  have hx := B.exec
  have hb := B.bytes
  have hr := B.returns
  have hts := atoms_spec (ws := wsX11_image) B.pre
  have hown : s.vm.findClass RX11 = some m.cls := findClass_of_methodNamed B.named
  have hlocks := B.notSynchronized
  subst hsz
  have hD := hD0.self (sz := s.heap.size)
  generalize hAe : va_A [] s.heap.size = A at hD hE ⊢
  have hA : ∀ q : Nat, s.heap.size ≤ q → A q := fun q h => by rw [← hAe]; exact Or.inr h
  have hS : va_S A s.heap s.heap [] := va_S.rf
  have hl := lv_entry ([.ref h0, .int p0]) (n := 2) (Nat.le_of_ble_eq_true rfl)
  rw [lg_entry_eq]
  generalize (lg_sl ([.ref h0, .int p0]) ++ List.replicate (2 - (lg_sl ([.ref h0, .int p0])).length) Slot.unset).toArray = ls at hl ⊢
  have hl : lv_has ls 2 [(0, .ref h0), (1, .int p0)] := hl
  refine lv_iload_n hx hb dX11_image_0 rfl (lv_at hl 1 rfl) ?_
  refine lv_if_lt (tgt := 9) hx hb dX11_image_1 (by decide) (fun c1 => ?_) (fun _ => ?_)
  · exfalso; clear hP hD hK hS hE; simp only [Int32.lt_iff_toInt_lt, Int32.le_iff_toInt_le, ← Int32.toInt_inj, Int32.reduceToInt] at e0_0 c1; omega
  refine lv_iload_n hx hb dX11_image_4 rfl (lv_at hl 1 rfl) ?_
  refine lv_iconst (v := 2) hx hb dX11_image_5 (by decide) ?_
  refine lv_icmp_lt (tgt := 11) hx hb dX11_image_6 (by decide) (fun c2 => ?_) (fun _ => ?_)
  · exfalso; clear hP hD hK hS hE; simp only [Int32.lt_iff_toInt_lt, Int32.le_iff_toInt_le, ← Int32.toInt_inj, Int32.reduceToInt] at e0_0 c2; omega
  refine lv_iconst (v := 0) hx hb dX11_image_9 (by decide) ?_
  have hP9 := hP.sub (ws' := []) [] rfl
  have hD9 := hD.sub (ws' := []) [] (by decide) rfl
  have hK9 := hK.sub (tys' := []) [] rfl
  refine W.widen (k := 0) (n := 0) (Nat.le_of_ble_eq_true rfl) (Nat.le_of_ble_eq_true rfl) ?_
  exact W.zret (v := 0) hx hb hr rfl (fun t ht hW => ⟨⟨0, (), rfl, rfl, by rw [ht]; exact hP9, va_K.moved hW.alike hK9, hD9⟩, hS.F ht⟩) hS.2.2 dX11_image_10
set_option maxHeartbeats 4000000 in
set_option maxRecDepth 100000 in
theorem k_X11_restore (l : Launch) (dC : Nat → ClassId) (dI : Nat → Nat → Nat) (ad : Nat → Nat) (h0 h1 h2 h3 h4 h5 h6 h7 h8 h9 h10 h11 h12 h13 h14 h15 : Nat) (w0 : ClassId) (sz : Nat) : Met l yX11_restore wsX11_restore ({ frames := 0, cells := 0, slots := 0, locals := 0 }) (va_Pc [.ref h0, .int 0] (CP (dC, dI) [(h0, .inr (10, [.ref h1, .ref h2, .ref h3, .ref h4, .ref h5, .ref h6, .ref h7, .ref h8, .ref h9, .ref h10, .ref h11, .ref h12, .ref h13, .ref h14, .ref h15, .int (-1), .int 0, .int (-1), .int (-1)])), (h12, .inl (w0, 2, .inl (fun _ => 0)))] [(w0, .boolean)] sz ad)) (va_Qi (fun (r : Int32) (_ : Unit) => r = 0) (fun (_ : Unit) (t : State) => CQ (dC, dI) [] [] (va_A [(h0, .inr (10, [.ref h1, .ref h2, .ref h3, .ref h4, .ref h5, .ref h6, .ref h7, .ref h8, .ref h9, .ref h10, .ref h11, .ref h12, .ref h13, .ref h14, .ref h15, .int (-1), .int 0, .int (-1), .int (-1)])), (h12, .inl (w0, 2, .inl (fun _ => 0)))] sz) t) (va_A [(h0, .inr (10, [.ref h1, .ref h2, .ref h3, .ref h4, .ref h5, .ref h6, .ref h7, .ref h8, .ref h9, .ref h10, .ref h11, .ref h12, .ref h13, .ref h14, .ref h15, .int (-1), .int 0, .int (-1), .int (-1)])), (h12, .inl (w0, 2, .inl (fun _ => 0)))] sz)) 0 0 (va_A [(h0, .inr (10, [.ref h1, .ref h2, .ref h3, .ref h4, .ref h5, .ref h6, .ref h7, .ref h8, .ref h9, .ref h10, .ref h11, .ref h12, .ref h13, .ref h14, .ref h15, .int (-1), .int 0, .int (-1), .int (-1)])), (h12, .inl (w0, 2, .inl (fun _ => 0)))] sz) := by
  refine Met.ofW (cc := cX11_restore) (maxL := 2) (ret := (some .boolean)) (by decide) rfl ?_
  intro p e s m args below meth c s₁ B hml hv
  obtain ⟨rfl, hsz, hP, hK, hD0, hE⟩ := hv
  have hx := B.exec
  have hb := B.bytes
  have hr := B.returns
  have hts := atoms_spec (ws := wsX11_restore) B.pre
  have hown : s.vm.findClass RX11 = some m.cls := findClass_of_methodNamed B.named
  have hlocks := B.notSynchronized
  subst hsz
  have hD := hD0.self (sz := s.heap.size)
  generalize hAe : va_A [(h0, .inr (10, [.ref h1, .ref h2, .ref h3, .ref h4, .ref h5, .ref h6, .ref h7, .ref h8, .ref h9, .ref h10, .ref h11, .ref h12, .ref h13, .ref h14, .ref h15, .int (-1), .int 0, .int (-1), .int (-1)])), (h12, .inl (w0, 2, .inl (fun _ => 0)))] s.heap.size = A at hD hE ⊢
  have hA : ∀ q : Nat, s.heap.size ≤ q → A q := fun q h => by rw [← hAe]; exact Or.inr h
  have hS : va_S A s.heap s.heap [] := va_S.rf
  have hl := lv_entry ([.ref h0, .int 0]) (n := 2) (Nat.le_of_ble_eq_true rfl)
  rw [lg_entry_eq]
  generalize (lg_sl ([.ref h0, .int 0]) ++ List.replicate (2 - (lg_sl ([.ref h0, .int 0])).length) Slot.unset).toArray = ls at hl ⊢
  have hl : lv_has ls 2 [(0, .ref h0), (1, .int 0)] := hl
  refine lv_iload_n hx hb dX11_restore_0 rfl (lv_at hl 1 rfl) ?_
  refine lv_if_lt (tgt := 18) hx hb dX11_restore_1 (by decide) (fun c1 => absurd c1 (by decide)) (fun _ => ?_)
  refine lv_iload_n hx hb dX11_restore_4 rfl (lv_at hl 1 rfl) ?_
  refine lv_iconst (v := 2) hx hb dX11_restore_5 (by decide) ?_
  refine lv_icmp_ge (tgt := 18) hx hb dX11_restore_6 (by decide) (fun c2 => absurd c2 (by decide)) (fun _ => ?_)
  refine lv_aload_n hx hb dX11_restore_9 rfl (lv_at hl 0 rfl) ?_
  refine va_get (D := (dC, dI)) (ci := 10) (v := .ref h12) (C := RX11) (T := TX11) (N := 19) hx hb hts ii_X11_restore_X11 hown hK hP 0 rfl rfl 11 (by decide) (hts _ mm_X11_restore_1) (fun _ h9 => h9) rfl dX11_restore_10 ?_
  refine lv_iload_n hx hb dX11_restore_13 rfl (lv_at hl 1 rfl) ?_
  refine va_zald hx hb hK hP 1 0 rfl rfl (i := 0) (zz_in (by decide)) dX11_restore_14 ?_
  refine zz_top (v := 0) (by rfl) ?_
  refine lv_if_ne (tgt := 20) hx hb dX11_restore_15 (by decide) (fun c3 => absurd (by decide) c3) (fun _ => ?_)
  refine lv_iconst (v := 0) hx hb dX11_restore_18 (by decide) ?_
  have hP9 := hP.sub (ws' := []) [] rfl
  have hD9 := hD.sub (ws' := []) [] (by decide) rfl
  have hK9 := hK.sub (tys' := []) [] rfl
  refine W.widen (k := 0) (n := 0) (Nat.le_of_ble_eq_true rfl) (Nat.le_of_ble_eq_true rfl) ?_
  exact W.zret (v := 0) hx hb hr rfl (fun t ht hW => ⟨⟨0, (), rfl, rfl, by rw [ht]; exact hP9, va_K.moved hW.alike hK9, hD9⟩, hS.F ht⟩) hS.2.2 dX11_restore_19
set_option maxHeartbeats 4000000 in
set_option maxRecDepth 100000 in
theorem k_X11_restore_1 (l : Launch) (dC : Nat → ClassId) (dI : Nat → Nat → Nat) (ad : Nat → Nat) (h0 h1 h2 h3 h4 h5 h6 h7 h8 h9 h10 h11 h12 h13 h14 h15 : Nat) (w0 : ClassId) (sz : Nat) : Met l yX11_restore wsX11_restore ({ frames := 0, cells := 0, slots := 0, locals := 0 }) (va_Pc [.ref h0, .int 1] (CP (dC, dI) [(h0, .inr (10, [.ref h1, .ref h2, .ref h3, .ref h4, .ref h5, .ref h6, .ref h7, .ref h8, .ref h9, .ref h10, .ref h11, .ref h12, .ref h13, .ref h14, .ref h15, .int (-1), .int 0, .int (-1), .int (-1)])), (h12, .inl (w0, 2, .inl (fun _ => 0)))] [(w0, .boolean)] sz ad)) (va_Qi (fun (r : Int32) (_ : Unit) => r = 0) (fun (_ : Unit) (t : State) => CQ (dC, dI) [] [] (va_A [(h0, .inr (10, [.ref h1, .ref h2, .ref h3, .ref h4, .ref h5, .ref h6, .ref h7, .ref h8, .ref h9, .ref h10, .ref h11, .ref h12, .ref h13, .ref h14, .ref h15, .int (-1), .int 0, .int (-1), .int (-1)])), (h12, .inl (w0, 2, .inl (fun _ => 0)))] sz) t) (va_A [(h0, .inr (10, [.ref h1, .ref h2, .ref h3, .ref h4, .ref h5, .ref h6, .ref h7, .ref h8, .ref h9, .ref h10, .ref h11, .ref h12, .ref h13, .ref h14, .ref h15, .int (-1), .int 0, .int (-1), .int (-1)])), (h12, .inl (w0, 2, .inl (fun _ => 0)))] sz)) 0 0 (va_A [(h0, .inr (10, [.ref h1, .ref h2, .ref h3, .ref h4, .ref h5, .ref h6, .ref h7, .ref h8, .ref h9, .ref h10, .ref h11, .ref h12, .ref h13, .ref h14, .ref h15, .int (-1), .int 0, .int (-1), .int (-1)])), (h12, .inl (w0, 2, .inl (fun _ => 0)))] sz) := by
  refine Met.ofW (cc := cX11_restore) (maxL := 2) (ret := (some .boolean)) (by decide) rfl ?_
  intro p e s m args below meth c s₁ B hml hv
  obtain ⟨rfl, hsz, hP, hK, hD0, hE⟩ := hv
  have hx := B.exec
  have hb := B.bytes
  have hr := B.returns
  have hts := atoms_spec (ws := wsX11_restore) B.pre
  have hown : s.vm.findClass RX11 = some m.cls := findClass_of_methodNamed B.named
  have hlocks := B.notSynchronized
  subst hsz
  have hD := hD0.self (sz := s.heap.size)
  generalize hAe : va_A [(h0, .inr (10, [.ref h1, .ref h2, .ref h3, .ref h4, .ref h5, .ref h6, .ref h7, .ref h8, .ref h9, .ref h10, .ref h11, .ref h12, .ref h13, .ref h14, .ref h15, .int (-1), .int 0, .int (-1), .int (-1)])), (h12, .inl (w0, 2, .inl (fun _ => 0)))] s.heap.size = A at hD hE ⊢
  have hA : ∀ q : Nat, s.heap.size ≤ q → A q := fun q h => by rw [← hAe]; exact Or.inr h
  have hS : va_S A s.heap s.heap [] := va_S.rf
  have hl := lv_entry ([.ref h0, .int 1]) (n := 2) (Nat.le_of_ble_eq_true rfl)
  rw [lg_entry_eq]
  generalize (lg_sl ([.ref h0, .int 1]) ++ List.replicate (2 - (lg_sl ([.ref h0, .int 1])).length) Slot.unset).toArray = ls at hl ⊢
  have hl : lv_has ls 2 [(0, .ref h0), (1, .int 1)] := hl
  refine lv_iload_n hx hb dX11_restore_0 rfl (lv_at hl 1 rfl) ?_
  refine lv_if_lt (tgt := 18) hx hb dX11_restore_1 (by decide) (fun c1 => absurd c1 (by decide)) (fun _ => ?_)
  refine lv_iload_n hx hb dX11_restore_4 rfl (lv_at hl 1 rfl) ?_
  refine lv_iconst (v := 2) hx hb dX11_restore_5 (by decide) ?_
  refine lv_icmp_ge (tgt := 18) hx hb dX11_restore_6 (by decide) (fun c2 => absurd c2 (by decide)) (fun _ => ?_)
  refine lv_aload_n hx hb dX11_restore_9 rfl (lv_at hl 0 rfl) ?_
  refine va_get (D := (dC, dI)) (ci := 10) (v := .ref h12) (C := RX11) (T := TX11) (N := 19) hx hb hts ii_X11_restore_X11 hown hK hP 0 rfl rfl 11 (by decide) (hts _ mm_X11_restore_1) (fun _ h9 => h9) rfl dX11_restore_10 ?_
  refine lv_iload_n hx hb dX11_restore_13 rfl (lv_at hl 1 rfl) ?_
  refine va_zald hx hb hK hP 1 0 rfl rfl (i := 1) (zz_in (by decide)) dX11_restore_14 ?_
  refine zz_top (v := 0) (by rfl) ?_
  refine lv_if_ne (tgt := 20) hx hb dX11_restore_15 (by decide) (fun c3 => absurd (by decide) c3) (fun _ => ?_)
  refine lv_iconst (v := 0) hx hb dX11_restore_18 (by decide) ?_
  have hP9 := hP.sub (ws' := []) [] rfl
  have hD9 := hD.sub (ws' := []) [] (by decide) rfl
  have hK9 := hK.sub (tys' := []) [] rfl
  refine W.widen (k := 0) (n := 0) (Nat.le_of_ble_eq_true rfl) (Nat.le_of_ble_eq_true rfl) ?_
  exact W.zret (v := 0) hx hb hr rfl (fun t ht hW => ⟨⟨0, (), rfl, rfl, by rw [ht]; exact hP9, va_K.moved hW.alike hK9, hD9⟩, hS.F ht⟩) hS.2.2 dX11_restore_19
set_option maxHeartbeats 4000000 in
set_option maxRecDepth 100000 in
theorem k_X11_restore_2 (l : Launch) (dC : Nat → ClassId) (dI : Nat → Nat → Nat) (ad : Nat → Nat) (h0 : Nat) (p0 : Int32) (sz : Nat) (e0_0 : p0 < 0) : Met l yX11_restore wsX11_restore ({ frames := 0, cells := 0, slots := 0, locals := 0 }) (va_Pc [.ref h0, .int p0] (CP (dC, dI) [] [] sz ad)) (va_Qi (fun (r : Int32) (_ : Unit) => r = 0) (fun (_ : Unit) (t : State) => CQ (dC, dI) [] [] (va_A [] sz) t) (va_A [] sz)) 0 0 (va_A [] sz) := by
  refine Met.ofW (cc := cX11_restore) (maxL := 2) (ret := (some .boolean)) (by decide) rfl ?_
  intro p e s m args below meth c s₁ B hml hv
  obtain ⟨rfl, hsz, hP, hK, hD0, hE⟩ := hv
  have hx := B.exec
  have hb := B.bytes
  have hr := B.returns
  have hts := atoms_spec (ws := wsX11_restore) B.pre
  have hown : s.vm.findClass RX11 = some m.cls := findClass_of_methodNamed B.named
  have hlocks := B.notSynchronized
  subst hsz
  have hD := hD0.self (sz := s.heap.size)
  generalize hAe : va_A [] s.heap.size = A at hD hE ⊢
  have hA : ∀ q : Nat, s.heap.size ≤ q → A q := fun q h => by rw [← hAe]; exact Or.inr h
  have hS : va_S A s.heap s.heap [] := va_S.rf
  have hl := lv_entry ([.ref h0, .int p0]) (n := 2) (Nat.le_of_ble_eq_true rfl)
  rw [lg_entry_eq]
  generalize (lg_sl ([.ref h0, .int p0]) ++ List.replicate (2 - (lg_sl ([.ref h0, .int p0])).length) Slot.unset).toArray = ls at hl ⊢
  have hl : lv_has ls 2 [(0, .ref h0), (1, .int p0)] := hl
  refine lv_iload_n hx hb dX11_restore_0 rfl (lv_at hl 1 rfl) ?_
  refine lv_if_lt (tgt := 18) hx hb dX11_restore_1 (by decide) (fun _ => ?_) (fun c1 => ?_)
  rotate_left
  · exfalso; clear hP hD hK hS hE; simp only [Int32.lt_iff_toInt_lt, Int32.le_iff_toInt_le, ← Int32.toInt_inj, Int32.reduceToInt] at e0_0 c1; omega
  refine lv_iconst (v := 0) hx hb dX11_restore_18 (by decide) ?_
  have hP9 := hP.sub (ws' := []) [] rfl
  have hD9 := hD.sub (ws' := []) [] (by decide) rfl
  have hK9 := hK.sub (tys' := []) [] rfl
  refine W.widen (k := 0) (n := 0) (Nat.le_of_ble_eq_true rfl) (Nat.le_of_ble_eq_true rfl) ?_
  exact W.zret (v := 0) hx hb hr rfl (fun t ht hW => ⟨⟨0, (), rfl, rfl, by rw [ht]; exact hP9, va_K.moved hW.alike hK9, hD9⟩, hS.F ht⟩) hS.2.2 dX11_restore_19
