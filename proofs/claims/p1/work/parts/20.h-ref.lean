set_option maxHeartbeats 4000000 in
set_option maxRecDepth 100000 in
theorem k_X12_bestAt (l : Launch) (dC : Nat → ClassId) (dI : Nat → Nat → Nat) (ad : Nat → Nat) (h0 h1 h2 h3 h4 h5 h6 h7 h8 h9 h10 h11 h12 h13 h14 h15 h16 : Nat) (sz : Nat) : Met l yX12_bestAt wsX12_bestAt ({ frames := 0, cells := 0, slots := 0, locals := 0 }) (va_Pc [.ref h0, .int 0] (CP (dC, dI) [(h0, .inr (11, [.int 0, .ref h1, .int 0, .int 0, .int 0, .int 0, .int 0, .int 0, .int 0, .int 0, .int 0, .int 0, .long 0, .int 0, .ref h2, .ref h3, .ref h4, .ref h5, .ref h6, .ref h7, .ref h8, .ref h9, .ref h10, .int 0, .int 0, .int 0, .int 0, .int (-1), .int (-1), .long 0, .long 0, .ref h11, .ref h12, .int 0, .int (-1), .int 0, .ref h13, .int 0, .ref h14, .ref h15, .int 0, .int 0, .ref h16, .int 0, .int 0, .int 0, .int 0]))] [] sz ad)) (va_Qi (fun (r : Int32) (_ : Unit) => r = (-1)) (fun (_ : Unit) (t : State) => CQ (dC, dI) [] [] (va_A [(h0, .inr (11, [.int 0, .ref h1, .int 0, .int 0, .int 0, .int 0, .int 0, .int 0, .int 0, .int 0, .int 0, .int 0, .long 0, .int 0, .ref h2, .ref h3, .ref h4, .ref h5, .ref h6, .ref h7, .ref h8, .ref h9, .ref h10, .int 0, .int 0, .int 0, .int 0, .int (-1), .int (-1), .long 0, .long 0, .ref h11, .ref h12, .int 0, .int (-1), .int 0, .ref h13, .int 0, .ref h14, .ref h15, .int 0, .int 0, .ref h16, .int 0, .int 0, .int 0, .int 0]))] sz) t) (va_A [(h0, .inr (11, [.int 0, .ref h1, .int 0, .int 0, .int 0, .int 0, .int 0, .int 0, .int 0, .int 0, .int 0, .int 0, .long 0, .int 0, .ref h2, .ref h3, .ref h4, .ref h5, .ref h6, .ref h7, .ref h8, .ref h9, .ref h10, .int 0, .int 0, .int 0, .int 0, .int (-1), .int (-1), .long 0, .long 0, .ref h11, .ref h12, .int 0, .int (-1), .int 0, .ref h13, .int 0, .ref h14, .ref h15, .int 0, .int 0, .ref h16, .int 0, .int 0, .int 0, .int 0]))] sz)) 0 0 (va_A [(h0, .inr (11, [.int 0, .ref h1, .int 0, .int 0, .int 0, .int 0, .int 0, .int 0, .int 0, .int 0, .int 0, .int 0, .long 0, .int 0, .ref h2, .ref h3, .ref h4, .ref h5, .ref h6, .ref h7, .ref h8, .ref h9, .ref h10, .int 0, .int 0, .int 0, .int 0, .int (-1), .int (-1), .long 0, .long 0, .ref h11, .ref h12, .int 0, .int (-1), .int 0, .ref h13, .int 0, .ref h14, .ref h15, .int 0, .int 0, .ref h16, .int 0, .int 0, .int 0, .int 0]))] sz) := by
  refine Met.ofW (cc := cX12_bestAt) (maxL := 2) (ret := (some .int)) (by decide) rfl ?_
  intro p e s m args below meth c s₁ B hml hv
  obtain ⟨rfl, hsz, hP, hK, hD0, hE⟩ := hv
  have hx := B.exec
  have hb := B.bytes
  have hr := B.returns
  have hts := atoms_spec (ws := wsX12_bestAt) B.pre
  have hown : s.vm.findClass RX12 = some m.cls := findClass_of_methodNamed B.named
  have hlocks := B.notSynchronized
  subst hsz
  have hD := hD0.self (sz := s.heap.size)
  generalize hAe : va_A [(h0, .inr (11, [.int 0, .ref h1, .int 0, .int 0, .int 0, .int 0, .int 0, .int 0, .int 0, .int 0, .int 0, .int 0, .long 0, .int 0, .ref h2, .ref h3, .ref h4, .ref h5, .ref h6, .ref h7, .ref h8, .ref h9, .ref h10, .int 0, .int 0, .int 0, .int 0, .int (-1), .int (-1), .long 0, .long 0, .ref h11, .ref h12, .int 0, .int (-1), .int 0, .ref h13, .int 0, .ref h14, .ref h15, .int 0, .int 0, .ref h16, .int 0, .int 0, .int 0, .int 0]))] s.heap.size = A at hD hE ⊢
  have hA : ∀ q : Nat, s.heap.size ≤ q → A q := fun q h => by rw [← hAe]; exact Or.inr h
  have hS : va_S A s.heap s.heap [] := va_S.rf
  have hl := lv_entry ([.ref h0, .int 0]) (n := 2) (Nat.le_of_ble_eq_true rfl)
  rw [lg_entry_eq]
  generalize (lg_sl ([.ref h0, .int 0]) ++ List.replicate (2 - (lg_sl ([.ref h0, .int 0])).length) Slot.unset).toArray = ls at hl ⊢
  have hl : lv_has ls 2 [(0, .ref h0), (1, .int 0)] := hl
  refine lv_aload_n hx hb dX12_bestAt_0 rfl (lv_at hl 0 rfl) ?_
  refine lv_iconst (v := 0) hx hb dX12_bestAt_1 (by decide) ?_
  refine va_put (D := (dC, dI)) (ci := 11) (v := .int 0) (ty := .int) (C := RX12) (T := TX12) (N := 47) hx hb hts ii_X12_bestAt_X12 tyX12 tyX12_ok nmX12 hown hK hP hD hS 0 rfl rfl 0 (by decide) (hts _ mm_X12_bestAt_1) (fun _ h9 => h9) rfl (by decide +kernel) rfl rfl (Nat.le_of_ble_eq_true rfl) dX12_bestAt_2 (fun H locs hP hD hS => ?_)
  have hP : va_P (dC, dI) vwCl [(h0, .inr (11, [.int 0, .ref h1, .int 0, .int 0, .int 0, .int 0, .int 0, .int 0, .int 0, .int 0, .int 0, .int 0, .long 0, .int 0, .ref h2, .ref h3, .ref h4, .ref h5, .ref h6, .ref h7, .ref h8, .ref h9, .ref h10, .int 0, .int 0, .int 0, .int 0, .int (-1), .int (-1), .long 0, .long 0, .ref h11, .ref h12, .int 0, .int (-1), .int 0, .ref h13, .int 0, .ref h14, .ref h15, .int 0, .int 0, .ref h16, .int 0, .int 0, .int 0, .int 0]))] H := hP
  have hD : va_D A [(h0, .inr (11, [.int 0, .ref h1, .int 0, .int 0, .int 0, .int 0, .int 0, .int 0, .int 0, .int 0, .int 0, .int 0, .long 0, .int 0, .ref h2, .ref h3, .ref h4, .ref h5, .ref h6, .ref h7, .ref h8, .ref h9, .ref h10, .int 0, .int 0, .int 0, .int 0, .int (-1), .int (-1), .long 0, .long 0, .ref h11, .ref h12, .int 0, .int (-1), .int 0, .ref h13, .int 0, .ref h14, .ref h15, .int 0, .int 0, .ref h16, .int 0, .int 0, .int 0, .int 0]))] := hD
  refine lv_iload_n hx hb dX12_bestAt_5 rfl (lv_at hl 1 rfl) ?_
  refine lv_if_ne (tgt := 16) hx hb dX12_bestAt_6 (by decide) (fun c1 => absurd (by decide) c1) (fun _ => ?_)
  refine lv_aload_n hx hb dX12_bestAt_9 rfl (lv_at hl 0 rfl) ?_
  refine va_get (D := (dC, dI)) (ci := 11) (v := .int (-1)) (C := RX12) (T := TX12) (N := 47) hx hb hts ii_X12_bestAt_X12 hown hK hP 0 rfl rfl 27 (by decide) (hts _ mm_X12_bestAt_2) (fun _ h9 => h9) rfl dX12_bestAt_10 ?_
  refine lv_goto (tgt := 29) hx hb dX12_bestAt_13 (by decide) ?_
  have hP9 := hP.sub (ws' := []) [] rfl
  have hD9 := hD.sub (ws' := []) [] (by decide) rfl
  have hK9 := hK.sub (tys' := []) [] rfl
  refine W.widen (k := 0) (n := 0) (Nat.le_of_ble_eq_true rfl) (Nat.le_of_ble_eq_true rfl) ?_
  exact W.iret (v := (-1)) hx hb hr (fun t ht hW => ⟨⟨(-1), (), rfl, rfl, by rw [ht]; exact hP9, va_K.moved hW.alike hK9, hD9⟩, hS.F ht⟩) hS.2.2 dX12_bestAt_29
set_option maxHeartbeats 4000000 in
set_option maxRecDepth 100000 in
theorem k_X12_bestAt_1 (l : Launch) (dC : Nat → ClassId) (dI : Nat → Nat → Nat) (ad : Nat → Nat) (h0 h1 h2 h3 h4 h5 h6 h7 h8 h9 h10 h11 h12 h13 h14 h15 h16 : Nat) (sz : Nat) : Met l yX12_bestAt wsX12_bestAt ({ frames := 0, cells := 0, slots := 0, locals := 0 }) (va_Pc [.ref h0, .int 1] (CP (dC, dI) [(h0, .inr (11, [.int 0, .ref h1, .int 0, .int 0, .int 0, .int 0, .int 0, .int 0, .int 0, .int 0, .int 0, .int 0, .long 0, .int 0, .ref h2, .ref h3, .ref h4, .ref h5, .ref h6, .ref h7, .ref h8, .ref h9, .ref h10, .int 0, .int 0, .int 0, .int 0, .int (-1), .int (-1), .long 0, .long 0, .ref h11, .ref h12, .int 0, .int (-1), .int 0, .ref h13, .int 0, .ref h14, .ref h15, .int 0, .int 0, .ref h16, .int 0, .int 0, .int 0, .int 0]))] [] sz ad)) (va_Qi (fun (r : Int32) (_ : Unit) => r = (-1)) (fun (_ : Unit) (t : State) => CQ (dC, dI) [] [] (va_A [(h0, .inr (11, [.int 0, .ref h1, .int 0, .int 0, .int 0, .int 0, .int 0, .int 0, .int 0, .int 0, .int 0, .int 0, .long 0, .int 0, .ref h2, .ref h3, .ref h4, .ref h5, .ref h6, .ref h7, .ref h8, .ref h9, .ref h10, .int 0, .int 0, .int 0, .int 0, .int (-1), .int (-1), .long 0, .long 0, .ref h11, .ref h12, .int 0, .int (-1), .int 0, .ref h13, .int 0, .ref h14, .ref h15, .int 0, .int 0, .ref h16, .int 0, .int 0, .int 0, .int 0]))] sz) t) (va_A [(h0, .inr (11, [.int 0, .ref h1, .int 0, .int 0, .int 0, .int 0, .int 0, .int 0, .int 0, .int 0, .int 0, .int 0, .long 0, .int 0, .ref h2, .ref h3, .ref h4, .ref h5, .ref h6, .ref h7, .ref h8, .ref h9, .ref h10, .int 0, .int 0, .int 0, .int 0, .int (-1), .int (-1), .long 0, .long 0, .ref h11, .ref h12, .int 0, .int (-1), .int 0, .ref h13, .int 0, .ref h14, .ref h15, .int 0, .int 0, .ref h16, .int 0, .int 0, .int 0, .int 0]))] sz)) 0 0 (va_A [(h0, .inr (11, [.int 0, .ref h1, .int 0, .int 0, .int 0, .int 0, .int 0, .int 0, .int 0, .int 0, .int 0, .int 0, .long 0, .int 0, .ref h2, .ref h3, .ref h4, .ref h5, .ref h6, .ref h7, .ref h8, .ref h9, .ref h10, .int 0, .int 0, .int 0, .int 0, .int (-1), .int (-1), .long 0, .long 0, .ref h11, .ref h12, .int 0, .int (-1), .int 0, .ref h13, .int 0, .ref h14, .ref h15, .int 0, .int 0, .ref h16, .int 0, .int 0, .int 0, .int 0]))] sz) := by
  refine Met.ofW (cc := cX12_bestAt) (maxL := 2) (ret := (some .int)) (by decide) rfl ?_
  intro p e s m args below meth c s₁ B hml hv
  obtain ⟨rfl, hsz, hP, hK, hD0, hE⟩ := hv
  have hx := B.exec
  have hb := B.bytes
  have hr := B.returns
  have hts := atoms_spec (ws := wsX12_bestAt) B.pre
  have hown : s.vm.findClass RX12 = some m.cls := findClass_of_methodNamed B.named
  have hlocks := B.notSynchronized
  subst hsz
  have hD := hD0.self (sz := s.heap.size)
  generalize hAe : va_A [(h0, .inr (11, [.int 0, .ref h1, .int 0, .int 0, .int 0, .int 0, .int 0, .int 0, .int 0, .int 0, .int 0, .int 0, .long 0, .int 0, .ref h2, .ref h3, .ref h4, .ref h5, .ref h6, .ref h7, .ref h8, .ref h9, .ref h10, .int 0, .int 0, .int 0, .int 0, .int (-1), .int (-1), .long 0, .long 0, .ref h11, .ref h12, .int 0, .int (-1), .int 0, .ref h13, .int 0, .ref h14, .ref h15, .int 0, .int 0, .ref h16, .int 0, .int 0, .int 0, .int 0]))] s.heap.size = A at hD hE ⊢
  have hA : ∀ q : Nat, s.heap.size ≤ q → A q := fun q h => by rw [← hAe]; exact Or.inr h
  have hS : va_S A s.heap s.heap [] := va_S.rf
  have hl := lv_entry ([.ref h0, .int 1]) (n := 2) (Nat.le_of_ble_eq_true rfl)
  rw [lg_entry_eq]
  generalize (lg_sl ([.ref h0, .int 1]) ++ List.replicate (2 - (lg_sl ([.ref h0, .int 1])).length) Slot.unset).toArray = ls at hl ⊢
  have hl : lv_has ls 2 [(0, .ref h0), (1, .int 1)] := hl
  refine lv_aload_n hx hb dX12_bestAt_0 rfl (lv_at hl 0 rfl) ?_
  refine lv_iconst (v := 0) hx hb dX12_bestAt_1 (by decide) ?_
  refine va_put (D := (dC, dI)) (ci := 11) (v := .int 0) (ty := .int) (C := RX12) (T := TX12) (N := 47) hx hb hts ii_X12_bestAt_X12 tyX12 tyX12_ok nmX12 hown hK hP hD hS 0 rfl rfl 0 (by decide) (hts _ mm_X12_bestAt_1) (fun _ h9 => h9) rfl (by decide +kernel) rfl rfl (Nat.le_of_ble_eq_true rfl) dX12_bestAt_2 (fun H locs hP hD hS => ?_)
  have hP : va_P (dC, dI) vwCl [(h0, .inr (11, [.int 0, .ref h1, .int 0, .int 0, .int 0, .int 0, .int 0, .int 0, .int 0, .int 0, .int 0, .int 0, .long 0, .int 0, .ref h2, .ref h3, .ref h4, .ref h5, .ref h6, .ref h7, .ref h8, .ref h9, .ref h10, .int 0, .int 0, .int 0, .int 0, .int (-1), .int (-1), .long 0, .long 0, .ref h11, .ref h12, .int 0, .int (-1), .int 0, .ref h13, .int 0, .ref h14, .ref h15, .int 0, .int 0, .ref h16, .int 0, .int 0, .int 0, .int 0]))] H := hP
  have hD : va_D A [(h0, .inr (11, [.int 0, .ref h1, .int 0, .int 0, .int 0, .int 0, .int 0, .int 0, .int 0, .int 0, .int 0, .int 0, .long 0, .int 0, .ref h2, .ref h3, .ref h4, .ref h5, .ref h6, .ref h7, .ref h8, .ref h9, .ref h10, .int 0, .int 0, .int 0, .int 0, .int (-1), .int (-1), .long 0, .long 0, .ref h11, .ref h12, .int 0, .int (-1), .int 0, .ref h13, .int 0, .ref h14, .ref h15, .int 0, .int 0, .ref h16, .int 0, .int 0, .int 0, .int 0]))] := hD
  refine lv_iload_n hx hb dX12_bestAt_5 rfl (lv_at hl 1 rfl) ?_
  refine lv_if_ne (tgt := 16) hx hb dX12_bestAt_6 (by decide) (fun _ => ?_) (fun c1 => absurd c1 (by decide))
  refine lv_iload_n hx hb dX12_bestAt_16 rfl (lv_at hl 1 rfl) ?_
  refine lv_iconst (v := 1) hx hb dX12_bestAt_17 (by decide) ?_
  refine lv_icmp_ne (tgt := 28) hx hb dX12_bestAt_18 (by decide) (fun c2 => absurd (by decide) c2) (fun _ => ?_)
  refine lv_aload_n hx hb dX12_bestAt_21 rfl (lv_at hl 0 rfl) ?_
  refine va_get (D := (dC, dI)) (ci := 11) (v := .int (-1)) (C := RX12) (T := TX12) (N := 47) hx hb hts ii_X12_bestAt_X12 hown hK hP 0 rfl rfl 28 (by decide) (hts _ mm_X12_bestAt_3) (fun _ h9 => h9) rfl dX12_bestAt_22 ?_
  refine lv_goto (tgt := 29) hx hb dX12_bestAt_25 (by decide) ?_
  have hP9 := hP.sub (ws' := []) [] rfl
  have hD9 := hD.sub (ws' := []) [] (by decide) rfl
  have hK9 := hK.sub (tys' := []) [] rfl
  refine W.widen (k := 0) (n := 0) (Nat.le_of_ble_eq_true rfl) (Nat.le_of_ble_eq_true rfl) ?_
  exact W.iret (v := (-1)) hx hb hr (fun t ht hW => ⟨⟨(-1), (), rfl, rfl, by rw [ht]; exact hP9, va_K.moved hW.alike hK9, hD9⟩, hS.F ht⟩) hS.2.2 dX12_bestAt_29
set_option maxHeartbeats 4000000 in
set_option maxRecDepth 100000 in
theorem k_X12_bestAt_2 (l : Launch) (dC : Nat → ClassId) (dI : Nat → Nat → Nat) (ad : Nat → Nat) (h0 h1 h2 h3 h4 h5 h6 h7 h8 h9 h10 h11 h12 h13 h14 h15 h16 : Nat) (p0 : Int32) (sz : Nat) (e0_0 : ¬ p0 = 0) (e0_1 : ¬ p0 = 1) : Met l yX12_bestAt wsX12_bestAt ({ frames := 0, cells := 0, slots := 0, locals := 0 }) (va_Pc [.ref h0, .int p0] (CP (dC, dI) [(h0, .inr (11, [.int 0, .ref h1, .int 0, .int 0, .int 0, .int 0, .int 0, .int 0, .int 0, .int 0, .int 0, .int 0, .long 0, .int 0, .ref h2, .ref h3, .ref h4, .ref h5, .ref h6, .ref h7, .ref h8, .ref h9, .ref h10, .int 0, .int 0, .int 0, .int 0, .int (-1), .int (-1), .long 0, .long 0, .ref h11, .ref h12, .int 0, .int (-1), .int 0, .ref h13, .int 0, .ref h14, .ref h15, .int 0, .int 0, .ref h16, .int 0, .int 0, .int 0, .int 0]))] [] sz ad)) (va_Qi (fun (r : Int32) (_ : Unit) => r = (-1)) (fun (_ : Unit) (t : State) => CQ (dC, dI) [] [] (va_A [(h0, .inr (11, [.int 0, .ref h1, .int 0, .int 0, .int 0, .int 0, .int 0, .int 0, .int 0, .int 0, .int 0, .int 0, .long 0, .int 0, .ref h2, .ref h3, .ref h4, .ref h5, .ref h6, .ref h7, .ref h8, .ref h9, .ref h10, .int 0, .int 0, .int 0, .int 0, .int (-1), .int (-1), .long 0, .long 0, .ref h11, .ref h12, .int 0, .int (-1), .int 0, .ref h13, .int 0, .ref h14, .ref h15, .int 0, .int 0, .ref h16, .int 0, .int 0, .int 0, .int 0]))] sz) t) (va_A [(h0, .inr (11, [.int 0, .ref h1, .int 0, .int 0, .int 0, .int 0, .int 0, .int 0, .int 0, .int 0, .int 0, .int 0, .long 0, .int 0, .ref h2, .ref h3, .ref h4, .ref h5, .ref h6, .ref h7, .ref h8, .ref h9, .ref h10, .int 0, .int 0, .int 0, .int 0, .int (-1), .int (-1), .long 0, .long 0, .ref h11, .ref h12, .int 0, .int (-1), .int 0, .ref h13, .int 0, .ref h14, .ref h15, .int 0, .int 0, .ref h16, .int 0, .int 0, .int 0, .int 0]))] sz)) 0 0 (va_A [(h0, .inr (11, [.int 0, .ref h1, .int 0, .int 0, .int 0, .int 0, .int 0, .int 0, .int 0, .int 0, .int 0, .int 0, .long 0, .int 0, .ref h2, .ref h3, .ref h4, .ref h5, .ref h6, .ref h7, .ref h8, .ref h9, .ref h10, .int 0, .int 0, .int 0, .int 0, .int (-1), .int (-1), .long 0, .long 0, .ref h11, .ref h12, .int 0, .int (-1), .int 0, .ref h13, .int 0, .ref h14, .ref h15, .int 0, .int 0, .ref h16, .int 0, .int 0, .int 0, .int 0]))] sz) := by
  refine Met.ofW (cc := cX12_bestAt) (maxL := 2) (ret := (some .int)) (by decide) rfl ?_
  intro p e s m args below meth c s₁ B hml hv
  obtain ⟨rfl, hsz, hP, hK, hD0, hE⟩ := hv
  have hx := B.exec
  have hb := B.bytes
  have hr := B.returns
  have hts := atoms_spec (ws := wsX12_bestAt) B.pre
  have hown : s.vm.findClass RX12 = some m.cls := findClass_of_methodNamed B.named
  have hlocks := B.notSynchronized
  subst hsz
  have hD := hD0.self (sz := s.heap.size)
  generalize hAe : va_A [(h0, .inr (11, [.int 0, .ref h1, .int 0, .int 0, .int 0, .int 0, .int 0, .int 0, .int 0, .int 0, .int 0, .int 0, .long 0, .int 0, .ref h2, .ref h3, .ref h4, .ref h5, .ref h6, .ref h7, .ref h8, .ref h9, .ref h10, .int 0, .int 0, .int 0, .int 0, .int (-1), .int (-1), .long 0, .long 0, .ref h11, .ref h12, .int 0, .int (-1), .int 0, .ref h13, .int 0, .ref h14, .ref h15, .int 0, .int 0, .ref h16, .int 0, .int 0, .int 0, .int 0]))] s.heap.size = A at hD hE ⊢
  have hA : ∀ q : Nat, s.heap.size ≤ q → A q := fun q h => by rw [← hAe]; exact Or.inr h
  have hS : va_S A s.heap s.heap [] := va_S.rf
  have hl := lv_entry ([.ref h0, .int p0]) (n := 2) (Nat.le_of_ble_eq_true rfl)
  rw [lg_entry_eq]
  generalize (lg_sl ([.ref h0, .int p0]) ++ List.replicate (2 - (lg_sl ([.ref h0, .int p0])).length) Slot.unset).toArray = ls at hl ⊢
  have hl : lv_has ls 2 [(0, .ref h0), (1, .int p0)] := hl
  refine lv_aload_n hx hb dX12_bestAt_0 rfl (lv_at hl 0 rfl) ?_
  refine lv_iconst (v := 0) hx hb dX12_bestAt_1 (by decide) ?_
  refine va_put (D := (dC, dI)) (ci := 11) (v := .int 0) (ty := .int) (C := RX12) (T := TX12) (N := 47) hx hb hts ii_X12_bestAt_X12 tyX12 tyX12_ok nmX12 hown hK hP hD hS 0 rfl rfl 0 (by decide) (hts _ mm_X12_bestAt_1) (fun _ h9 => h9) rfl (by decide +kernel) rfl rfl (Nat.le_of_ble_eq_true rfl) dX12_bestAt_2 (fun H locs hP hD hS => ?_)
  have hP : va_P (dC, dI) vwCl [(h0, .inr (11, [.int 0, .ref h1, .int 0, .int 0, .int 0, .int 0, .int 0, .int 0, .int 0, .int 0, .int 0, .int 0, .long 0, .int 0, .ref h2, .ref h3, .ref h4, .ref h5, .ref h6, .ref h7, .ref h8, .ref h9, .ref h10, .int 0, .int 0, .int 0, .int 0, .int (-1), .int (-1), .long 0, .long 0, .ref h11, .ref h12, .int 0, .int (-1), .int 0, .ref h13, .int 0, .ref h14, .ref h15, .int 0, .int 0, .ref h16, .int 0, .int 0, .int 0, .int 0]))] H := hP
  have hD : va_D A [(h0, .inr (11, [.int 0, .ref h1, .int 0, .int 0, .int 0, .int 0, .int 0, .int 0, .int 0, .int 0, .int 0, .int 0, .long 0, .int 0, .ref h2, .ref h3, .ref h4, .ref h5, .ref h6, .ref h7, .ref h8, .ref h9, .ref h10, .int 0, .int 0, .int 0, .int 0, .int (-1), .int (-1), .long 0, .long 0, .ref h11, .ref h12, .int 0, .int (-1), .int 0, .ref h13, .int 0, .ref h14, .ref h15, .int 0, .int 0, .ref h16, .int 0, .int 0, .int 0, .int 0]))] := hD
  refine lv_iload_n hx hb dX12_bestAt_5 rfl (lv_at hl 1 rfl) ?_
  refine lv_if_ne (tgt := 16) hx hb dX12_bestAt_6 (by decide) (fun _ => ?_) (fun c1 => ?_)
  rotate_left
  · exfalso; clear hP hD hK hS hE; simp only [Int32.lt_iff_toInt_lt, Int32.le_iff_toInt_le, ← Int32.toInt_inj, Int32.reduceToInt] at e0_0 e0_1 c1; omega
  refine lv_iload_n hx hb dX12_bestAt_16 rfl (lv_at hl 1 rfl) ?_
  refine lv_iconst (v := 1) hx hb dX12_bestAt_17 (by decide) ?_
  refine lv_icmp_ne (tgt := 28) hx hb dX12_bestAt_18 (by decide) (fun _ => ?_) (fun c2 => ?_)
  rotate_left
  · exfalso; clear hP hD hK hS hE; simp only [Int32.lt_iff_toInt_lt, Int32.le_iff_toInt_le, ← Int32.toInt_inj, Int32.reduceToInt] at e0_0 e0_1 c2; omega
  refine lv_iconst (v := (-1)) hx hb dX12_bestAt_28 (by decide) ?_
  have hP9 := hP.sub (ws' := []) [] rfl
  have hD9 := hD.sub (ws' := []) [] (by decide) rfl
  have hK9 := hK.sub (tys' := []) [] rfl
  refine W.widen (k := 0) (n := 0) (Nat.le_of_ble_eq_true rfl) (Nat.le_of_ble_eq_true rfl) ?_
  exact W.iret (v := (-1)) hx hb hr (fun t ht hW => ⟨⟨(-1), (), rfl, rfl, by rw [ht]; exact hP9, va_K.moved hW.alike hK9, hD9⟩, hS.F ht⟩) hS.2.2 dX12_bestAt_29
set_option maxHeartbeats 4000000 in
set_option maxRecDepth 100000 in
theorem k_X12_fences (l : Launch) (dC : Nat → ClassId) (dI : Nat → Nat → Nat) (ad : Nat → Nat) (h0 h1 h2 h3 h4 h5 h6 h7 h8 h9 h10 h11 h12 h13 h14 h15 h16 : Nat) (w0 : ClassId) (sz : Nat) : Met l yX12_fences wsX12_fences ({ frames := 0, cells := 0, slots := 0, locals := 0 }) (va_Pc [.ref h0] (CP (dC, dI) [(h0, .inr (11, [.int 0, .ref h1, .int 0, .int 0, .int 0, .int 0, .int 0, .int 0, .int 0, .int 0, .int 0, .int 0, .long 0, .int 0, .ref h2, .ref h3, .ref h4, .ref h5, .ref h6, .ref h7, .ref h8, .ref h9, .ref h10, .int 0, .int 0, .int 0, .int 0, .int (-1), .int (-1), .long 0, .long 0, .ref h11, .ref h12, .int 0, .int (-1), .int 0, .ref h13, .int 0, .ref h14, .ref h15, .int 0, .int 0, .ref h16, .int 0, .int 0, .int 0, .int 0])), (h2, .inl (w0, 373, .inl (upd (upd (fun _ => 0) 60 2) 62 2)))] [(w0, .int)] sz ad)) (va_Qi (fun (r : Int32) (_ : Unit) => r = (-1)) (fun (_ : Unit) (t : State) => CQ (dC, dI) [] [] (va_A [(h0, .inr (11, [.int 0, .ref h1, .int 0, .int 0, .int 0, .int 0, .int 0, .int 0, .int 0, .int 0, .int 0, .int 0, .long 0, .int 0, .ref h2, .ref h3, .ref h4, .ref h5, .ref h6, .ref h7, .ref h8, .ref h9, .ref h10, .int 0, .int 0, .int 0, .int 0, .int (-1), .int (-1), .long 0, .long 0, .ref h11, .ref h12, .int 0, .int (-1), .int 0, .ref h13, .int 0, .ref h14, .ref h15, .int 0, .int 0, .ref h16, .int 0, .int 0, .int 0, .int 0])), (h2, .inl (w0, 373, .inl (upd (upd (fun _ => 0) 60 2) 62 2)))] sz) t) (va_A [(h0, .inr (11, [.int 0, .ref h1, .int 0, .int 0, .int 0, .int 0, .int 0, .int 0, .int 0, .int 0, .int 0, .int 0, .long 0, .int 0, .ref h2, .ref h3, .ref h4, .ref h5, .ref h6, .ref h7, .ref h8, .ref h9, .ref h10, .int 0, .int 0, .int 0, .int 0, .int (-1), .int (-1), .long 0, .long 0, .ref h11, .ref h12, .int 0, .int (-1), .int 0, .ref h13, .int 0, .ref h14, .ref h15, .int 0, .int 0, .ref h16, .int 0, .int 0, .int 0, .int 0])), (h2, .inl (w0, 373, .inl (upd (upd (fun _ => 0) 60 2) 62 2)))] sz)) 0 0 (va_A [(h0, .inr (11, [.int 0, .ref h1, .int 0, .int 0, .int 0, .int 0, .int 0, .int 0, .int 0, .int 0, .int 0, .int 0, .long 0, .int 0, .ref h2, .ref h3, .ref h4, .ref h5, .ref h6, .ref h7, .ref h8, .ref h9, .ref h10, .int 0, .int 0, .int 0, .int 0, .int (-1), .int (-1), .long 0, .long 0, .ref h11, .ref h12, .int 0, .int (-1), .int 0, .ref h13, .int 0, .ref h14, .ref h15, .int 0, .int 0, .ref h16, .int 0, .int 0, .int 0, .int 0])), (h2, .inl (w0, 373, .inl (upd (upd (fun _ => 0) 60 2) 62 2)))] sz) := by
  refine Met.ofW (cc := cX12_fences) (maxL := 6) (ret := (some .int)) (by decide) rfl ?_
  intro p e s m args below meth c s₁ B hml hv
  obtain ⟨rfl, hsz, hP, hK, hD0, hE⟩ := hv
  have hx := B.exec
  have hb := B.bytes
  have hr := B.returns
  have hts := atoms_spec (ws := wsX12_fences) B.pre
  have hown : s.vm.findClass RX12 = some m.cls := findClass_of_methodNamed B.named
  have hlocks := B.notSynchronized
  subst hsz
  have hD := hD0.self (sz := s.heap.size)
  generalize hAe : va_A [(h0, .inr (11, [.int 0, .ref h1, .int 0, .int 0, .int 0, .int 0, .int 0, .int 0, .int 0, .int 0, .int 0, .int 0, .long 0, .int 0, .ref h2, .ref h3, .ref h4, .ref h5, .ref h6, .ref h7, .ref h8, .ref h9, .ref h10, .int 0, .int 0, .int 0, .int 0, .int (-1), .int (-1), .long 0, .long 0, .ref h11, .ref h12, .int 0, .int (-1), .int 0, .ref h13, .int 0, .ref h14, .ref h15, .int 0, .int 0, .ref h16, .int 0, .int 0, .int 0, .int 0])), (h2, .inl (w0, 373, .inl (upd (upd (fun _ => 0) 60 2) 62 2)))] s.heap.size = A at hD hE ⊢
  have hA : ∀ q : Nat, s.heap.size ≤ q → A q := fun q h => by rw [← hAe]; exact Or.inr h
  have hS : va_S A s.heap s.heap [] := va_S.rf
  have hl := lv_entry ([.ref h0]) (n := 6) (Nat.le_of_ble_eq_true rfl)
  rw [lg_entry_eq]
  generalize (lg_sl ([.ref h0]) ++ List.replicate (6 - (lg_sl ([.ref h0])).length) Slot.unset).toArray = ls at hl ⊢
  have hl : lv_has ls 6 [(0, .ref h0)] := hl
  refine lv_aload_n hx hb dX12_fences_0 rfl (lv_at hl 0 rfl) ?_
  refine lv_iconst (v := 0) hx hb dX12_fences_1 (by decide) ?_
  refine va_put (D := (dC, dI)) (ci := 11) (v := .int 0) (ty := .int) (C := RX12) (T := TX12) (N := 47) hx hb hts ii_X12_fences_X12 tyX12 tyX12_ok nmX12 hown hK hP hD hS 0 rfl rfl 0 (by decide) (hts _ mm_X12_fences_1) (fun _ h9 => h9) rfl (by decide +kernel) rfl rfl (Nat.le_of_ble_eq_true rfl) dX12_fences_2 (fun H locs hP hD hS => ?_)
  have hP : va_P (dC, dI) vwCl [(h0, .inr (11, [.int 0, .ref h1, .int 0, .int 0, .int 0, .int 0, .int 0, .int 0, .int 0, .int 0, .int 0, .int 0, .long 0, .int 0, .ref h2, .ref h3, .ref h4, .ref h5, .ref h6, .ref h7, .ref h8, .ref h9, .ref h10, .int 0, .int 0, .int 0, .int 0, .int (-1), .int (-1), .long 0, .long 0, .ref h11, .ref h12, .int 0, .int (-1), .int 0, .ref h13, .int 0, .ref h14, .ref h15, .int 0, .int 0, .ref h16, .int 0, .int 0, .int 0, .int 0])), (h2, .inl (w0, 373, .inl (upd (upd (fun _ => 0) 60 2) 62 2)))] H := hP
  have hD : va_D A [(h0, .inr (11, [.int 0, .ref h1, .int 0, .int 0, .int 0, .int 0, .int 0, .int 0, .int 0, .int 0, .int 0, .int 0, .long 0, .int 0, .ref h2, .ref h3, .ref h4, .ref h5, .ref h6, .ref h7, .ref h8, .ref h9, .ref h10, .int 0, .int 0, .int 0, .int 0, .int (-1), .int (-1), .long 0, .long 0, .ref h11, .ref h12, .int 0, .int (-1), .int 0, .ref h13, .int 0, .ref h14, .ref h15, .int 0, .int 0, .ref h16, .int 0, .int 0, .int 0, .int 0])), (h2, .inl (w0, 373, .inl (upd (upd (fun _ => 0) 60 2) 62 2)))] := hD
  refine lv_aload_n hx hb dX12_fences_5 rfl (lv_at hl 0 rfl) ?_
  refine va_get (D := (dC, dI)) (ci := 11) (v := .ref h2) (C := RX12) (T := TX12) (N := 47) hx hb hts ii_X12_fences_X12 hown hK hP 0 rfl rfl 14 (by decide) (hts _ mm_X12_fences_2) (fun _ h9 => h9) rfl dX12_fences_6 ?_
  refine lv_bipush (v := 65) hx hb dX12_fences_9 (by decide) ?_
  refine va_iald hx hb hK hP 1 0 rfl rfl (i := 65) (zz_in (by decide)) dX12_fences_11 ?_
  refine zz_top (v := 0) (by rfl) ?_
  refine lv_istore_n (lv' := [(1, .int 0), (0, .ref h0)]) hx hb dX12_fences_12 rfl hl (by decide) rfl (fun ls hl => ?_)
  refine lv_iconst (v := (-1)) hx hb dX12_fences_13 (by decide) ?_
  refine lv_istore_n (lv' := [(2, .int (-1)), (1, .int 0), (0, .ref h0)]) hx hb dX12_fences_14 rfl hl (by decide) rfl (fun ls hl => ?_)
  refine lv_iconst (v := (-1)) hx hb dX12_fences_15 (by decide) ?_
  refine lv_istore_n (lv' := [(3, .int (-1)), (2, .int (-1)), (1, .int 0), (0, .ref h0)]) hx hb dX12_fences_16 rfl hl (by decide) rfl (fun ls hl => ?_)
  refine lv_iconst (v := 0) hx hb dX12_fences_17 (by decide) ?_
  refine lv_istore (lv' := [(4, .int 0), (3, .int (-1)), (2, .int (-1)), (1, .int 0), (0, .ref h0)]) hx hb dX12_fences_18 hl (by decide) rfl (fun ls hl => ?_)
  refine lv_iload hx hb dX12_fences_20 (lv_at hl 0 rfl) ?_
  refine lv_aload_n hx hb dX12_fences_22 rfl (lv_at hl 4 rfl) ?_
  refine va_get (D := (dC, dI)) (ci := 11) (v := .ref h2) (C := RX12) (T := TX12) (N := 47) hx hb hts ii_X12_fences_X12 hown hK hP 0 rfl rfl 14 (by decide) (hts _ mm_X12_fences_2) (fun _ h9 => h9) rfl dX12_fences_23 ?_
  refine lv_iconst (v := 0) hx hb dX12_fences_26 (by decide) ?_
  refine va_iald hx hb hK hP 1 0 rfl rfl (i := 0) (zz_in (by decide)) dX12_fences_27 ?_
  refine zz_top (v := 0) (by rfl) ?_
  refine lv_icmp_ge (tgt := 72) hx hb dX12_fences_28 (by decide) (fun _ => ?_) (fun c1 => absurd (by decide) c1)
  refine lv_aload_n hx hb dX12_fences_72 rfl (lv_at hl 4 rfl) ?_
  refine va_get (D := (dC, dI)) (ci := 11) (v := .ref h2) (C := RX12) (T := TX12) (N := 47) hx hb hts ii_X12_fences_X12 hown hK hP 0 rfl rfl 14 (by decide) (hts _ mm_X12_fences_2) (fun _ h9 => h9) rfl dX12_fences_73 ?_
  refine lv_bipush (v := 65) hx hb dX12_fences_76 (by decide) ?_
  refine lv_iload_n hx hb dX12_fences_78 rfl (lv_at hl 3 rfl) ?_
  refine va_iast hx hb hK hP hD hS 1 0 rfl rfl (i := 65) (zz_in (by decide)) dX12_fences_79 (fun H locs hP hD hS => ?_)
  have hP : va_P (dC, dI) vwCl [(h0, .inr (11, [.int 0, .ref h1, .int 0, .int 0, .int 0, .int 0, .int 0, .int 0, .int 0, .int 0, .int 0, .int 0, .long 0, .int 0, .ref h2, .ref h3, .ref h4, .ref h5, .ref h6, .ref h7, .ref h8, .ref h9, .ref h10, .int 0, .int 0, .int 0, .int 0, .int (-1), .int (-1), .long 0, .long 0, .ref h11, .ref h12, .int 0, .int (-1), .int 0, .ref h13, .int 0, .ref h14, .ref h15, .int 0, .int 0, .ref h16, .int 0, .int 0, .int 0, .int 0])), (h2, .inl (w0, 373, .inl (upd (upd (upd (fun _ => 0) 60 2) 62 2) 65 0)))] H := hP
  have hD : va_D A [(h0, .inr (11, [.int 0, .ref h1, .int 0, .int 0, .int 0, .int 0, .int 0, .int 0, .int 0, .int 0, .int 0, .int 0, .long 0, .int 0, .ref h2, .ref h3, .ref h4, .ref h5, .ref h6, .ref h7, .ref h8, .ref h9, .ref h10, .int 0, .int 0, .int 0, .int 0, .int (-1), .int (-1), .long 0, .long 0, .ref h11, .ref h12, .int 0, .int (-1), .int 0, .ref h13, .int 0, .ref h14, .ref h15, .int 0, .int 0, .ref h16, .int 0, .int 0, .int 0, .int 0])), (h2, .inl (w0, 373, .inl (upd (upd (upd (fun _ => 0) 60 2) 62 2) 65 0)))] := hD
  rw [zz_sw (f := (upd (upd (fun _ => 0) 60 2) 62 2)) (i := 65) (v := 0) rfl] at hP hD
  have hP : va_P (dC, dI) vwCl [(h0, .inr (11, [.int 0, .ref h1, .int 0, .int 0, .int 0, .int 0, .int 0, .int 0, .int 0, .int 0, .int 0, .int 0, .long 0, .int 0, .ref h2, .ref h3, .ref h4, .ref h5, .ref h6, .ref h7, .ref h8, .ref h9, .ref h10, .int 0, .int 0, .int 0, .int 0, .int (-1), .int (-1), .long 0, .long 0, .ref h11, .ref h12, .int 0, .int (-1), .int 0, .ref h13, .int 0, .ref h14, .ref h15, .int 0, .int 0, .ref h16, .int 0, .int 0, .int 0, .int 0])), (h2, .inl (w0, 373, .inl (upd (upd (fun _ => 0) 60 2) 62 2)))] H := hP
  have hD : va_D A [(h0, .inr (11, [.int 0, .ref h1, .int 0, .int 0, .int 0, .int 0, .int 0, .int 0, .int 0, .int 0, .int 0, .int 0, .long 0, .int 0, .ref h2, .ref h3, .ref h4, .ref h5, .ref h6, .ref h7, .ref h8, .ref h9, .ref h10, .int 0, .int 0, .int 0, .int 0, .int (-1), .int (-1), .long 0, .long 0, .ref h11, .ref h12, .int 0, .int (-1), .int 0, .ref h13, .int 0, .ref h14, .ref h15, .int 0, .int 0, .ref h16, .int 0, .int 0, .int 0, .int 0])), (h2, .inl (w0, 373, .inl (upd (upd (fun _ => 0) 60 2) 62 2)))] := hD
  refine lv_iload_n hx hb dX12_fences_80 rfl (lv_at hl 2 rfl) ?_
  have hP9 := hP.sub (ws' := []) [] rfl
  have hD9 := hD.sub (ws' := []) [] (by decide) rfl
  have hK9 := hK.sub (tys' := []) [] rfl
  refine W.widen (k := 0) (n := 0) (Nat.le_of_ble_eq_true rfl) (Nat.le_of_ble_eq_true rfl) ?_
  exact W.iret (v := (-1)) hx hb hr (fun t ht hW => ⟨⟨(-1), (), rfl, rfl, by rw [ht]; exact hP9, va_K.moved hW.alike hK9, hD9⟩, hS.F ht⟩) hS.2.2 dX12_fences_81
set_option maxHeartbeats 4000000 in
set_option maxRecDepth 100000 in
theorem k_X12_perils (l : Launch) (dC : Nat → ClassId) (dI : Nat → Nat → Nat) (ad : Nat → Nat) (h0 h1 h2 h3 h4 h5 h6 h7 h8 h9 h10 h11 h12 h13 h14 h15 h16 : Nat) (p0 : Int32) (w0 : ClassId) (sz : Nat) : Met l yX12_perils wsX12_perils ({ frames := 2, cells := 0, slots := 0, locals := 43 }) (va_Pc [.ref h0, .int p0] (CP (dC, dI) [(h0, .inr (11, [.int 0, .ref h1, .int 0, .int 0, .int 0, .int 0, .int 0, .int 0, .int 0, .int 0, .int 0, .int 0, .long 0, .int 0, .ref h2, .ref h3, .ref h4, .ref h5, .ref h6, .ref h7, .ref h8, .ref h9, .ref h10, .int 0, .int 0, .int 0, .int 0, .int (-1), .int (-1), .long 0, .long 0, .ref h11, .ref h12, .int 0, .int (-1), .int 0, .ref h13, .int 0, .ref h14, .ref h15, .int 0, .int 0, .ref h16, .int 0, .int 0, .int 0, .int 0])), (h2, .inl (w0, 373, .inl (upd (upd (fun _ => 0) 60 2) 62 2)))] [(w0, .int)] sz ad)) (va_Qi (fun (r : Int32) (_ : Unit) => r = (-1)) (fun (_ : Unit) (t : State) => CQ (dC, dI) [] [] (va_A [(h0, .inr (11, [.int 0, .ref h1, .int 0, .int 0, .int 0, .int 0, .int 0, .int 0, .int 0, .int 0, .int 0, .int 0, .long 0, .int 0, .ref h2, .ref h3, .ref h4, .ref h5, .ref h6, .ref h7, .ref h8, .ref h9, .ref h10, .int 0, .int 0, .int 0, .int 0, .int (-1), .int (-1), .long 0, .long 0, .ref h11, .ref h12, .int 0, .int (-1), .int 0, .ref h13, .int 0, .ref h14, .ref h15, .int 0, .int 0, .ref h16, .int 0, .int 0, .int 0, .int 0])), (h2, .inl (w0, 373, .inl (upd (upd (fun _ => 0) 60 2) 62 2)))] sz) t) (va_A [(h0, .inr (11, [.int 0, .ref h1, .int 0, .int 0, .int 0, .int 0, .int 0, .int 0, .int 0, .int 0, .int 0, .int 0, .long 0, .int 0, .ref h2, .ref h3, .ref h4, .ref h5, .ref h6, .ref h7, .ref h8, .ref h9, .ref h10, .int 0, .int 0, .int 0, .int 0, .int (-1), .int (-1), .long 0, .long 0, .ref h11, .ref h12, .int 0, .int (-1), .int 0, .ref h13, .int 0, .ref h14, .ref h15, .int 0, .int 0, .ref h16, .int 0, .int 0, .int 0, .int 0])), (h2, .inl (w0, 373, .inl (upd (upd (fun _ => 0) 60 2) 62 2)))] sz)) 0 0 (va_A [(h0, .inr (11, [.int 0, .ref h1, .int 0, .int 0, .int 0, .int 0, .int 0, .int 0, .int 0, .int 0, .int 0, .int 0, .long 0, .int 0, .ref h2, .ref h3, .ref h4, .ref h5, .ref h6, .ref h7, .ref h8, .ref h9, .ref h10, .int 0, .int 0, .int 0, .int 0, .int (-1), .int (-1), .long 0, .long 0, .ref h11, .ref h12, .int 0, .int (-1), .int 0, .ref h13, .int 0, .ref h14, .ref h15, .int 0, .int 0, .ref h16, .int 0, .int 0, .int 0, .int 0])), (h2, .inl (w0, 373, .inl (upd (upd (fun _ => 0) 60 2) 62 2)))] sz) := by
  refine Met.ofW (cc := cX12_perils) (maxL := 2) (ret := (some .int)) (by decide) rfl ?_
  intro p e s m args below meth c s₁ B hml hv
  obtain ⟨rfl, hsz, hP, hK, hD0, hE⟩ := hv
  have hx := B.exec
  have hb := B.bytes
  have hr := B.returns
  have hts := atoms_spec (ws := wsX12_perils) B.pre
  have hown : s.vm.findClass RX12 = some m.cls := findClass_of_methodNamed B.named
  have hlocks := B.notSynchronized
  subst hsz
  have hD := hD0.self (sz := s.heap.size)
  generalize hAe : va_A [(h0, .inr (11, [.int 0, .ref h1, .int 0, .int 0, .int 0, .int 0, .int 0, .int 0, .int 0, .int 0, .int 0, .int 0, .long 0, .int 0, .ref h2, .ref h3, .ref h4, .ref h5, .ref h6, .ref h7, .ref h8, .ref h9, .ref h10, .int 0, .int 0, .int 0, .int 0, .int (-1), .int (-1), .long 0, .long 0, .ref h11, .ref h12, .int 0, .int (-1), .int 0, .ref h13, .int 0, .ref h14, .ref h15, .int 0, .int 0, .ref h16, .int 0, .int 0, .int 0, .int 0])), (h2, .inl (w0, 373, .inl (upd (upd (fun _ => 0) 60 2) 62 2)))] s.heap.size = A at hD hE ⊢
  have hA : ∀ q : Nat, s.heap.size ≤ q → A q := fun q h => by rw [← hAe]; exact Or.inr h
  have hS : va_S A s.heap s.heap [] := va_S.rf
  have hl := lv_entry ([.ref h0, .int p0]) (n := 2) (Nat.le_of_ble_eq_true rfl)
  rw [lg_entry_eq]
  generalize (lg_sl ([.ref h0, .int p0]) ++ List.replicate (2 - (lg_sl ([.ref h0, .int p0])).length) Slot.unset).toArray = ls at hl ⊢
  have hl : lv_has ls 2 [(0, .ref h0), (1, .int p0)] := hl
  refine lv_aload_n hx hb dX12_perils_0 rfl (lv_at hl 0 rfl) ?_
  refine lv_iconst (v := 0) hx hb dX12_perils_1 (by decide) ?_
  refine va_put (D := (dC, dI)) (ci := 11) (v := .int 0) (ty := .int) (C := RX12) (T := TX12) (N := 47) hx hb hts ii_X12_perils_X12 tyX12 tyX12_ok nmX12 hown hK hP hD hS 0 rfl rfl 0 (by decide) (hts _ mm_X12_perils_1) (fun _ h9 => h9) rfl (by decide +kernel) rfl rfl (Nat.le_of_ble_eq_true rfl) dX12_perils_2 (fun H locs hP hD hS => ?_)
  have hP : va_P (dC, dI) vwCl [(h0, .inr (11, [.int 0, .ref h1, .int 0, .int 0, .int 0, .int 0, .int 0, .int 0, .int 0, .int 0, .int 0, .int 0, .long 0, .int 0, .ref h2, .ref h3, .ref h4, .ref h5, .ref h6, .ref h7, .ref h8, .ref h9, .ref h10, .int 0, .int 0, .int 0, .int 0, .int (-1), .int (-1), .long 0, .long 0, .ref h11, .ref h12, .int 0, .int (-1), .int 0, .ref h13, .int 0, .ref h14, .ref h15, .int 0, .int 0, .ref h16, .int 0, .int 0, .int 0, .int 0])), (h2, .inl (w0, 373, .inl (upd (upd (fun _ => 0) 60 2) 62 2)))] H := hP
  have hD : va_D A [(h0, .inr (11, [.int 0, .ref h1, .int 0, .int 0, .int 0, .int 0, .int 0, .int 0, .int 0, .int 0, .int 0, .int 0, .long 0, .int 0, .ref h2, .ref h3, .ref h4, .ref h5, .ref h6, .ref h7, .ref h8, .ref h9, .ref h10, .int 0, .int 0, .int 0, .int 0, .int (-1), .int (-1), .long 0, .long 0, .ref h11, .ref h12, .int 0, .int (-1), .int 0, .ref h13, .int 0, .ref h14, .ref h15, .int 0, .int 0, .ref h16, .int 0, .int 0, .int 0, .int 0])), (h2, .inl (w0, 373, .inl (upd (upd (fun _ => 0) 60 2) 62 2)))] := hD
  refine lv_aload_n hx hb dX12_perils_5 rfl (lv_at hl 0 rfl) ?_
  refine lv_iload_n hx hb dX12_perils_6 rfl (lv_at hl 1 rfl) ?_
  have hPc := hP.sub (ws' := [(h0, .inr (11, [.int 0, .ref h1, .int 0, .int 0, .int 0, .int 0, .int 0, .int 0, .int 0, .int 0, .int 0, .int 0, .long 0, .int 0, .ref h2, .ref h3, .ref h4, .ref h5, .ref h6, .ref h7, .ref h8, .ref h9, .ref h10, .int 0, .int 0, .int 0, .int 0, .int (-1), .int (-1), .long 0, .long 0, .ref h11, .ref h12, .int 0, .int (-1), .int 0, .ref h13, .int 0, .ref h14, .ref h15, .int 0, .int 0, .ref h16, .int 0, .int 0, .int 0, .int 0])), (h2, .inl (w0, 373, .inl (upd (upd (fun _ => 0) 60 2) 62 2)))]) [0, 1] rfl
  have hDc := hD.sub (ws' := [(h0, .inr (11, [.int 0, .ref h1, .int 0, .int 0, .int 0, .int 0, .int 0, .int 0, .int 0, .int 0, .int 0, .int 0, .long 0, .int 0, .ref h2, .ref h3, .ref h4, .ref h5, .ref h6, .ref h7, .ref h8, .ref h9, .ref h10, .int 0, .int 0, .int 0, .int 0, .int (-1), .int (-1), .long 0, .long 0, .ref h11, .ref h12, .int 0, .int (-1), .int 0, .ref h13, .int 0, .ref h14, .ref h15, .int 0, .int 0, .ref h16, .int 0, .int 0, .int 0, .int 0])), (h2, .inl (w0, 373, .inl (upd (upd (fun _ => 0) 60 2) 62 2)))]) [0, 1] (by decide) rfl
  have hKc := hK.sub (tys' := [(w0, .int)]) [0] rfl
  have hFc := va_free (wc := [(h0, .inr (11, [.int 0, .ref h1, .int 0, .int 0, .int 0, .int 0, .int 0, .int 0, .int 0, .int 0, .int 0, .int 0, .long 0, .int 0, .ref h2, .ref h3, .ref h4, .ref h5, .ref h6, .ref h7, .ref h8, .ref h9, .ref h10, .int 0, .int 0, .int 0, .int 0, .int (-1), .int (-1), .long 0, .long 0, .ref h11, .ref h12, .int 0, .int (-1), .int 0, .ref h13, .int 0, .ref h14, .ref h15, .int 0, .int 0, .ref h16, .int 0, .int 0, .int 0, .int 0])), (h2, .inl (w0, 373, .inl (upd (upd (fun _ => 0) 60 2) 62 2)))]) hD hS hA [0, 1] rfl
  refine va_calli (va_runV (As := [.int p0]) (rest := []) ⟨hx, hb, hml, hown, hts⟩ (k_X12_isPerson l dC dI ad h0 h1 h2 h3 h4 h5 h6 h7 h8 h9 h10 h11 h12 h13 h14 h15 h16 p0 w0 H.size) (cwV 1 hts gX12_perils_X12_isPerson rfl rfl rfl (by decide +kernel) ⟨Nat.le_of_ble_eq_true rfl, Nat.le_of_ble_eq_true rfl⟩) ⟨fun a U g mk q => ⟨q.1, CP.blind q.2⟩, va_recv hKc hPc (ci := 11) (q0 := 0) rfl rfl, fun U hU hW => ⟨rfl, CP.of hPc hKc hDc hE hS hFc hU hW⟩⟩ rfl rfl hl.1 rfl (lv_room (Nat.le_of_ble_eq_true rfl)) dX12_perils_7 ⟨Nat.le_of_ble_eq_true rfl, Nat.le_of_ble_eq_true rfl⟩) hS (fun q _ h => hFc q h) hFc (fun r1 u t H1 locs ht hvm hw hB hz1 hk1 hS => ?_)
  obtain ⟨hP1, hK1, hD1⟩ := hB
  rw [ht] at hP1
  obtain ⟨hP, hD⟩ := va_join (wr := []) (w1 := [(h0, .inr (11, [.int 0, .ref h1, .int 0, .int 0, .int 0, .int 0, .int 0, .int 0, .int 0, .int 0, .int 0, .int 0, .long 0, .int 0, .ref h2, .ref h3, .ref h4, .ref h5, .ref h6, .ref h7, .ref h8, .ref h9, .ref h10, .int 0, .int 0, .int 0, .int 0, .int (-1), .int (-1), .long 0, .long 0, .ref h11, .ref h12, .int 0, .int (-1), .int 0, .ref h13, .int 0, .ref h14, .ref h15, .int 0, .int 0, .ref h16, .int 0, .int 0, .int 0, .int 0])), (h2, .inl (w0, 373, .inl (upd (upd (fun _ => 0) 60 2) 62 2)))]) hP hD [0, 1] [] rfl rfl (by decide) (by decide) hk1 hFc hP1 hD1
  generalize H1 = H at hP hS ⊢
  clear hPc hDc hKc hFc hP1 hD1 hK1 hk1 hz1
  have hP : va_P (dC, dI) vwCl [(h0, .inr (11, [.int 0, .ref h1, .int 0, .int 0, .int 0, .int 0, .int 0, .int 0, .int 0, .int 0, .int 0, .int 0, .long 0, .int 0, .ref h2, .ref h3, .ref h4, .ref h5, .ref h6, .ref h7, .ref h8, .ref h9, .ref h10, .int 0, .int 0, .int 0, .int 0, .int (-1), .int (-1), .long 0, .long 0, .ref h11, .ref h12, .int 0, .int (-1), .int 0, .ref h13, .int 0, .ref h14, .ref h15, .int 0, .int 0, .ref h16, .int 0, .int 0, .int 0, .int 0])), (h2, .inl (w0, 373, .inl (upd (upd (fun _ => 0) 60 2) 62 2)))] H := hP
  have hD : va_D A [(h0, .inr (11, [.int 0, .ref h1, .int 0, .int 0, .int 0, .int 0, .int 0, .int 0, .int 0, .int 0, .int 0, .int 0, .long 0, .int 0, .ref h2, .ref h3, .ref h4, .ref h5, .ref h6, .ref h7, .ref h8, .ref h9, .ref h10, .int 0, .int 0, .int 0, .int 0, .int (-1), .int (-1), .long 0, .long 0, .ref h11, .ref h12, .int 0, .int (-1), .int 0, .ref h13, .int 0, .ref h14, .ref h15, .int 0, .int 0, .ref h16, .int 0, .int 0, .int 0, .int 0])), (h2, .inl (w0, 373, .inl (upd (upd (fun _ => 0) 60 2) 62 2)))] := hD
  refine zz_top (v := 0) hw ?_
  refine lv_if_eq (tgt := 29) hx hb dX12_perils_10 (by decide) (fun _ => ?_) (fun c2 => absurd (by decide) c2)
  refine lv_iconst (v := (-1)) hx hb dX12_perils_29 (by decide) ?_
  have hP9 := hP.sub (ws' := []) [] rfl
  have hD9 := hD.sub (ws' := []) [] (by decide) rfl
  have hK9 := hK.sub (tys' := []) [] rfl
  refine W.widen (k := 0) (n := 0) (Nat.le_of_ble_eq_true rfl) (Nat.le_of_ble_eq_true rfl) ?_
  exact W.iret (v := (-1)) hx hb hr (fun t ht hW => ⟨⟨(-1), (), rfl, rfl, by rw [ht]; exact hP9, va_K.moved hW.alike hK9, hD9⟩, hS.F ht⟩) hS.2.2 dX12_perils_30
set_option maxHeartbeats 4000000 in
set_option maxRecDepth 100000 in
theorem k_X12_rounds (l : Launch) (dC : Nat → ClassId) (dI : Nat → Nat → Nat) (ad : Nat → Nat) (h0 h1 h2 h3 h4 h5 h6 h7 h8 h9 h10 h11 h12 h13 h14 h15 h16 : Nat) (w0 w1 w2 : ClassId) (sz : Nat) : Met l yX12_rounds wsX12_rounds ({ frames := 1, cells := 0, slots := 0, locals := 23 }) (va_Pc [.ref h0] (CP (dC, dI) [(h1, .inl (w0, 8, .inl (fun _ => 0))), (h2, .inl (w1, 8, .inl (fun _ => 0))), (h0, .inr (11, [.int 0, .ref h3, .int 0, .int 0, .int 0, .int 0, .int 0, .int 0, .int 0, .int 0, .int 0, .int 0, .long 0, .int 0, .ref h4, .ref h5, .ref h6, .ref h7, .ref h8, .ref h9, .ref h10, .ref h11, .ref h12, .int 0, .int 0, .int 0, .int 0, .int (-1), .int (-1), .long 0, .long 0, .ref h1, .ref h2, .int 0, .int (-1), .int 0, .ref h13, .int 0, .ref h14, .ref h15, .int 0, .int 0, .ref h16, .int 0, .int 0, .int 0, .int 0])), (h4, .inl (w2, 373, .inl (upd (upd (fun _ => 0) 60 2) 62 2)))] [(w2, .int), (w0, .int), (w1, .int)] sz ad)) (va_Qi (fun (r : Int32) (_ : Unit) => r = 1) (fun (_ : Unit) (t : State) => CQ (dC, dI) [] [] (va_A [(h1, .inl (w0, 8, .inl (fun _ => 0))), (h2, .inl (w1, 8, .inl (fun _ => 0))), (h0, .inr (11, [.int 0, .ref h3, .int 0, .int 0, .int 0, .int 0, .int 0, .int 0, .int 0, .int 0, .int 0, .int 0, .long 0, .int 0, .ref h4, .ref h5, .ref h6, .ref h7, .ref h8, .ref h9, .ref h10, .ref h11, .ref h12, .int 0, .int 0, .int 0, .int 0, .int (-1), .int (-1), .long 0, .long 0, .ref h1, .ref h2, .int 0, .int (-1), .int 0, .ref h13, .int 0, .ref h14, .ref h15, .int 0, .int 0, .ref h16, .int 0, .int 0, .int 0, .int 0])), (h4, .inl (w2, 373, .inl (upd (upd (fun _ => 0) 60 2) 62 2)))] sz) t) (va_A [(h1, .inl (w0, 8, .inl (fun _ => 0))), (h2, .inl (w1, 8, .inl (fun _ => 0))), (h0, .inr (11, [.int 0, .ref h3, .int 0, .int 0, .int 0, .int 0, .int 0, .int 0, .int 0, .int 0, .int 0, .int 0, .long 0, .int 0, .ref h4, .ref h5, .ref h6, .ref h7, .ref h8, .ref h9, .ref h10, .ref h11, .ref h12, .int 0, .int 0, .int 0, .int 0, .int (-1), .int (-1), .long 0, .long 0, .ref h1, .ref h2, .int 0, .int (-1), .int 0, .ref h13, .int 0, .ref h14, .ref h15, .int 0, .int 0, .ref h16, .int 0, .int 0, .int 0, .int 0])), (h4, .inl (w2, 373, .inl (upd (upd (fun _ => 0) 60 2) 62 2)))] sz)) 0 0 (va_A [(h1, .inl (w0, 8, .inl (fun _ => 0))), (h2, .inl (w1, 8, .inl (fun _ => 0))), (h0, .inr (11, [.int 0, .ref h3, .int 0, .int 0, .int 0, .int 0, .int 0, .int 0, .int 0, .int 0, .int 0, .int 0, .long 0, .int 0, .ref h4, .ref h5, .ref h6, .ref h7, .ref h8, .ref h9, .ref h10, .ref h11, .ref h12, .int 0, .int 0, .int 0, .int 0, .int (-1), .int (-1), .long 0, .long 0, .ref h1, .ref h2, .int 0, .int (-1), .int 0, .ref h13, .int 0, .ref h14, .ref h15, .int 0, .int 0, .ref h16, .int 0, .int 0, .int 0, .int 0])), (h4, .inl (w2, 373, .inl (upd (upd (fun _ => 0) 60 2) 62 2)))] sz) := by
  refine Met.ofW (cc := cX12_rounds) (maxL := 4) (ret := (some .int)) (by decide) rfl ?_
  intro p e s m args below meth c s₁ B hml hv
  obtain ⟨rfl, hsz, hP, hK, hD0, hE⟩ := hv
  have hx := B.exec
  have hb := B.bytes
  have hr := B.returns
  have hts := atoms_spec (ws := wsX12_rounds) B.pre
  have hown : s.vm.findClass RX12 = some m.cls := findClass_of_methodNamed B.named
  have hlocks := B.notSynchronized
  subst hsz
  have hD := hD0.self (sz := s.heap.size)
  generalize hAe : va_A [(h1, .inl (w0, 8, .inl (fun _ => 0))), (h2, .inl (w1, 8, .inl (fun _ => 0))), (h0, .inr (11, [.int 0, .ref h3, .int 0, .int 0, .int 0, .int 0, .int 0, .int 0, .int 0, .int 0, .int 0, .int 0, .long 0, .int 0, .ref h4, .ref h5, .ref h6, .ref h7, .ref h8, .ref h9, .ref h10, .ref h11, .ref h12, .int 0, .int 0, .int 0, .int 0, .int (-1), .int (-1), .long 0, .long 0, .ref h1, .ref h2, .int 0, .int (-1), .int 0, .ref h13, .int 0, .ref h14, .ref h15, .int 0, .int 0, .ref h16, .int 0, .int 0, .int 0, .int 0])), (h4, .inl (w2, 373, .inl (upd (upd (fun _ => 0) 60 2) 62 2)))] s.heap.size = A at hD hE ⊢
  have hA : ∀ q : Nat, s.heap.size ≤ q → A q := fun q h => by rw [← hAe]; exact Or.inr h
  have hS : va_S A s.heap s.heap [] := va_S.rf
  have hl := lv_entry ([.ref h0]) (n := 4) (Nat.le_of_ble_eq_true rfl)
  rw [lg_entry_eq]
  generalize (lg_sl ([.ref h0]) ++ List.replicate (4 - (lg_sl ([.ref h0])).length) Slot.unset).toArray = ls at hl ⊢
  have hl : lv_has ls 4 [(0, .ref h0)] := hl
  refine lv_aload_n hx hb dX12_rounds_0 rfl (lv_at hl 0 rfl) ?_
  refine lv_iconst (v := 0) hx hb dX12_rounds_1 (by decide) ?_
  refine va_put (D := (dC, dI)) (ci := 11) (v := .int 0) (ty := .int) (C := RX12) (T := TX12) (N := 47) hx hb hts ii_X12_rounds_X12 tyX12 tyX12_ok nmX12 hown hK hP hD hS 2 rfl rfl 0 (by decide) (hts _ mm_X12_rounds_1) (fun _ h9 => h9) rfl (by decide +kernel) rfl rfl (Nat.le_of_ble_eq_true rfl) dX12_rounds_2 (fun H locs hP hD hS => ?_)
  have hP : va_P (dC, dI) vwCl [(h1, .inl (w0, 8, .inl (fun _ => 0))), (h2, .inl (w1, 8, .inl (fun _ => 0))), (h0, .inr (11, [.int 0, .ref h3, .int 0, .int 0, .int 0, .int 0, .int 0, .int 0, .int 0, .int 0, .int 0, .int 0, .long 0, .int 0, .ref h4, .ref h5, .ref h6, .ref h7, .ref h8, .ref h9, .ref h10, .ref h11, .ref h12, .int 0, .int 0, .int 0, .int 0, .int (-1), .int (-1), .long 0, .long 0, .ref h1, .ref h2, .int 0, .int (-1), .int 0, .ref h13, .int 0, .ref h14, .ref h15, .int 0, .int 0, .ref h16, .int 0, .int 0, .int 0, .int 0])), (h4, .inl (w2, 373, .inl (upd (upd (fun _ => 0) 60 2) 62 2)))] H := hP
  have hD : va_D A [(h1, .inl (w0, 8, .inl (fun _ => 0))), (h2, .inl (w1, 8, .inl (fun _ => 0))), (h0, .inr (11, [.int 0, .ref h3, .int 0, .int 0, .int 0, .int 0, .int 0, .int 0, .int 0, .int 0, .int 0, .int 0, .long 0, .int 0, .ref h4, .ref h5, .ref h6, .ref h7, .ref h8, .ref h9, .ref h10, .ref h11, .ref h12, .int 0, .int 0, .int 0, .int 0, .int (-1), .int (-1), .long 0, .long 0, .ref h1, .ref h2, .int 0, .int (-1), .int 0, .ref h13, .int 0, .ref h14, .ref h15, .int 0, .int 0, .ref h16, .int 0, .int 0, .int 0, .int 0])), (h4, .inl (w2, 373, .inl (upd (upd (fun _ => 0) 60 2) 62 2)))] := hD
  refine lv_iconst (v := 0) hx hb dX12_rounds_5 (by decide) ?_
  refine lv_istore_n (lv' := [(1, .int 0), (0, .ref h0)]) hx hb dX12_rounds_6 rfl hl (by decide) rfl (fun ls hl => ?_)
  refine lv_iload_n hx hb dX12_rounds_7 rfl (lv_at hl 0 rfl) ?_
  refine lv_bipush (v := 8) hx hb dX12_rounds_8 (by decide) ?_
  refine lv_icmp_ge (tgt := 34) hx hb dX12_rounds_10 (by decide) (fun c1 => absurd c1 (by decide)) (fun _ => ?_)
  refine lv_aload_n hx hb dX12_rounds_13 rfl (lv_at hl 1 rfl) ?_
  refine va_get (D := (dC, dI)) (ci := 11) (v := .ref h2) (C := RX12) (T := TX12) (N := 47) hx hb hts ii_X12_rounds_X12 hown hK hP 2 rfl rfl 32 (by decide) (hts _ mm_X12_rounds_2) (fun _ h9 => h9) rfl dX12_rounds_14 ?_
  refine lv_iload_n hx hb dX12_rounds_17 rfl (lv_at hl 0 rfl) ?_
  refine lv_aload_n hx hb dX12_rounds_18 rfl (lv_at hl 1 rfl) ?_
  refine va_get (D := (dC, dI)) (ci := 11) (v := .ref h4) (C := RX12) (T := TX12) (N := 47) hx hb hts ii_X12_rounds_X12 hown hK hP 2 rfl rfl 14 (by decide) (hts _ mm_X12_rounds_3) (fun _ h9 => h9) rfl dX12_rounds_19 ?_
  refine lv_bipush (v := 71) hx hb dX12_rounds_22 (by decide) ?_
  refine lv_iload_n hx hb dX12_rounds_24 rfl (lv_at hl 0 rfl) ?_
  refine lv_iadd hx hb dX12_rounds_25 ?_
  refine zz_top (v := 71) (by decide) ?_
  refine va_iald hx hb hK hP 3 0 rfl rfl (i := 71) (zz_in (by decide)) dX12_rounds_26 ?_
  refine zz_top (v := 0) (by rfl) ?_
  refine va_iast hx hb hK hP hD hS 1 2 rfl rfl (i := 0) (zz_in (by decide)) dX12_rounds_27 (fun H locs hP hD hS => ?_)
  have hP : va_P (dC, dI) vwCl [(h1, .inl (w0, 8, .inl (fun _ => 0))), (h2, .inl (w1, 8, .inl (upd (fun _ => 0) 0 0))), (h0, .inr (11, [.int 0, .ref h3, .int 0, .int 0, .int 0, .int 0, .int 0, .int 0, .int 0, .int 0, .int 0, .int 0, .long 0, .int 0, .ref h4, .ref h5, .ref h6, .ref h7, .ref h8, .ref h9, .ref h10, .ref h11, .ref h12, .int 0, .int 0, .int 0, .int 0, .int (-1), .int (-1), .long 0, .long 0, .ref h1, .ref h2, .int 0, .int (-1), .int 0, .ref h13, .int 0, .ref h14, .ref h15, .int 0, .int 0, .ref h16, .int 0, .int 0, .int 0, .int 0])), (h4, .inl (w2, 373, .inl (upd (upd (fun _ => 0) 60 2) 62 2)))] H := hP
  have hD : va_D A [(h1, .inl (w0, 8, .inl (fun _ => 0))), (h2, .inl (w1, 8, .inl (upd (fun _ => 0) 0 0))), (h0, .inr (11, [.int 0, .ref h3, .int 0, .int 0, .int 0, .int 0, .int 0, .int 0, .int 0, .int 0, .int 0, .int 0, .long 0, .int 0, .ref h4, .ref h5, .ref h6, .ref h7, .ref h8, .ref h9, .ref h10, .ref h11, .ref h12, .int 0, .int 0, .int 0, .int 0, .int (-1), .int (-1), .long 0, .long 0, .ref h1, .ref h2, .int 0, .int (-1), .int 0, .ref h13, .int 0, .ref h14, .ref h15, .int 0, .int 0, .ref h16, .int 0, .int 0, .int 0, .int 0])), (h4, .inl (w2, 373, .inl (upd (upd (fun _ => 0) 60 2) 62 2)))] := hD
  rw [zz_sw (f := (fun _ => 0)) (i := 0) (v := 0) rfl] at hP hD
  have hP : va_P (dC, dI) vwCl [(h1, .inl (w0, 8, .inl (fun _ => 0))), (h2, .inl (w1, 8, .inl (fun _ => 0))), (h0, .inr (11, [.int 0, .ref h3, .int 0, .int 0, .int 0, .int 0, .int 0, .int 0, .int 0, .int 0, .int 0, .int 0, .long 0, .int 0, .ref h4, .ref h5, .ref h6, .ref h7, .ref h8, .ref h9, .ref h10, .ref h11, .ref h12, .int 0, .int 0, .int 0, .int 0, .int (-1), .int (-1), .long 0, .long 0, .ref h1, .ref h2, .int 0, .int (-1), .int 0, .ref h13, .int 0, .ref h14, .ref h15, .int 0, .int 0, .ref h16, .int 0, .int 0, .int 0, .int 0])), (h4, .inl (w2, 373, .inl (upd (upd (fun _ => 0) 60 2) 62 2)))] H := hP
  have hD : va_D A [(h1, .inl (w0, 8, .inl (fun _ => 0))), (h2, .inl (w1, 8, .inl (fun _ => 0))), (h0, .inr (11, [.int 0, .ref h3, .int 0, .int 0, .int 0, .int 0, .int 0, .int 0, .int 0, .int 0, .int 0, .int 0, .long 0, .int 0, .ref h4, .ref h5, .ref h6, .ref h7, .ref h8, .ref h9, .ref h10, .ref h11, .ref h12, .int 0, .int 0, .int 0, .int 0, .int (-1), .int (-1), .long 0, .long 0, .ref h1, .ref h2, .int 0, .int (-1), .int 0, .ref h13, .int 0, .ref h14, .ref h15, .int 0, .int 0, .ref h16, .int 0, .int 0, .int 0, .int 0])), (h4, .inl (w2, 373, .inl (upd (upd (fun _ => 0) 60 2) 62 2)))] := hD
  refine lv_iinc (v := 1) (lv' := [(1, .int 1), (0, .ref h0)]) hx hb dX12_rounds_28 hl (k := 0) rfl (by decide) (by decide) rfl (fun ls hl => ?_)
  refine lv_goto (tgt := 7) hx hb dX12_rounds_31 (by decide) ?_
  refine lv_iload_n hx hb dX12_rounds_7 rfl (lv_at hl 0 rfl) ?_
  refine lv_bipush (v := 8) hx hb dX12_rounds_8 (by decide) ?_
  refine lv_icmp_ge (tgt := 34) hx hb dX12_rounds_10 (by decide) (fun c2 => absurd c2 (by decide)) (fun _ => ?_)
  refine lv_aload_n hx hb dX12_rounds_13 rfl (lv_at hl 1 rfl) ?_
  refine va_get (D := (dC, dI)) (ci := 11) (v := .ref h2) (C := RX12) (T := TX12) (N := 47) hx hb hts ii_X12_rounds_X12 hown hK hP 2 rfl rfl 32 (by decide) (hts _ mm_X12_rounds_2) (fun _ h9 => h9) rfl dX12_rounds_14 ?_
  refine lv_iload_n hx hb dX12_rounds_17 rfl (lv_at hl 0 rfl) ?_
  refine lv_aload_n hx hb dX12_rounds_18 rfl (lv_at hl 1 rfl) ?_
  refine va_get (D := (dC, dI)) (ci := 11) (v := .ref h4) (C := RX12) (T := TX12) (N := 47) hx hb hts ii_X12_rounds_X12 hown hK hP 2 rfl rfl 14 (by decide) (hts _ mm_X12_rounds_3) (fun _ h9 => h9) rfl dX12_rounds_19 ?_
  refine lv_bipush (v := 71) hx hb dX12_rounds_22 (by decide) ?_
  refine lv_iload_n hx hb dX12_rounds_24 rfl (lv_at hl 0 rfl) ?_
  refine lv_iadd hx hb dX12_rounds_25 ?_
  refine zz_top (v := 72) (by decide) ?_
  refine va_iald hx hb hK hP 3 0 rfl rfl (i := 72) (zz_in (by decide)) dX12_rounds_26 ?_
  refine zz_top (v := 0) (by rfl) ?_
  refine va_iast hx hb hK hP hD hS 1 2 rfl rfl (i := 1) (zz_in (by decide)) dX12_rounds_27 (fun H locs hP hD hS => ?_)
  have hP : va_P (dC, dI) vwCl [(h1, .inl (w0, 8, .inl (fun _ => 0))), (h2, .inl (w1, 8, .inl (upd (fun _ => 0) 1 0))), (h0, .inr (11, [.int 0, .ref h3, .int 0, .int 0, .int 0, .int 0, .int 0, .int 0, .int 0, .int 0, .int 0, .int 0, .long 0, .int 0, .ref h4, .ref h5, .ref h6, .ref h7, .ref h8, .ref h9, .ref h10, .ref h11, .ref h12, .int 0, .int 0, .int 0, .int 0, .int (-1), .int (-1), .long 0, .long 0, .ref h1, .ref h2, .int 0, .int (-1), .int 0, .ref h13, .int 0, .ref h14, .ref h15, .int 0, .int 0, .ref h16, .int 0, .int 0, .int 0, .int 0])), (h4, .inl (w2, 373, .inl (upd (upd (fun _ => 0) 60 2) 62 2)))] H := hP
  have hD : va_D A [(h1, .inl (w0, 8, .inl (fun _ => 0))), (h2, .inl (w1, 8, .inl (upd (fun _ => 0) 1 0))), (h0, .inr (11, [.int 0, .ref h3, .int 0, .int 0, .int 0, .int 0, .int 0, .int 0, .int 0, .int 0, .int 0, .int 0, .long 0, .int 0, .ref h4, .ref h5, .ref h6, .ref h7, .ref h8, .ref h9, .ref h10, .ref h11, .ref h12, .int 0, .int 0, .int 0, .int 0, .int (-1), .int (-1), .long 0, .long 0, .ref h1, .ref h2, .int 0, .int (-1), .int 0, .ref h13, .int 0, .ref h14, .ref h15, .int 0, .int 0, .ref h16, .int 0, .int 0, .int 0, .int 0])), (h4, .inl (w2, 373, .inl (upd (upd (fun _ => 0) 60 2) 62 2)))] := hD
  rw [zz_sw (f := (fun _ => 0)) (i := 1) (v := 0) rfl] at hP hD
  have hP : va_P (dC, dI) vwCl [(h1, .inl (w0, 8, .inl (fun _ => 0))), (h2, .inl (w1, 8, .inl (fun _ => 0))), (h0, .inr (11, [.int 0, .ref h3, .int 0, .int 0, .int 0, .int 0, .int 0, .int 0, .int 0, .int 0, .int 0, .int 0, .long 0, .int 0, .ref h4, .ref h5, .ref h6, .ref h7, .ref h8, .ref h9, .ref h10, .ref h11, .ref h12, .int 0, .int 0, .int 0, .int 0, .int (-1), .int (-1), .long 0, .long 0, .ref h1, .ref h2, .int 0, .int (-1), .int 0, .ref h13, .int 0, .ref h14, .ref h15, .int 0, .int 0, .ref h16, .int 0, .int 0, .int 0, .int 0])), (h4, .inl (w2, 373, .inl (upd (upd (fun _ => 0) 60 2) 62 2)))] H := hP
  have hD : va_D A [(h1, .inl (w0, 8, .inl (fun _ => 0))), (h2, .inl (w1, 8, .inl (fun _ => 0))), (h0, .inr (11, [.int 0, .ref h3, .int 0, .int 0, .int 0, .int 0, .int 0, .int 0, .int 0, .int 0, .int 0, .int 0, .long 0, .int 0, .ref h4, .ref h5, .ref h6, .ref h7, .ref h8, .ref h9, .ref h10, .ref h11, .ref h12, .int 0, .int 0, .int 0, .int 0, .int (-1), .int (-1), .long 0, .long 0, .ref h1, .ref h2, .int 0, .int (-1), .int 0, .ref h13, .int 0, .ref h14, .ref h15, .int 0, .int 0, .ref h16, .int 0, .int 0, .int 0, .int 0])), (h4, .inl (w2, 373, .inl (upd (upd (fun _ => 0) 60 2) 62 2)))] := hD
  refine lv_iinc (v := 2) (lv' := [(1, .int 2), (0, .ref h0)]) hx hb dX12_rounds_28 hl (k := 0) rfl (by decide) (by decide) rfl (fun ls hl => ?_)
  refine lv_goto (tgt := 7) hx hb dX12_rounds_31 (by decide) ?_
  refine lv_iload_n hx hb dX12_rounds_7 rfl (lv_at hl 0 rfl) ?_
  refine lv_bipush (v := 8) hx hb dX12_rounds_8 (by decide) ?_
  refine lv_icmp_ge (tgt := 34) hx hb dX12_rounds_10 (by decide) (fun c3 => absurd c3 (by decide)) (fun _ => ?_)
  refine lv_aload_n hx hb dX12_rounds_13 rfl (lv_at hl 1 rfl) ?_
  refine va_get (D := (dC, dI)) (ci := 11) (v := .ref h2) (C := RX12) (T := TX12) (N := 47) hx hb hts ii_X12_rounds_X12 hown hK hP 2 rfl rfl 32 (by decide) (hts _ mm_X12_rounds_2) (fun _ h9 => h9) rfl dX12_rounds_14 ?_
  refine lv_iload_n hx hb dX12_rounds_17 rfl (lv_at hl 0 rfl) ?_
  refine lv_aload_n hx hb dX12_rounds_18 rfl (lv_at hl 1 rfl) ?_
  refine va_get (D := (dC, dI)) (ci := 11) (v := .ref h4) (C := RX12) (T := TX12) (N := 47) hx hb hts ii_X12_rounds_X12 hown hK hP 2 rfl rfl 14 (by decide) (hts _ mm_X12_rounds_3) (fun _ h9 => h9) rfl dX12_rounds_19 ?_
  refine lv_bipush (v := 71) hx hb dX12_rounds_22 (by decide) ?_
  refine lv_iload_n hx hb dX12_rounds_24 rfl (lv_at hl 0 rfl) ?_
  refine lv_iadd hx hb dX12_rounds_25 ?_
  refine zz_top (v := 73) (by decide) ?_
  refine va_iald hx hb hK hP 3 0 rfl rfl (i := 73) (zz_in (by decide)) dX12_rounds_26 ?_
  refine zz_top (v := 0) (by rfl) ?_
  refine va_iast hx hb hK hP hD hS 1 2 rfl rfl (i := 2) (zz_in (by decide)) dX12_rounds_27 (fun H locs hP hD hS => ?_)
  have hP : va_P (dC, dI) vwCl [(h1, .inl (w0, 8, .inl (fun _ => 0))), (h2, .inl (w1, 8, .inl (upd (fun _ => 0) 2 0))), (h0, .inr (11, [.int 0, .ref h3, .int 0, .int 0, .int 0, .int 0, .int 0, .int 0, .int 0, .int 0, .int 0, .int 0, .long 0, .int 0, .ref h4, .ref h5, .ref h6, .ref h7, .ref h8, .ref h9, .ref h10, .ref h11, .ref h12, .int 0, .int 0, .int 0, .int 0, .int (-1), .int (-1), .long 0, .long 0, .ref h1, .ref h2, .int 0, .int (-1), .int 0, .ref h13, .int 0, .ref h14, .ref h15, .int 0, .int 0, .ref h16, .int 0, .int 0, .int 0, .int 0])), (h4, .inl (w2, 373, .inl (upd (upd (fun _ => 0) 60 2) 62 2)))] H := hP
  have hD : va_D A [(h1, .inl (w0, 8, .inl (fun _ => 0))), (h2, .inl (w1, 8, .inl (upd (fun _ => 0) 2 0))), (h0, .inr (11, [.int 0, .ref h3, .int 0, .int 0, .int 0, .int 0, .int 0, .int 0, .int 0, .int 0, .int 0, .int 0, .long 0, .int 0, .ref h4, .ref h5, .ref h6, .ref h7, .ref h8, .ref h9, .ref h10, .ref h11, .ref h12, .int 0, .int 0, .int 0, .int 0, .int (-1), .int (-1), .long 0, .long 0, .ref h1, .ref h2, .int 0, .int (-1), .int 0, .ref h13, .int 0, .ref h14, .ref h15, .int 0, .int 0, .ref h16, .int 0, .int 0, .int 0, .int 0])), (h4, .inl (w2, 373, .inl (upd (upd (fun _ => 0) 60 2) 62 2)))] := hD
  rw [zz_sw (f := (fun _ => 0)) (i := 2) (v := 0) rfl] at hP hD
  have hP : va_P (dC, dI) vwCl [(h1, .inl (w0, 8, .inl (fun _ => 0))), (h2, .inl (w1, 8, .inl (fun _ => 0))), (h0, .inr (11, [.int 0, .ref h3, .int 0, .int 0, .int 0, .int 0, .int 0, .int 0, .int 0, .int 0, .int 0, .int 0, .long 0, .int 0, .ref h4, .ref h5, .ref h6, .ref h7, .ref h8, .ref h9, .ref h10, .ref h11, .ref h12, .int 0, .int 0, .int 0, .int 0, .int (-1), .int (-1), .long 0, .long 0, .ref h1, .ref h2, .int 0, .int (-1), .int 0, .ref h13, .int 0, .ref h14, .ref h15, .int 0, .int 0, .ref h16, .int 0, .int 0, .int 0, .int 0])), (h4, .inl (w2, 373, .inl (upd (upd (fun _ => 0) 60 2) 62 2)))] H := hP
  have hD : va_D A [(h1, .inl (w0, 8, .inl (fun _ => 0))), (h2, .inl (w1, 8, .inl (fun _ => 0))), (h0, .inr (11, [.int 0, .ref h3, .int 0, .int 0, .int 0, .int 0, .int 0, .int 0, .int 0, .int 0, .int 0, .int 0, .long 0, .int 0, .ref h4, .ref h5, .ref h6, .ref h7, .ref h8, .ref h9, .ref h10, .ref h11, .ref h12, .int 0, .int 0, .int 0, .int 0, .int (-1), .int (-1), .long 0, .long 0, .ref h1, .ref h2, .int 0, .int (-1), .int 0, .ref h13, .int 0, .ref h14, .ref h15, .int 0, .int 0, .ref h16, .int 0, .int 0, .int 0, .int 0])), (h4, .inl (w2, 373, .inl (upd (upd (fun _ => 0) 60 2) 62 2)))] := hD
  refine lv_iinc (v := 3) (lv' := [(1, .int 3), (0, .ref h0)]) hx hb dX12_rounds_28 hl (k := 0) rfl (by decide) (by decide) rfl (fun ls hl => ?_)
  refine lv_goto (tgt := 7) hx hb dX12_rounds_31 (by decide) ?_
  refine lv_iload_n hx hb dX12_rounds_7 rfl (lv_at hl 0 rfl) ?_
  refine lv_bipush (v := 8) hx hb dX12_rounds_8 (by decide) ?_
  refine lv_icmp_ge (tgt := 34) hx hb dX12_rounds_10 (by decide) (fun c4 => absurd c4 (by decide)) (fun _ => ?_)
  refine lv_aload_n hx hb dX12_rounds_13 rfl (lv_at hl 1 rfl) ?_
  refine va_get (D := (dC, dI)) (ci := 11) (v := .ref h2) (C := RX12) (T := TX12) (N := 47) hx hb hts ii_X12_rounds_X12 hown hK hP 2 rfl rfl 32 (by decide) (hts _ mm_X12_rounds_2) (fun _ h9 => h9) rfl dX12_rounds_14 ?_
  refine lv_iload_n hx hb dX12_rounds_17 rfl (lv_at hl 0 rfl) ?_
  refine lv_aload_n hx hb dX12_rounds_18 rfl (lv_at hl 1 rfl) ?_
  refine va_get (D := (dC, dI)) (ci := 11) (v := .ref h4) (C := RX12) (T := TX12) (N := 47) hx hb hts ii_X12_rounds_X12 hown hK hP 2 rfl rfl 14 (by decide) (hts _ mm_X12_rounds_3) (fun _ h9 => h9) rfl dX12_rounds_19 ?_
  refine lv_bipush (v := 71) hx hb dX12_rounds_22 (by decide) ?_
  refine lv_iload_n hx hb dX12_rounds_24 rfl (lv_at hl 0 rfl) ?_
  refine lv_iadd hx hb dX12_rounds_25 ?_
  refine zz_top (v := 74) (by decide) ?_
  refine va_iald hx hb hK hP 3 0 rfl rfl (i := 74) (zz_in (by decide)) dX12_rounds_26 ?_
  refine zz_top (v := 0) (by rfl) ?_
  refine va_iast hx hb hK hP hD hS 1 2 rfl rfl (i := 3) (zz_in (by decide)) dX12_rounds_27 (fun H locs hP hD hS => ?_)
  have hP : va_P (dC, dI) vwCl [(h1, .inl (w0, 8, .inl (fun _ => 0))), (h2, .inl (w1, 8, .inl (upd (fun _ => 0) 3 0))), (h0, .inr (11, [.int 0, .ref h3, .int 0, .int 0, .int 0, .int 0, .int 0, .int 0, .int 0, .int 0, .int 0, .int 0, .long 0, .int 0, .ref h4, .ref h5, .ref h6, .ref h7, .ref h8, .ref h9, .ref h10, .ref h11, .ref h12, .int 0, .int 0, .int 0, .int 0, .int (-1), .int (-1), .long 0, .long 0, .ref h1, .ref h2, .int 0, .int (-1), .int 0, .ref h13, .int 0, .ref h14, .ref h15, .int 0, .int 0, .ref h16, .int 0, .int 0, .int 0, .int 0])), (h4, .inl (w2, 373, .inl (upd (upd (fun _ => 0) 60 2) 62 2)))] H := hP
  have hD : va_D A [(h1, .inl (w0, 8, .inl (fun _ => 0))), (h2, .inl (w1, 8, .inl (upd (fun _ => 0) 3 0))), (h0, .inr (11, [.int 0, .ref h3, .int 0, .int 0, .int 0, .int 0, .int 0, .int 0, .int 0, .int 0, .int 0, .int 0, .long 0, .int 0, .ref h4, .ref h5, .ref h6, .ref h7, .ref h8, .ref h9, .ref h10, .ref h11, .ref h12, .int 0, .int 0, .int 0, .int 0, .int (-1), .int (-1), .long 0, .long 0, .ref h1, .ref h2, .int 0, .int (-1), .int 0, .ref h13, .int 0, .ref h14, .ref h15, .int 0, .int 0, .ref h16, .int 0, .int 0, .int 0, .int 0])), (h4, .inl (w2, 373, .inl (upd (upd (fun _ => 0) 60 2) 62 2)))] := hD
  rw [zz_sw (f := (fun _ => 0)) (i := 3) (v := 0) rfl] at hP hD
  have hP : va_P (dC, dI) vwCl [(h1, .inl (w0, 8, .inl (fun _ => 0))), (h2, .inl (w1, 8, .inl (fun _ => 0))), (h0, .inr (11, [.int 0, .ref h3, .int 0, .int 0, .int 0, .int 0, .int 0, .int 0, .int 0, .int 0, .int 0, .int 0, .long 0, .int 0, .ref h4, .ref h5, .ref h6, .ref h7, .ref h8, .ref h9, .ref h10, .ref h11, .ref h12, .int 0, .int 0, .int 0, .int 0, .int (-1), .int (-1), .long 0, .long 0, .ref h1, .ref h2, .int 0, .int (-1), .int 0, .ref h13, .int 0, .ref h14, .ref h15, .int 0, .int 0, .ref h16, .int 0, .int 0, .int 0, .int 0])), (h4, .inl (w2, 373, .inl (upd (upd (fun _ => 0) 60 2) 62 2)))] H := hP
  have hD : va_D A [(h1, .inl (w0, 8, .inl (fun _ => 0))), (h2, .inl (w1, 8, .inl (fun _ => 0))), (h0, .inr (11, [.int 0, .ref h3, .int 0, .int 0, .int 0, .int 0, .int 0, .int 0, .int 0, .int 0, .int 0, .int 0, .long 0, .int 0, .ref h4, .ref h5, .ref h6, .ref h7, .ref h8, .ref h9, .ref h10, .ref h11, .ref h12, .int 0, .int 0, .int 0, .int 0, .int (-1), .int (-1), .long 0, .long 0, .ref h1, .ref h2, .int 0, .int (-1), .int 0, .ref h13, .int 0, .ref h14, .ref h15, .int 0, .int 0, .ref h16, .int 0, .int 0, .int 0, .int 0])), (h4, .inl (w2, 373, .inl (upd (upd (fun _ => 0) 60 2) 62 2)))] := hD
  refine lv_iinc (v := 4) (lv' := [(1, .int 4), (0, .ref h0)]) hx hb dX12_rounds_28 hl (k := 0) rfl (by decide) (by decide) rfl (fun ls hl => ?_)
  refine lv_goto (tgt := 7) hx hb dX12_rounds_31 (by decide) ?_
  refine lv_iload_n hx hb dX12_rounds_7 rfl (lv_at hl 0 rfl) ?_
  refine lv_bipush (v := 8) hx hb dX12_rounds_8 (by decide) ?_
  refine lv_icmp_ge (tgt := 34) hx hb dX12_rounds_10 (by decide) (fun c5 => absurd c5 (by decide)) (fun _ => ?_)
  refine lv_aload_n hx hb dX12_rounds_13 rfl (lv_at hl 1 rfl) ?_
  refine va_get (D := (dC, dI)) (ci := 11) (v := .ref h2) (C := RX12) (T := TX12) (N := 47) hx hb hts ii_X12_rounds_X12 hown hK hP 2 rfl rfl 32 (by decide) (hts _ mm_X12_rounds_2) (fun _ h9 => h9) rfl dX12_rounds_14 ?_
  refine lv_iload_n hx hb dX12_rounds_17 rfl (lv_at hl 0 rfl) ?_
  refine lv_aload_n hx hb dX12_rounds_18 rfl (lv_at hl 1 rfl) ?_
  refine va_get (D := (dC, dI)) (ci := 11) (v := .ref h4) (C := RX12) (T := TX12) (N := 47) hx hb hts ii_X12_rounds_X12 hown hK hP 2 rfl rfl 14 (by decide) (hts _ mm_X12_rounds_3) (fun _ h9 => h9) rfl dX12_rounds_19 ?_
  refine lv_bipush (v := 71) hx hb dX12_rounds_22 (by decide) ?_
  refine lv_iload_n hx hb dX12_rounds_24 rfl (lv_at hl 0 rfl) ?_
  refine lv_iadd hx hb dX12_rounds_25 ?_
  refine zz_top (v := 75) (by decide) ?_
  refine va_iald hx hb hK hP 3 0 rfl rfl (i := 75) (zz_in (by decide)) dX12_rounds_26 ?_
  refine zz_top (v := 0) (by rfl) ?_
  refine va_iast hx hb hK hP hD hS 1 2 rfl rfl (i := 4) (zz_in (by decide)) dX12_rounds_27 (fun H locs hP hD hS => ?_)
  have hP : va_P (dC, dI) vwCl [(h1, .inl (w0, 8, .inl (fun _ => 0))), (h2, .inl (w1, 8, .inl (upd (fun _ => 0) 4 0))), (h0, .inr (11, [.int 0, .ref h3, .int 0, .int 0, .int 0, .int 0, .int 0, .int 0, .int 0, .int 0, .int 0, .int 0, .long 0, .int 0, .ref h4, .ref h5, .ref h6, .ref h7, .ref h8, .ref h9, .ref h10, .ref h11, .ref h12, .int 0, .int 0, .int 0, .int 0, .int (-1), .int (-1), .long 0, .long 0, .ref h1, .ref h2, .int 0, .int (-1), .int 0, .ref h13, .int 0, .ref h14, .ref h15, .int 0, .int 0, .ref h16, .int 0, .int 0, .int 0, .int 0])), (h4, .inl (w2, 373, .inl (upd (upd (fun _ => 0) 60 2) 62 2)))] H := hP
  have hD : va_D A [(h1, .inl (w0, 8, .inl (fun _ => 0))), (h2, .inl (w1, 8, .inl (upd (fun _ => 0) 4 0))), (h0, .inr (11, [.int 0, .ref h3, .int 0, .int 0, .int 0, .int 0, .int 0, .int 0, .int 0, .int 0, .int 0, .int 0, .long 0, .int 0, .ref h4, .ref h5, .ref h6, .ref h7, .ref h8, .ref h9, .ref h10, .ref h11, .ref h12, .int 0, .int 0, .int 0, .int 0, .int (-1), .int (-1), .long 0, .long 0, .ref h1, .ref h2, .int 0, .int (-1), .int 0, .ref h13, .int 0, .ref h14, .ref h15, .int 0, .int 0, .ref h16, .int 0, .int 0, .int 0, .int 0])), (h4, .inl (w2, 373, .inl (upd (upd (fun _ => 0) 60 2) 62 2)))] := hD
  rw [zz_sw (f := (fun _ => 0)) (i := 4) (v := 0) rfl] at hP hD
  have hP : va_P (dC, dI) vwCl [(h1, .inl (w0, 8, .inl (fun _ => 0))), (h2, .inl (w1, 8, .inl (fun _ => 0))), (h0, .inr (11, [.int 0, .ref h3, .int 0, .int 0, .int 0, .int 0, .int 0, .int 0, .int 0, .int 0, .int 0, .int 0, .long 0, .int 0, .ref h4, .ref h5, .ref h6, .ref h7, .ref h8, .ref h9, .ref h10, .ref h11, .ref h12, .int 0, .int 0, .int 0, .int 0, .int (-1), .int (-1), .long 0, .long 0, .ref h1, .ref h2, .int 0, .int (-1), .int 0, .ref h13, .int 0, .ref h14, .ref h15, .int 0, .int 0, .ref h16, .int 0, .int 0, .int 0, .int 0])), (h4, .inl (w2, 373, .inl (upd (upd (fun _ => 0) 60 2) 62 2)))] H := hP
  have hD : va_D A [(h1, .inl (w0, 8, .inl (fun _ => 0))), (h2, .inl (w1, 8, .inl (fun _ => 0))), (h0, .inr (11, [.int 0, .ref h3, .int 0, .int 0, .int 0, .int 0, .int 0, .int 0, .int 0, .int 0, .int 0, .int 0, .long 0, .int 0, .ref h4, .ref h5, .ref h6, .ref h7, .ref h8, .ref h9, .ref h10, .ref h11, .ref h12, .int 0, .int 0, .int 0, .int 0, .int (-1), .int (-1), .long 0, .long 0, .ref h1, .ref h2, .int 0, .int (-1), .int 0, .ref h13, .int 0, .ref h14, .ref h15, .int 0, .int 0, .ref h16, .int 0, .int 0, .int 0, .int 0])), (h4, .inl (w2, 373, .inl (upd (upd (fun _ => 0) 60 2) 62 2)))] := hD
  refine lv_iinc (v := 5) (lv' := [(1, .int 5), (0, .ref h0)]) hx hb dX12_rounds_28 hl (k := 0) rfl (by decide) (by decide) rfl (fun ls hl => ?_)
  refine lv_goto (tgt := 7) hx hb dX12_rounds_31 (by decide) ?_
  refine lv_iload_n hx hb dX12_rounds_7 rfl (lv_at hl 0 rfl) ?_
  refine lv_bipush (v := 8) hx hb dX12_rounds_8 (by decide) ?_
  refine lv_icmp_ge (tgt := 34) hx hb dX12_rounds_10 (by decide) (fun c6 => absurd c6 (by decide)) (fun _ => ?_)
  refine lv_aload_n hx hb dX12_rounds_13 rfl (lv_at hl 1 rfl) ?_
  refine va_get (D := (dC, dI)) (ci := 11) (v := .ref h2) (C := RX12) (T := TX12) (N := 47) hx hb hts ii_X12_rounds_X12 hown hK hP 2 rfl rfl 32 (by decide) (hts _ mm_X12_rounds_2) (fun _ h9 => h9) rfl dX12_rounds_14 ?_
  refine lv_iload_n hx hb dX12_rounds_17 rfl (lv_at hl 0 rfl) ?_
  refine lv_aload_n hx hb dX12_rounds_18 rfl (lv_at hl 1 rfl) ?_
  refine va_get (D := (dC, dI)) (ci := 11) (v := .ref h4) (C := RX12) (T := TX12) (N := 47) hx hb hts ii_X12_rounds_X12 hown hK hP 2 rfl rfl 14 (by decide) (hts _ mm_X12_rounds_3) (fun _ h9 => h9) rfl dX12_rounds_19 ?_
  refine lv_bipush (v := 71) hx hb dX12_rounds_22 (by decide) ?_
  refine lv_iload_n hx hb dX12_rounds_24 rfl (lv_at hl 0 rfl) ?_
  refine lv_iadd hx hb dX12_rounds_25 ?_
  refine zz_top (v := 76) (by decide) ?_
  refine va_iald hx hb hK hP 3 0 rfl rfl (i := 76) (zz_in (by decide)) dX12_rounds_26 ?_
  refine zz_top (v := 0) (by rfl) ?_
  refine va_iast hx hb hK hP hD hS 1 2 rfl rfl (i := 5) (zz_in (by decide)) dX12_rounds_27 (fun H locs hP hD hS => ?_)
  have hP : va_P (dC, dI) vwCl [(h1, .inl (w0, 8, .inl (fun _ => 0))), (h2, .inl (w1, 8, .inl (upd (fun _ => 0) 5 0))), (h0, .inr (11, [.int 0, .ref h3, .int 0, .int 0, .int 0, .int 0, .int 0, .int 0, .int 0, .int 0, .int 0, .int 0, .long 0, .int 0, .ref h4, .ref h5, .ref h6, .ref h7, .ref h8, .ref h9, .ref h10, .ref h11, .ref h12, .int 0, .int 0, .int 0, .int 0, .int (-1), .int (-1), .long 0, .long 0, .ref h1, .ref h2, .int 0, .int (-1), .int 0, .ref h13, .int 0, .ref h14, .ref h15, .int 0, .int 0, .ref h16, .int 0, .int 0, .int 0, .int 0])), (h4, .inl (w2, 373, .inl (upd (upd (fun _ => 0) 60 2) 62 2)))] H := hP
  have hD : va_D A [(h1, .inl (w0, 8, .inl (fun _ => 0))), (h2, .inl (w1, 8, .inl (upd (fun _ => 0) 5 0))), (h0, .inr (11, [.int 0, .ref h3, .int 0, .int 0, .int 0, .int 0, .int 0, .int 0, .int 0, .int 0, .int 0, .int 0, .long 0, .int 0, .ref h4, .ref h5, .ref h6, .ref h7, .ref h8, .ref h9, .ref h10, .ref h11, .ref h12, .int 0, .int 0, .int 0, .int 0, .int (-1), .int (-1), .long 0, .long 0, .ref h1, .ref h2, .int 0, .int (-1), .int 0, .ref h13, .int 0, .ref h14, .ref h15, .int 0, .int 0, .ref h16, .int 0, .int 0, .int 0, .int 0])), (h4, .inl (w2, 373, .inl (upd (upd (fun _ => 0) 60 2) 62 2)))] := hD
  rw [zz_sw (f := (fun _ => 0)) (i := 5) (v := 0) rfl] at hP hD
  have hP : va_P (dC, dI) vwCl [(h1, .inl (w0, 8, .inl (fun _ => 0))), (h2, .inl (w1, 8, .inl (fun _ => 0))), (h0, .inr (11, [.int 0, .ref h3, .int 0, .int 0, .int 0, .int 0, .int 0, .int 0, .int 0, .int 0, .int 0, .int 0, .long 0, .int 0, .ref h4, .ref h5, .ref h6, .ref h7, .ref h8, .ref h9, .ref h10, .ref h11, .ref h12, .int 0, .int 0, .int 0, .int 0, .int (-1), .int (-1), .long 0, .long 0, .ref h1, .ref h2, .int 0, .int (-1), .int 0, .ref h13, .int 0, .ref h14, .ref h15, .int 0, .int 0, .ref h16, .int 0, .int 0, .int 0, .int 0])), (h4, .inl (w2, 373, .inl (upd (upd (fun _ => 0) 60 2) 62 2)))] H := hP
  have hD : va_D A [(h1, .inl (w0, 8, .inl (fun _ => 0))), (h2, .inl (w1, 8, .inl (fun _ => 0))), (h0, .inr (11, [.int 0, .ref h3, .int 0, .int 0, .int 0, .int 0, .int 0, .int 0, .int 0, .int 0, .int 0, .int 0, .long 0, .int 0, .ref h4, .ref h5, .ref h6, .ref h7, .ref h8, .ref h9, .ref h10, .ref h11, .ref h12, .int 0, .int 0, .int 0, .int 0, .int (-1), .int (-1), .long 0, .long 0, .ref h1, .ref h2, .int 0, .int (-1), .int 0, .ref h13, .int 0, .ref h14, .ref h15, .int 0, .int 0, .ref h16, .int 0, .int 0, .int 0, .int 0])), (h4, .inl (w2, 373, .inl (upd (upd (fun _ => 0) 60 2) 62 2)))] := hD
  refine lv_iinc (v := 6) (lv' := [(1, .int 6), (0, .ref h0)]) hx hb dX12_rounds_28 hl (k := 0) rfl (by decide) (by decide) rfl (fun ls hl => ?_)
  refine lv_goto (tgt := 7) hx hb dX12_rounds_31 (by decide) ?_
  refine lv_iload_n hx hb dX12_rounds_7 rfl (lv_at hl 0 rfl) ?_
  refine lv_bipush (v := 8) hx hb dX12_rounds_8 (by decide) ?_
  refine lv_icmp_ge (tgt := 34) hx hb dX12_rounds_10 (by decide) (fun c7 => absurd c7 (by decide)) (fun _ => ?_)
  refine lv_aload_n hx hb dX12_rounds_13 rfl (lv_at hl 1 rfl) ?_
  refine va_get (D := (dC, dI)) (ci := 11) (v := .ref h2) (C := RX12) (T := TX12) (N := 47) hx hb hts ii_X12_rounds_X12 hown hK hP 2 rfl rfl 32 (by decide) (hts _ mm_X12_rounds_2) (fun _ h9 => h9) rfl dX12_rounds_14 ?_
  refine lv_iload_n hx hb dX12_rounds_17 rfl (lv_at hl 0 rfl) ?_
  refine lv_aload_n hx hb dX12_rounds_18 rfl (lv_at hl 1 rfl) ?_
  refine va_get (D := (dC, dI)) (ci := 11) (v := .ref h4) (C := RX12) (T := TX12) (N := 47) hx hb hts ii_X12_rounds_X12 hown hK hP 2 rfl rfl 14 (by decide) (hts _ mm_X12_rounds_3) (fun _ h9 => h9) rfl dX12_rounds_19 ?_
  refine lv_bipush (v := 71) hx hb dX12_rounds_22 (by decide) ?_
  refine lv_iload_n hx hb dX12_rounds_24 rfl (lv_at hl 0 rfl) ?_
  refine lv_iadd hx hb dX12_rounds_25 ?_
  refine zz_top (v := 77) (by decide) ?_
  refine va_iald hx hb hK hP 3 0 rfl rfl (i := 77) (zz_in (by decide)) dX12_rounds_26 ?_
  refine zz_top (v := 0) (by rfl) ?_
  refine va_iast hx hb hK hP hD hS 1 2 rfl rfl (i := 6) (zz_in (by decide)) dX12_rounds_27 (fun H locs hP hD hS => ?_)
  have hP : va_P (dC, dI) vwCl [(h1, .inl (w0, 8, .inl (fun _ => 0))), (h2, .inl (w1, 8, .inl (upd (fun _ => 0) 6 0))), (h0, .inr (11, [.int 0, .ref h3, .int 0, .int 0, .int 0, .int 0, .int 0, .int 0, .int 0, .int 0, .int 0, .int 0, .long 0, .int 0, .ref h4, .ref h5, .ref h6, .ref h7, .ref h8, .ref h9, .ref h10, .ref h11, .ref h12, .int 0, .int 0, .int 0, .int 0, .int (-1), .int (-1), .long 0, .long 0, .ref h1, .ref h2, .int 0, .int (-1), .int 0, .ref h13, .int 0, .ref h14, .ref h15, .int 0, .int 0, .ref h16, .int 0, .int 0, .int 0, .int 0])), (h4, .inl (w2, 373, .inl (upd (upd (fun _ => 0) 60 2) 62 2)))] H := hP
  have hD : va_D A [(h1, .inl (w0, 8, .inl (fun _ => 0))), (h2, .inl (w1, 8, .inl (upd (fun _ => 0) 6 0))), (h0, .inr (11, [.int 0, .ref h3, .int 0, .int 0, .int 0, .int 0, .int 0, .int 0, .int 0, .int 0, .int 0, .int 0, .long 0, .int 0, .ref h4, .ref h5, .ref h6, .ref h7, .ref h8, .ref h9, .ref h10, .ref h11, .ref h12, .int 0, .int 0, .int 0, .int 0, .int (-1), .int (-1), .long 0, .long 0, .ref h1, .ref h2, .int 0, .int (-1), .int 0, .ref h13, .int 0, .ref h14, .ref h15, .int 0, .int 0, .ref h16, .int 0, .int 0, .int 0, .int 0])), (h4, .inl (w2, 373, .inl (upd (upd (fun _ => 0) 60 2) 62 2)))] := hD
  rw [zz_sw (f := (fun _ => 0)) (i := 6) (v := 0) rfl] at hP hD
  have hP : va_P (dC, dI) vwCl [(h1, .inl (w0, 8, .inl (fun _ => 0))), (h2, .inl (w1, 8, .inl (fun _ => 0))), (h0, .inr (11, [.int 0, .ref h3, .int 0, .int 0, .int 0, .int 0, .int 0, .int 0, .int 0, .int 0, .int 0, .int 0, .long 0, .int 0, .ref h4, .ref h5, .ref h6, .ref h7, .ref h8, .ref h9, .ref h10, .ref h11, .ref h12, .int 0, .int 0, .int 0, .int 0, .int (-1), .int (-1), .long 0, .long 0, .ref h1, .ref h2, .int 0, .int (-1), .int 0, .ref h13, .int 0, .ref h14, .ref h15, .int 0, .int 0, .ref h16, .int 0, .int 0, .int 0, .int 0])), (h4, .inl (w2, 373, .inl (upd (upd (fun _ => 0) 60 2) 62 2)))] H := hP
  have hD : va_D A [(h1, .inl (w0, 8, .inl (fun _ => 0))), (h2, .inl (w1, 8, .inl (fun _ => 0))), (h0, .inr (11, [.int 0, .ref h3, .int 0, .int 0, .int 0, .int 0, .int 0, .int 0, .int 0, .int 0, .int 0, .int 0, .long 0, .int 0, .ref h4, .ref h5, .ref h6, .ref h7, .ref h8, .ref h9, .ref h10, .ref h11, .ref h12, .int 0, .int 0, .int 0, .int 0, .int (-1), .int (-1), .long 0, .long 0, .ref h1, .ref h2, .int 0, .int (-1), .int 0, .ref h13, .int 0, .ref h14, .ref h15, .int 0, .int 0, .ref h16, .int 0, .int 0, .int 0, .int 0])), (h4, .inl (w2, 373, .inl (upd (upd (fun _ => 0) 60 2) 62 2)))] := hD
  refine lv_iinc (v := 7) (lv' := [(1, .int 7), (0, .ref h0)]) hx hb dX12_rounds_28 hl (k := 0) rfl (by decide) (by decide) rfl (fun ls hl => ?_)
  refine lv_goto (tgt := 7) hx hb dX12_rounds_31 (by decide) ?_
  refine lv_iload_n hx hb dX12_rounds_7 rfl (lv_at hl 0 rfl) ?_
  refine lv_bipush (v := 8) hx hb dX12_rounds_8 (by decide) ?_
  refine lv_icmp_ge (tgt := 34) hx hb dX12_rounds_10 (by decide) (fun c8 => absurd c8 (by decide)) (fun _ => ?_)
  refine lv_aload_n hx hb dX12_rounds_13 rfl (lv_at hl 1 rfl) ?_
  refine va_get (D := (dC, dI)) (ci := 11) (v := .ref h2) (C := RX12) (T := TX12) (N := 47) hx hb hts ii_X12_rounds_X12 hown hK hP 2 rfl rfl 32 (by decide) (hts _ mm_X12_rounds_2) (fun _ h9 => h9) rfl dX12_rounds_14 ?_
  refine lv_iload_n hx hb dX12_rounds_17 rfl (lv_at hl 0 rfl) ?_
  refine lv_aload_n hx hb dX12_rounds_18 rfl (lv_at hl 1 rfl) ?_
  refine va_get (D := (dC, dI)) (ci := 11) (v := .ref h4) (C := RX12) (T := TX12) (N := 47) hx hb hts ii_X12_rounds_X12 hown hK hP 2 rfl rfl 14 (by decide) (hts _ mm_X12_rounds_3) (fun _ h9 => h9) rfl dX12_rounds_19 ?_
  refine lv_bipush (v := 71) hx hb dX12_rounds_22 (by decide) ?_
  refine lv_iload_n hx hb dX12_rounds_24 rfl (lv_at hl 0 rfl) ?_
  refine lv_iadd hx hb dX12_rounds_25 ?_
  refine zz_top (v := 78) (by decide) ?_
  refine va_iald hx hb hK hP 3 0 rfl rfl (i := 78) (zz_in (by decide)) dX12_rounds_26 ?_
  refine zz_top (v := 0) (by rfl) ?_
  refine va_iast hx hb hK hP hD hS 1 2 rfl rfl (i := 7) (zz_in (by decide)) dX12_rounds_27 (fun H locs hP hD hS => ?_)
  have hP : va_P (dC, dI) vwCl [(h1, .inl (w0, 8, .inl (fun _ => 0))), (h2, .inl (w1, 8, .inl (upd (fun _ => 0) 7 0))), (h0, .inr (11, [.int 0, .ref h3, .int 0, .int 0, .int 0, .int 0, .int 0, .int 0, .int 0, .int 0, .int 0, .int 0, .long 0, .int 0, .ref h4, .ref h5, .ref h6, .ref h7, .ref h8, .ref h9, .ref h10, .ref h11, .ref h12, .int 0, .int 0, .int 0, .int 0, .int (-1), .int (-1), .long 0, .long 0, .ref h1, .ref h2, .int 0, .int (-1), .int 0, .ref h13, .int 0, .ref h14, .ref h15, .int 0, .int 0, .ref h16, .int 0, .int 0, .int 0, .int 0])), (h4, .inl (w2, 373, .inl (upd (upd (fun _ => 0) 60 2) 62 2)))] H := hP
  have hD : va_D A [(h1, .inl (w0, 8, .inl (fun _ => 0))), (h2, .inl (w1, 8, .inl (upd (fun _ => 0) 7 0))), (h0, .inr (11, [.int 0, .ref h3, .int 0, .int 0, .int 0, .int 0, .int 0, .int 0, .int 0, .int 0, .int 0, .int 0, .long 0, .int 0, .ref h4, .ref h5, .ref h6, .ref h7, .ref h8, .ref h9, .ref h10, .ref h11, .ref h12, .int 0, .int 0, .int 0, .int 0, .int (-1), .int (-1), .long 0, .long 0, .ref h1, .ref h2, .int 0, .int (-1), .int 0, .ref h13, .int 0, .ref h14, .ref h15, .int 0, .int 0, .ref h16, .int 0, .int 0, .int 0, .int 0])), (h4, .inl (w2, 373, .inl (upd (upd (fun _ => 0) 60 2) 62 2)))] := hD
  rw [zz_sw (f := (fun _ => 0)) (i := 7) (v := 0) rfl] at hP hD
  have hP : va_P (dC, dI) vwCl [(h1, .inl (w0, 8, .inl (fun _ => 0))), (h2, .inl (w1, 8, .inl (fun _ => 0))), (h0, .inr (11, [.int 0, .ref h3, .int 0, .int 0, .int 0, .int 0, .int 0, .int 0, .int 0, .int 0, .int 0, .int 0, .long 0, .int 0, .ref h4, .ref h5, .ref h6, .ref h7, .ref h8, .ref h9, .ref h10, .ref h11, .ref h12, .int 0, .int 0, .int 0, .int 0, .int (-1), .int (-1), .long 0, .long 0, .ref h1, .ref h2, .int 0, .int (-1), .int 0, .ref h13, .int 0, .ref h14, .ref h15, .int 0, .int 0, .ref h16, .int 0, .int 0, .int 0, .int 0])), (h4, .inl (w2, 373, .inl (upd (upd (fun _ => 0) 60 2) 62 2)))] H := hP
  have hD : va_D A [(h1, .inl (w0, 8, .inl (fun _ => 0))), (h2, .inl (w1, 8, .inl (fun _ => 0))), (h0, .inr (11, [.int 0, .ref h3, .int 0, .int 0, .int 0, .int 0, .int 0, .int 0, .int 0, .int 0, .int 0, .int 0, .long 0, .int 0, .ref h4, .ref h5, .ref h6, .ref h7, .ref h8, .ref h9, .ref h10, .ref h11, .ref h12, .int 0, .int 0, .int 0, .int 0, .int (-1), .int (-1), .long 0, .long 0, .ref h1, .ref h2, .int 0, .int (-1), .int 0, .ref h13, .int 0, .ref h14, .ref h15, .int 0, .int 0, .ref h16, .int 0, .int 0, .int 0, .int 0])), (h4, .inl (w2, 373, .inl (upd (upd (fun _ => 0) 60 2) 62 2)))] := hD
  refine lv_iinc (v := 8) (lv' := [(1, .int 8), (0, .ref h0)]) hx hb dX12_rounds_28 hl (k := 0) rfl (by decide) (by decide) rfl (fun ls hl => ?_)
  refine lv_goto (tgt := 7) hx hb dX12_rounds_31 (by decide) ?_
  refine lv_iload_n hx hb dX12_rounds_7 rfl (lv_at hl 0 rfl) ?_
  refine lv_bipush (v := 8) hx hb dX12_rounds_8 (by decide) ?_
  refine lv_icmp_ge (tgt := 34) hx hb dX12_rounds_10 (by decide) (fun _ => ?_) (fun c9 => absurd (by decide) c9)
  refine lv_iconst (v := 0) hx hb dX12_rounds_34 (by decide) ?_
  refine lv_istore_n (lv' := [(1, .int 0), (0, .ref h0)]) hx hb dX12_rounds_35 rfl hl (by decide) rfl (fun ls hl => ?_)
  refine lv_iconst (v := 1) hx hb dX12_rounds_36 (by decide) ?_
  refine lv_istore_n (lv' := [(2, .int 1), (1, .int 0), (0, .ref h0)]) hx hb dX12_rounds_37 rfl hl (by decide) rfl (fun ls hl => ?_)
  refine lv_iload_n hx hb dX12_rounds_38 rfl (lv_at hl 0 rfl) ?_
  refine lv_if_eq (tgt := 84) hx hb dX12_rounds_39 (by decide) (fun c10 => absurd c10 (by decide)) (fun _ => ?_)
  refine lv_iload_n hx hb dX12_rounds_42 rfl (lv_at hl 1 rfl) ?_
  refine lv_bipush (v := 30) hx hb dX12_rounds_43 (by decide) ?_
  refine lv_icmp_ge (tgt := 84) hx hb dX12_rounds_45 (by decide) (fun c11 => absurd c11 (by decide)) (fun _ => ?_)
  refine lv_iconst (v := 0) hx hb dX12_rounds_48 (by decide) ?_
  refine lv_istore_n (lv' := [(2, .int 0), (1, .int 0), (0, .ref h0)]) hx hb dX12_rounds_49 rfl hl (by decide) rfl (fun ls hl => ?_)
  refine lv_iconst (v := 0) hx hb dX12_rounds_50 (by decide) ?_
  refine lv_istore_n (lv' := [(3, .int 0), (2, .int 0), (1, .int 0), (0, .ref h0)]) hx hb dX12_rounds_51 rfl hl (by decide) rfl (fun ls hl => ?_)
  refine lv_iload_n hx hb dX12_rounds_52 rfl (lv_at hl 0 rfl) ?_
  refine lv_aload_n hx hb dX12_rounds_53 rfl (lv_at hl 3 rfl) ?_
  refine va_get (D := (dC, dI)) (ci := 11) (v := .ref h4) (C := RX12) (T := TX12) (N := 47) hx hb hts ii_X12_rounds_X12 hown hK hP 2 rfl rfl 14 (by decide) (hts _ mm_X12_rounds_3) (fun _ h9 => h9) rfl dX12_rounds_54 ?_
  refine lv_iconst (v := 1) hx hb dX12_rounds_57 (by decide) ?_
  refine va_iald hx hb hK hP 3 0 rfl rfl (i := 1) (zz_in (by decide)) dX12_rounds_58 ?_
  refine zz_top (v := 0) (by rfl) ?_
  refine lv_icmp_ge (tgt := 78) hx hb dX12_rounds_59 (by decide) (fun _ => ?_) (fun c12 => absurd (by decide) c12)
  refine lv_iinc (v := 1) (lv' := [(1, .int 1), (3, .int 0), (2, .int 0), (0, .ref h0)]) hx hb dX12_rounds_78 hl (k := 2) rfl (by decide) (by decide) rfl (fun ls hl => ?_)
  refine lv_goto (tgt := 38) hx hb dX12_rounds_81 (by decide) ?_
  refine lv_iload_n hx hb dX12_rounds_38 rfl (lv_at hl 2 rfl) ?_
  refine lv_if_eq (tgt := 84) hx hb dX12_rounds_39 (by decide) (fun _ => ?_) (fun c13 => absurd (by decide) c13)
  refine lv_aload_n hx hb dX12_rounds_84 rfl (lv_at hl 3 rfl) ?_
  refine lv_aload_n hx hb dX12_rounds_85 rfl (lv_at hl 3 rfl) ?_
  refine lv_iconst (v := 1) hx hb dX12_rounds_86 (by decide) ?_
  have hPc := hP.sub (ws' := [(h0, .inr (11, [.int 0, .ref h3, .int 0, .int 0, .int 0, .int 0, .int 0, .int 0, .int 0, .int 0, .int 0, .int 0, .long 0, .int 0, .ref h4, .ref h5, .ref h6, .ref h7, .ref h8, .ref h9, .ref h10, .ref h11, .ref h12, .int 0, .int 0, .int 0, .int 0, .int (-1), .int (-1), .long 0, .long 0, .ref h1, .ref h2, .int 0, .int (-1), .int 0, .ref h13, .int 0, .ref h14, .ref h15, .int 0, .int 0, .ref h16, .int 0, .int 0, .int 0, .int 0])), (h4, .inl (w2, 373, .inl (upd (upd (fun _ => 0) 60 2) 62 2)))]) [2, 3] rfl
  have hDc := hD.sub (ws' := [(h0, .inr (11, [.int 0, .ref h3, .int 0, .int 0, .int 0, .int 0, .int 0, .int 0, .int 0, .int 0, .int 0, .int 0, .long 0, .int 0, .ref h4, .ref h5, .ref h6, .ref h7, .ref h8, .ref h9, .ref h10, .ref h11, .ref h12, .int 0, .int 0, .int 0, .int 0, .int (-1), .int (-1), .long 0, .long 0, .ref h1, .ref h2, .int 0, .int (-1), .int 0, .ref h13, .int 0, .ref h14, .ref h15, .int 0, .int 0, .ref h16, .int 0, .int 0, .int 0, .int 0])), (h4, .inl (w2, 373, .inl (upd (upd (fun _ => 0) 60 2) 62 2)))]) [2, 3] (by decide) rfl
  have hKc := hK.sub (tys' := [(w2, .int)]) [0] rfl
  have hFc := va_free (wc := [(h0, .inr (11, [.int 0, .ref h3, .int 0, .int 0, .int 0, .int 0, .int 0, .int 0, .int 0, .int 0, .int 0, .int 0, .long 0, .int 0, .ref h4, .ref h5, .ref h6, .ref h7, .ref h8, .ref h9, .ref h10, .ref h11, .ref h12, .int 0, .int 0, .int 0, .int 0, .int (-1), .int (-1), .long 0, .long 0, .ref h1, .ref h2, .int 0, .int (-1), .int 0, .ref h13, .int 0, .ref h14, .ref h15, .int 0, .int 0, .ref h16, .int 0, .int 0, .int 0, .int 0])), (h4, .inl (w2, 373, .inl (upd (upd (fun _ => 0) 60 2) 62 2)))]) hD hS hA [2, 3] rfl
  refine va_calli (va_runV (As := [.int 1]) (rest := [.ref h0]) ⟨hx, hb, hml, hown, hts⟩ (k_X12_goodAll l dC dI ad h0 h3 h4 h5 h6 h7 h8 h9 h10 h11 h12 h1 h2 h13 h14 h15 h16 w2 H.size) (cwV 1 hts gX12_rounds_X12_goodAll rfl rfl rfl (by decide +kernel) ⟨Nat.le_of_ble_eq_true rfl, Nat.le_of_ble_eq_true rfl⟩) ⟨fun a U g mk q => ⟨q.1, CP.blind q.2⟩, va_recv hKc hPc (ci := 11) (q0 := 0) rfl rfl, fun U hU hW => ⟨rfl, CP.of hPc hKc hDc hE hS hFc hU hW⟩⟩ rfl rfl hl.1 rfl (lv_room (Nat.le_of_ble_eq_true rfl)) dX12_rounds_87 ⟨Nat.le_of_ble_eq_true rfl, Nat.le_of_ble_eq_true rfl⟩) hS (fun q _ h => hFc q h) hFc (fun r14 u t H1 locs ht hvm hw hB hz1 hk1 hS => ?_)
  obtain ⟨hP1, hK1, hD1⟩ := hB
  rw [ht] at hP1
  obtain ⟨hP, hD⟩ := va_join (wr := [(h1, .inl (w0, 8, .inl (fun _ => 0))), (h2, .inl (w1, 8, .inl (fun _ => 0)))]) (w1 := [(h0, .inr (11, [.int 0, .ref h3, .int 0, .int 0, .int 0, .int 0, .int 0, .int 0, .int 0, .int 0, .int 0, .int 0, .long 0, .int 0, .ref h4, .ref h5, .ref h6, .ref h7, .ref h8, .ref h9, .ref h10, .ref h11, .ref h12, .int 0, .int 0, .int 0, .int 0, .int (-1), .int (-1), .long 0, .long 0, .ref h1, .ref h2, .int 0, .int (-1), .int 0, .ref h13, .int 0, .ref h14, .ref h15, .int 0, .int 0, .ref h16, .int 0, .int 0, .int 0, .int 0])), (h4, .inl (w2, 373, .inl (upd (upd (fun _ => 0) 60 2) 62 2)))]) hP hD [2, 3] [0, 1] rfl rfl (by decide) (by decide) hk1 hFc hP1 hD1
  generalize H1 = H at hP hS ⊢
  clear hPc hDc hKc hFc hP1 hD1 hK1 hk1 hz1
  have hP : va_P (dC, dI) vwCl [(h1, .inl (w0, 8, .inl (fun _ => 0))), (h2, .inl (w1, 8, .inl (fun _ => 0))), (h0, .inr (11, [.int 0, .ref h3, .int 0, .int 0, .int 0, .int 0, .int 0, .int 0, .int 0, .int 0, .int 0, .int 0, .long 0, .int 0, .ref h4, .ref h5, .ref h6, .ref h7, .ref h8, .ref h9, .ref h10, .ref h11, .ref h12, .int 0, .int 0, .int 0, .int 0, .int (-1), .int (-1), .long 0, .long 0, .ref h1, .ref h2, .int 0, .int (-1), .int 0, .ref h13, .int 0, .ref h14, .ref h15, .int 0, .int 0, .ref h16, .int 0, .int 0, .int 0, .int 0])), (h4, .inl (w2, 373, .inl (upd (upd (fun _ => 0) 60 2) 62 2)))] H := hP
  have hD : va_D A [(h1, .inl (w0, 8, .inl (fun _ => 0))), (h2, .inl (w1, 8, .inl (fun _ => 0))), (h0, .inr (11, [.int 0, .ref h3, .int 0, .int 0, .int 0, .int 0, .int 0, .int 0, .int 0, .int 0, .int 0, .int 0, .long 0, .int 0, .ref h4, .ref h5, .ref h6, .ref h7, .ref h8, .ref h9, .ref h10, .ref h11, .ref h12, .int 0, .int 0, .int 0, .int 0, .int (-1), .int (-1), .long 0, .long 0, .ref h1, .ref h2, .int 0, .int (-1), .int 0, .ref h13, .int 0, .ref h14, .ref h15, .int 0, .int 0, .ref h16, .int 0, .int 0, .int 0, .int 0])), (h4, .inl (w2, 373, .inl (upd (upd (fun _ => 0) 60 2) 62 2)))] := hD
  refine zz_top (v := 0) hw ?_
  refine va_put (D := (dC, dI)) (ci := 11) (v := .int 0) (ty := .int) (C := RX12) (T := TX12) (N := 47) hx hb hts ii_X12_rounds_X12 tyX12 tyX12_ok nmX12 hown hK hP hD hS 2 rfl rfl 34 (by decide) (hts _ mm_X12_rounds_4) (fun _ h9 => h9) rfl (by decide +kernel) rfl rfl (Nat.le_of_ble_eq_true rfl) dX12_rounds_90 (fun H locs hP hD hS => ?_)
  have hP : va_P (dC, dI) vwCl [(h1, .inl (w0, 8, .inl (fun _ => 0))), (h2, .inl (w1, 8, .inl (fun _ => 0))), (h0, .inr (11, [.int 0, .ref h3, .int 0, .int 0, .int 0, .int 0, .int 0, .int 0, .int 0, .int 0, .int 0, .int 0, .long 0, .int 0, .ref h4, .ref h5, .ref h6, .ref h7, .ref h8, .ref h9, .ref h10, .ref h11, .ref h12, .int 0, .int 0, .int 0, .int 0, .int (-1), .int (-1), .long 0, .long 0, .ref h1, .ref h2, .int 0, .int 0, .int 0, .ref h13, .int 0, .ref h14, .ref h15, .int 0, .int 0, .ref h16, .int 0, .int 0, .int 0, .int 0])), (h4, .inl (w2, 373, .inl (upd (upd (fun _ => 0) 60 2) 62 2)))] H := hP
  have hD : va_D A [(h1, .inl (w0, 8, .inl (fun _ => 0))), (h2, .inl (w1, 8, .inl (fun _ => 0))), (h0, .inr (11, [.int 0, .ref h3, .int 0, .int 0, .int 0, .int 0, .int 0, .int 0, .int 0, .int 0, .int 0, .int 0, .long 0, .int 0, .ref h4, .ref h5, .ref h6, .ref h7, .ref h8, .ref h9, .ref h10, .ref h11, .ref h12, .int 0, .int 0, .int 0, .int 0, .int (-1), .int (-1), .long 0, .long 0, .ref h1, .ref h2, .int 0, .int 0, .int 0, .ref h13, .int 0, .ref h14, .ref h15, .int 0, .int 0, .ref h16, .int 0, .int 0, .int 0, .int 0])), (h4, .inl (w2, 373, .inl (upd (upd (fun _ => 0) 60 2) 62 2)))] := hD
  refine lv_aload_n hx hb dX12_rounds_93 rfl (lv_at hl 3 rfl) ?_
  refine lv_aload_n hx hb dX12_rounds_94 rfl (lv_at hl 3 rfl) ?_
  refine va_get (D := (dC, dI)) (ci := 11) (v := .ref h4) (C := RX12) (T := TX12) (N := 47) hx hb hts ii_X12_rounds_X12 hown hK hP 2 rfl rfl 14 (by decide) (hts _ mm_X12_rounds_3) (fun _ h9 => h9) rfl dX12_rounds_95 ?_
  refine lv_iconst (v := 1) hx hb dX12_rounds_98 (by decide) ?_
  refine va_iald hx hb hK hP 3 0 rfl rfl (i := 1) (zz_in (by decide)) dX12_rounds_99 ?_
  refine zz_top (v := 0) (by rfl) ?_
  refine va_put (D := (dC, dI)) (ci := 11) (v := .int 0) (ty := .int) (C := RX12) (T := TX12) (N := 47) hx hb hts ii_X12_rounds_X12 tyX12 tyX12_ok nmX12 hown hK hP hD hS 2 rfl rfl 33 (by decide) (hts _ mm_X12_rounds_5) (fun _ h9 => h9) rfl (by decide +kernel) rfl rfl (Nat.le_of_ble_eq_true rfl) dX12_rounds_100 (fun H locs hP hD hS => ?_)
  have hP : va_P (dC, dI) vwCl [(h1, .inl (w0, 8, .inl (fun _ => 0))), (h2, .inl (w1, 8, .inl (fun _ => 0))), (h0, .inr (11, [.int 0, .ref h3, .int 0, .int 0, .int 0, .int 0, .int 0, .int 0, .int 0, .int 0, .int 0, .int 0, .long 0, .int 0, .ref h4, .ref h5, .ref h6, .ref h7, .ref h8, .ref h9, .ref h10, .ref h11, .ref h12, .int 0, .int 0, .int 0, .int 0, .int (-1), .int (-1), .long 0, .long 0, .ref h1, .ref h2, .int 0, .int 0, .int 0, .ref h13, .int 0, .ref h14, .ref h15, .int 0, .int 0, .ref h16, .int 0, .int 0, .int 0, .int 0])), (h4, .inl (w2, 373, .inl (upd (upd (fun _ => 0) 60 2) 62 2)))] H := hP
  have hD : va_D A [(h1, .inl (w0, 8, .inl (fun _ => 0))), (h2, .inl (w1, 8, .inl (fun _ => 0))), (h0, .inr (11, [.int 0, .ref h3, .int 0, .int 0, .int 0, .int 0, .int 0, .int 0, .int 0, .int 0, .int 0, .int 0, .long 0, .int 0, .ref h4, .ref h5, .ref h6, .ref h7, .ref h8, .ref h9, .ref h10, .ref h11, .ref h12, .int 0, .int 0, .int 0, .int 0, .int (-1), .int (-1), .long 0, .long 0, .ref h1, .ref h2, .int 0, .int 0, .int 0, .ref h13, .int 0, .ref h14, .ref h15, .int 0, .int 0, .ref h16, .int 0, .int 0, .int 0, .int 0])), (h4, .inl (w2, 373, .inl (upd (upd (fun _ => 0) 60 2) 62 2)))] := hD
  refine lv_aload_n hx hb dX12_rounds_103 rfl (lv_at hl 3 rfl) ?_
  refine lv_iconst (v := 1) hx hb dX12_rounds_104 (by decide) ?_
  refine va_put (D := (dC, dI)) (ci := 11) (v := .int 1) (ty := .boolean) (C := RX12) (T := TX12) (N := 47) hx hb hts ii_X12_rounds_X12 tyX12 tyX12_ok nmX12 hown hK hP hD hS 2 rfl rfl 35 (by decide) (hts _ mm_X12_rounds_6) (fun _ h9 => h9) rfl (by decide +kernel) rfl rfl (Nat.le_of_ble_eq_true rfl) dX12_rounds_105 (fun H locs hP hD hS => ?_)
  have hP : va_P (dC, dI) vwCl [(h1, .inl (w0, 8, .inl (fun _ => 0))), (h2, .inl (w1, 8, .inl (fun _ => 0))), (h0, .inr (11, [.int 0, .ref h3, .int 0, .int 0, .int 0, .int 0, .int 0, .int 0, .int 0, .int 0, .int 0, .int 0, .long 0, .int 0, .ref h4, .ref h5, .ref h6, .ref h7, .ref h8, .ref h9, .ref h10, .ref h11, .ref h12, .int 0, .int 0, .int 0, .int 0, .int (-1), .int (-1), .long 0, .long 0, .ref h1, .ref h2, .int 0, .int 0, .int 1, .ref h13, .int 0, .ref h14, .ref h15, .int 0, .int 0, .ref h16, .int 0, .int 0, .int 0, .int 0])), (h4, .inl (w2, 373, .inl (upd (upd (fun _ => 0) 60 2) 62 2)))] H := hP
  have hD : va_D A [(h1, .inl (w0, 8, .inl (fun _ => 0))), (h2, .inl (w1, 8, .inl (fun _ => 0))), (h0, .inr (11, [.int 0, .ref h3, .int 0, .int 0, .int 0, .int 0, .int 0, .int 0, .int 0, .int 0, .int 0, .int 0, .long 0, .int 0, .ref h4, .ref h5, .ref h6, .ref h7, .ref h8, .ref h9, .ref h10, .ref h11, .ref h12, .int 0, .int 0, .int 0, .int 0, .int (-1), .int (-1), .long 0, .long 0, .ref h1, .ref h2, .int 0, .int 0, .int 1, .ref h13, .int 0, .ref h14, .ref h15, .int 0, .int 0, .ref h16, .int 0, .int 0, .int 0, .int 0])), (h4, .inl (w2, 373, .inl (upd (upd (fun _ => 0) 60 2) 62 2)))] := hD
  refine lv_iconst (v := 0) hx hb dX12_rounds_108 (by decide) ?_
  refine lv_istore_n (lv' := [(3, .int 0), (1, .int 1), (2, .int 0), (0, .ref h0)]) hx hb dX12_rounds_109 rfl hl (by decide) rfl (fun ls hl => ?_)
  refine lv_iload_n hx hb dX12_rounds_110 rfl (lv_at hl 0 rfl) ?_
  refine lv_bipush (v := 8) hx hb dX12_rounds_111 (by decide) ?_
  refine lv_icmp_ge (tgt := 152) hx hb dX12_rounds_113 (by decide) (fun c15 => absurd c15 (by decide)) (fun _ => ?_)
  refine lv_aload_n hx hb dX12_rounds_116 rfl (lv_at hl 3 rfl) ?_
  refine va_get (D := (dC, dI)) (ci := 11) (v := .ref h1) (C := RX12) (T := TX12) (N := 47) hx hb hts ii_X12_rounds_X12 hown hK hP 2 rfl rfl 31 (by decide) (hts _ mm_X12_rounds_7) (fun _ h9 => h9) rfl dX12_rounds_117 ?_
  refine lv_iload_n hx hb dX12_rounds_120 rfl (lv_at hl 0 rfl) ?_
  refine lv_aload_n hx hb dX12_rounds_121 rfl (lv_at hl 3 rfl) ?_
  refine va_get (D := (dC, dI)) (ci := 11) (v := .ref h4) (C := RX12) (T := TX12) (N := 47) hx hb hts ii_X12_rounds_X12 hown hK hP 2 rfl rfl 14 (by decide) (hts _ mm_X12_rounds_3) (fun _ h9 => h9) rfl dX12_rounds_122 ?_
  refine lv_bipush (v := 71) hx hb dX12_rounds_125 (by decide) ?_
  refine lv_iload_n hx hb dX12_rounds_127 rfl (lv_at hl 0 rfl) ?_
  refine lv_iadd hx hb dX12_rounds_128 ?_
  refine zz_top (v := 71) (by decide) ?_
  refine va_iald hx hb hK hP 3 0 rfl rfl (i := 71) (zz_in (by decide)) dX12_rounds_129 ?_
  refine zz_top (v := 0) (by rfl) ?_
  refine va_iast hx hb hK hP hD hS 0 1 rfl rfl (i := 0) (zz_in (by decide)) dX12_rounds_130 (fun H locs hP hD hS => ?_)
  have hP : va_P (dC, dI) vwCl [(h1, .inl (w0, 8, .inl (upd (fun _ => 0) 0 0))), (h2, .inl (w1, 8, .inl (fun _ => 0))), (h0, .inr (11, [.int 0, .ref h3, .int 0, .int 0, .int 0, .int 0, .int 0, .int 0, .int 0, .int 0, .int 0, .int 0, .long 0, .int 0, .ref h4, .ref h5, .ref h6, .ref h7, .ref h8, .ref h9, .ref h10, .ref h11, .ref h12, .int 0, .int 0, .int 0, .int 0, .int (-1), .int (-1), .long 0, .long 0, .ref h1, .ref h2, .int 0, .int 0, .int 1, .ref h13, .int 0, .ref h14, .ref h15, .int 0, .int 0, .ref h16, .int 0, .int 0, .int 0, .int 0])), (h4, .inl (w2, 373, .inl (upd (upd (fun _ => 0) 60 2) 62 2)))] H := hP
  have hD : va_D A [(h1, .inl (w0, 8, .inl (upd (fun _ => 0) 0 0))), (h2, .inl (w1, 8, .inl (fun _ => 0))), (h0, .inr (11, [.int 0, .ref h3, .int 0, .int 0, .int 0, .int 0, .int 0, .int 0, .int 0, .int 0, .int 0, .int 0, .long 0, .int 0, .ref h4, .ref h5, .ref h6, .ref h7, .ref h8, .ref h9, .ref h10, .ref h11, .ref h12, .int 0, .int 0, .int 0, .int 0, .int (-1), .int (-1), .long 0, .long 0, .ref h1, .ref h2, .int 0, .int 0, .int 1, .ref h13, .int 0, .ref h14, .ref h15, .int 0, .int 0, .ref h16, .int 0, .int 0, .int 0, .int 0])), (h4, .inl (w2, 373, .inl (upd (upd (fun _ => 0) 60 2) 62 2)))] := hD
  rw [zz_sw (f := (fun _ => 0)) (i := 0) (v := 0) rfl] at hP hD
  have hP : va_P (dC, dI) vwCl [(h1, .inl (w0, 8, .inl (fun _ => 0))), (h2, .inl (w1, 8, .inl (fun _ => 0))), (h0, .inr (11, [.int 0, .ref h3, .int 0, .int 0, .int 0, .int 0, .int 0, .int 0, .int 0, .int 0, .int 0, .int 0, .long 0, .int 0, .ref h4, .ref h5, .ref h6, .ref h7, .ref h8, .ref h9, .ref h10, .ref h11, .ref h12, .int 0, .int 0, .int 0, .int 0, .int (-1), .int (-1), .long 0, .long 0, .ref h1, .ref h2, .int 0, .int 0, .int 1, .ref h13, .int 0, .ref h14, .ref h15, .int 0, .int 0, .ref h16, .int 0, .int 0, .int 0, .int 0])), (h4, .inl (w2, 373, .inl (upd (upd (fun _ => 0) 60 2) 62 2)))] H := hP
  have hD : va_D A [(h1, .inl (w0, 8, .inl (fun _ => 0))), (h2, .inl (w1, 8, .inl (fun _ => 0))), (h0, .inr (11, [.int 0, .ref h3, .int 0, .int 0, .int 0, .int 0, .int 0, .int 0, .int 0, .int 0, .int 0, .int 0, .long 0, .int 0, .ref h4, .ref h5, .ref h6, .ref h7, .ref h8, .ref h9, .ref h10, .ref h11, .ref h12, .int 0, .int 0, .int 0, .int 0, .int (-1), .int (-1), .long 0, .long 0, .ref h1, .ref h2, .int 0, .int 0, .int 1, .ref h13, .int 0, .ref h14, .ref h15, .int 0, .int 0, .ref h16, .int 0, .int 0, .int 0, .int 0])), (h4, .inl (w2, 373, .inl (upd (upd (fun _ => 0) 60 2) 62 2)))] := hD
  refine lv_aload_n hx hb dX12_rounds_131 rfl (lv_at hl 3 rfl) ?_
  refine va_get (D := (dC, dI)) (ci := 11) (v := .ref h4) (C := RX12) (T := TX12) (N := 47) hx hb hts ii_X12_rounds_X12 hown hK hP 2 rfl rfl 14 (by decide) (hts _ mm_X12_rounds_3) (fun _ h9 => h9) rfl dX12_rounds_132 ?_
  refine lv_bipush (v := 71) hx hb dX12_rounds_135 (by decide) ?_
  refine lv_iload_n hx hb dX12_rounds_137 rfl (lv_at hl 0 rfl) ?_
  refine lv_iadd hx hb dX12_rounds_138 ?_
  refine zz_top (v := 71) (by decide) ?_
  refine lv_aload_n hx hb dX12_rounds_139 rfl (lv_at hl 3 rfl) ?_
  refine va_get (D := (dC, dI)) (ci := 11) (v := .ref h2) (C := RX12) (T := TX12) (N := 47) hx hb hts ii_X12_rounds_X12 hown hK hP 2 rfl rfl 32 (by decide) (hts _ mm_X12_rounds_2) (fun _ h9 => h9) rfl dX12_rounds_140 ?_
  refine lv_iload_n hx hb dX12_rounds_143 rfl (lv_at hl 0 rfl) ?_
  refine va_iald hx hb hK hP 1 2 rfl rfl (i := 0) (zz_in (by decide)) dX12_rounds_144 ?_
  refine zz_top (v := 0) (by rfl) ?_
  refine va_iast hx hb hK hP hD hS 3 0 rfl rfl (i := 71) (zz_in (by decide)) dX12_rounds_145 (fun H locs hP hD hS => ?_)
  have hP : va_P (dC, dI) vwCl [(h1, .inl (w0, 8, .inl (fun _ => 0))), (h2, .inl (w1, 8, .inl (fun _ => 0))), (h0, .inr (11, [.int 0, .ref h3, .int 0, .int 0, .int 0, .int 0, .int 0, .int 0, .int 0, .int 0, .int 0, .int 0, .long 0, .int 0, .ref h4, .ref h5, .ref h6, .ref h7, .ref h8, .ref h9, .ref h10, .ref h11, .ref h12, .int 0, .int 0, .int 0, .int 0, .int (-1), .int (-1), .long 0, .long 0, .ref h1, .ref h2, .int 0, .int 0, .int 1, .ref h13, .int 0, .ref h14, .ref h15, .int 0, .int 0, .ref h16, .int 0, .int 0, .int 0, .int 0])), (h4, .inl (w2, 373, .inl (upd (upd (upd (fun _ => 0) 60 2) 62 2) 71 0)))] H := hP
  have hD : va_D A [(h1, .inl (w0, 8, .inl (fun _ => 0))), (h2, .inl (w1, 8, .inl (fun _ => 0))), (h0, .inr (11, [.int 0, .ref h3, .int 0, .int 0, .int 0, .int 0, .int 0, .int 0, .int 0, .int 0, .int 0, .int 0, .long 0, .int 0, .ref h4, .ref h5, .ref h6, .ref h7, .ref h8, .ref h9, .ref h10, .ref h11, .ref h12, .int 0, .int 0, .int 0, .int 0, .int (-1), .int (-1), .long 0, .long 0, .ref h1, .ref h2, .int 0, .int 0, .int 1, .ref h13, .int 0, .ref h14, .ref h15, .int 0, .int 0, .ref h16, .int 0, .int 0, .int 0, .int 0])), (h4, .inl (w2, 373, .inl (upd (upd (upd (fun _ => 0) 60 2) 62 2) 71 0)))] := hD
  rw [zz_sw (f := (upd (upd (fun _ => 0) 60 2) 62 2)) (i := 71) (v := 0) rfl] at hP hD
  have hP : va_P (dC, dI) vwCl [(h1, .inl (w0, 8, .inl (fun _ => 0))), (h2, .inl (w1, 8, .inl (fun _ => 0))), (h0, .inr (11, [.int 0, .ref h3, .int 0, .int 0, .int 0, .int 0, .int 0, .int 0, .int 0, .int 0, .int 0, .int 0, .long 0, .int 0, .ref h4, .ref h5, .ref h6, .ref h7, .ref h8, .ref h9, .ref h10, .ref h11, .ref h12, .int 0, .int 0, .int 0, .int 0, .int (-1), .int (-1), .long 0, .long 0, .ref h1, .ref h2, .int 0, .int 0, .int 1, .ref h13, .int 0, .ref h14, .ref h15, .int 0, .int 0, .ref h16, .int 0, .int 0, .int 0, .int 0])), (h4, .inl (w2, 373, .inl (upd (upd (fun _ => 0) 60 2) 62 2)))] H := hP
  have hD : va_D A [(h1, .inl (w0, 8, .inl (fun _ => 0))), (h2, .inl (w1, 8, .inl (fun _ => 0))), (h0, .inr (11, [.int 0, .ref h3, .int 0, .int 0, .int 0, .int 0, .int 0, .int 0, .int 0, .int 0, .int 0, .int 0, .long 0, .int 0, .ref h4, .ref h5, .ref h6, .ref h7, .ref h8, .ref h9, .ref h10, .ref h11, .ref h12, .int 0, .int 0, .int 0, .int 0, .int (-1), .int (-1), .long 0, .long 0, .ref h1, .ref h2, .int 0, .int 0, .int 1, .ref h13, .int 0, .ref h14, .ref h15, .int 0, .int 0, .ref h16, .int 0, .int 0, .int 0, .int 0])), (h4, .inl (w2, 373, .inl (upd (upd (fun _ => 0) 60 2) 62 2)))] := hD
  refine lv_iinc (v := 1) (lv' := [(3, .int 1), (1, .int 1), (2, .int 0), (0, .ref h0)]) hx hb dX12_rounds_146 hl (k := 0) rfl (by decide) (by decide) rfl (fun ls hl => ?_)
  refine lv_goto (tgt := 110) hx hb dX12_rounds_149 (by decide) ?_
  refine lv_iload_n hx hb dX12_rounds_110 rfl (lv_at hl 0 rfl) ?_
  refine lv_bipush (v := 8) hx hb dX12_rounds_111 (by decide) ?_
  refine lv_icmp_ge (tgt := 152) hx hb dX12_rounds_113 (by decide) (fun c16 => absurd c16 (by decide)) (fun _ => ?_)
  refine lv_aload_n hx hb dX12_rounds_116 rfl (lv_at hl 3 rfl) ?_
  refine va_get (D := (dC, dI)) (ci := 11) (v := .ref h1) (C := RX12) (T := TX12) (N := 47) hx hb hts ii_X12_rounds_X12 hown hK hP 2 rfl rfl 31 (by decide) (hts _ mm_X12_rounds_7) (fun _ h9 => h9) rfl dX12_rounds_117 ?_
  refine lv_iload_n hx hb dX12_rounds_120 rfl (lv_at hl 0 rfl) ?_
  refine lv_aload_n hx hb dX12_rounds_121 rfl (lv_at hl 3 rfl) ?_
  refine va_get (D := (dC, dI)) (ci := 11) (v := .ref h4) (C := RX12) (T := TX12) (N := 47) hx hb hts ii_X12_rounds_X12 hown hK hP 2 rfl rfl 14 (by decide) (hts _ mm_X12_rounds_3) (fun _ h9 => h9) rfl dX12_rounds_122 ?_
  refine lv_bipush (v := 71) hx hb dX12_rounds_125 (by decide) ?_
  refine lv_iload_n hx hb dX12_rounds_127 rfl (lv_at hl 0 rfl) ?_
  refine lv_iadd hx hb dX12_rounds_128 ?_
  refine zz_top (v := 72) (by decide) ?_
  refine va_iald hx hb hK hP 3 0 rfl rfl (i := 72) (zz_in (by decide)) dX12_rounds_129 ?_
  refine zz_top (v := 0) (by rfl) ?_
  refine va_iast hx hb hK hP hD hS 0 1 rfl rfl (i := 1) (zz_in (by decide)) dX12_rounds_130 (fun H locs hP hD hS => ?_)
  have hP : va_P (dC, dI) vwCl [(h1, .inl (w0, 8, .inl (upd (fun _ => 0) 1 0))), (h2, .inl (w1, 8, .inl (fun _ => 0))), (h0, .inr (11, [.int 0, .ref h3, .int 0, .int 0, .int 0, .int 0, .int 0, .int 0, .int 0, .int 0, .int 0, .int 0, .long 0, .int 0, .ref h4, .ref h5, .ref h6, .ref h7, .ref h8, .ref h9, .ref h10, .ref h11, .ref h12, .int 0, .int 0, .int 0, .int 0, .int (-1), .int (-1), .long 0, .long 0, .ref h1, .ref h2, .int 0, .int 0, .int 1, .ref h13, .int 0, .ref h14, .ref h15, .int 0, .int 0, .ref h16, .int 0, .int 0, .int 0, .int 0])), (h4, .inl (w2, 373, .inl (upd (upd (fun _ => 0) 60 2) 62 2)))] H := hP
  have hD : va_D A [(h1, .inl (w0, 8, .inl (upd (fun _ => 0) 1 0))), (h2, .inl (w1, 8, .inl (fun _ => 0))), (h0, .inr (11, [.int 0, .ref h3, .int 0, .int 0, .int 0, .int 0, .int 0, .int 0, .int 0, .int 0, .int 0, .int 0, .long 0, .int 0, .ref h4, .ref h5, .ref h6, .ref h7, .ref h8, .ref h9, .ref h10, .ref h11, .ref h12, .int 0, .int 0, .int 0, .int 0, .int (-1), .int (-1), .long 0, .long 0, .ref h1, .ref h2, .int 0, .int 0, .int 1, .ref h13, .int 0, .ref h14, .ref h15, .int 0, .int 0, .ref h16, .int 0, .int 0, .int 0, .int 0])), (h4, .inl (w2, 373, .inl (upd (upd (fun _ => 0) 60 2) 62 2)))] := hD
  rw [zz_sw (f := (fun _ => 0)) (i := 1) (v := 0) rfl] at hP hD
  have hP : va_P (dC, dI) vwCl [(h1, .inl (w0, 8, .inl (fun _ => 0))), (h2, .inl (w1, 8, .inl (fun _ => 0))), (h0, .inr (11, [.int 0, .ref h3, .int 0, .int 0, .int 0, .int 0, .int 0, .int 0, .int 0, .int 0, .int 0, .int 0, .long 0, .int 0, .ref h4, .ref h5, .ref h6, .ref h7, .ref h8, .ref h9, .ref h10, .ref h11, .ref h12, .int 0, .int 0, .int 0, .int 0, .int (-1), .int (-1), .long 0, .long 0, .ref h1, .ref h2, .int 0, .int 0, .int 1, .ref h13, .int 0, .ref h14, .ref h15, .int 0, .int 0, .ref h16, .int 0, .int 0, .int 0, .int 0])), (h4, .inl (w2, 373, .inl (upd (upd (fun _ => 0) 60 2) 62 2)))] H := hP
  have hD : va_D A [(h1, .inl (w0, 8, .inl (fun _ => 0))), (h2, .inl (w1, 8, .inl (fun _ => 0))), (h0, .inr (11, [.int 0, .ref h3, .int 0, .int 0, .int 0, .int 0, .int 0, .int 0, .int 0, .int 0, .int 0, .int 0, .long 0, .int 0, .ref h4, .ref h5, .ref h6, .ref h7, .ref h8, .ref h9, .ref h10, .ref h11, .ref h12, .int 0, .int 0, .int 0, .int 0, .int (-1), .int (-1), .long 0, .long 0, .ref h1, .ref h2, .int 0, .int 0, .int 1, .ref h13, .int 0, .ref h14, .ref h15, .int 0, .int 0, .ref h16, .int 0, .int 0, .int 0, .int 0])), (h4, .inl (w2, 373, .inl (upd (upd (fun _ => 0) 60 2) 62 2)))] := hD
  refine lv_aload_n hx hb dX12_rounds_131 rfl (lv_at hl 3 rfl) ?_
  refine va_get (D := (dC, dI)) (ci := 11) (v := .ref h4) (C := RX12) (T := TX12) (N := 47) hx hb hts ii_X12_rounds_X12 hown hK hP 2 rfl rfl 14 (by decide) (hts _ mm_X12_rounds_3) (fun _ h9 => h9) rfl dX12_rounds_132 ?_
  refine lv_bipush (v := 71) hx hb dX12_rounds_135 (by decide) ?_
  refine lv_iload_n hx hb dX12_rounds_137 rfl (lv_at hl 0 rfl) ?_
  refine lv_iadd hx hb dX12_rounds_138 ?_
  refine zz_top (v := 72) (by decide) ?_
  refine lv_aload_n hx hb dX12_rounds_139 rfl (lv_at hl 3 rfl) ?_
  refine va_get (D := (dC, dI)) (ci := 11) (v := .ref h2) (C := RX12) (T := TX12) (N := 47) hx hb hts ii_X12_rounds_X12 hown hK hP 2 rfl rfl 32 (by decide) (hts _ mm_X12_rounds_2) (fun _ h9 => h9) rfl dX12_rounds_140 ?_
  refine lv_iload_n hx hb dX12_rounds_143 rfl (lv_at hl 0 rfl) ?_
  refine va_iald hx hb hK hP 1 2 rfl rfl (i := 1) (zz_in (by decide)) dX12_rounds_144 ?_
  refine zz_top (v := 0) (by rfl) ?_
  refine va_iast hx hb hK hP hD hS 3 0 rfl rfl (i := 72) (zz_in (by decide)) dX12_rounds_145 (fun H locs hP hD hS => ?_)
  have hP : va_P (dC, dI) vwCl [(h1, .inl (w0, 8, .inl (fun _ => 0))), (h2, .inl (w1, 8, .inl (fun _ => 0))), (h0, .inr (11, [.int 0, .ref h3, .int 0, .int 0, .int 0, .int 0, .int 0, .int 0, .int 0, .int 0, .int 0, .int 0, .long 0, .int 0, .ref h4, .ref h5, .ref h6, .ref h7, .ref h8, .ref h9, .ref h10, .ref h11, .ref h12, .int 0, .int 0, .int 0, .int 0, .int (-1), .int (-1), .long 0, .long 0, .ref h1, .ref h2, .int 0, .int 0, .int 1, .ref h13, .int 0, .ref h14, .ref h15, .int 0, .int 0, .ref h16, .int 0, .int 0, .int 0, .int 0])), (h4, .inl (w2, 373, .inl (upd (upd (upd (fun _ => 0) 60 2) 62 2) 72 0)))] H := hP
  have hD : va_D A [(h1, .inl (w0, 8, .inl (fun _ => 0))), (h2, .inl (w1, 8, .inl (fun _ => 0))), (h0, .inr (11, [.int 0, .ref h3, .int 0, .int 0, .int 0, .int 0, .int 0, .int 0, .int 0, .int 0, .int 0, .int 0, .long 0, .int 0, .ref h4, .ref h5, .ref h6, .ref h7, .ref h8, .ref h9, .ref h10, .ref h11, .ref h12, .int 0, .int 0, .int 0, .int 0, .int (-1), .int (-1), .long 0, .long 0, .ref h1, .ref h2, .int 0, .int 0, .int 1, .ref h13, .int 0, .ref h14, .ref h15, .int 0, .int 0, .ref h16, .int 0, .int 0, .int 0, .int 0])), (h4, .inl (w2, 373, .inl (upd (upd (upd (fun _ => 0) 60 2) 62 2) 72 0)))] := hD
  rw [zz_sw (f := (upd (upd (fun _ => 0) 60 2) 62 2)) (i := 72) (v := 0) rfl] at hP hD
  have hP : va_P (dC, dI) vwCl [(h1, .inl (w0, 8, .inl (fun _ => 0))), (h2, .inl (w1, 8, .inl (fun _ => 0))), (h0, .inr (11, [.int 0, .ref h3, .int 0, .int 0, .int 0, .int 0, .int 0, .int 0, .int 0, .int 0, .int 0, .int 0, .long 0, .int 0, .ref h4, .ref h5, .ref h6, .ref h7, .ref h8, .ref h9, .ref h10, .ref h11, .ref h12, .int 0, .int 0, .int 0, .int 0, .int (-1), .int (-1), .long 0, .long 0, .ref h1, .ref h2, .int 0, .int 0, .int 1, .ref h13, .int 0, .ref h14, .ref h15, .int 0, .int 0, .ref h16, .int 0, .int 0, .int 0, .int 0])), (h4, .inl (w2, 373, .inl (upd (upd (fun _ => 0) 60 2) 62 2)))] H := hP
  have hD : va_D A [(h1, .inl (w0, 8, .inl (fun _ => 0))), (h2, .inl (w1, 8, .inl (fun _ => 0))), (h0, .inr (11, [.int 0, .ref h3, .int 0, .int 0, .int 0, .int 0, .int 0, .int 0, .int 0, .int 0, .int 0, .int 0, .long 0, .int 0, .ref h4, .ref h5, .ref h6, .ref h7, .ref h8, .ref h9, .ref h10, .ref h11, .ref h12, .int 0, .int 0, .int 0, .int 0, .int (-1), .int (-1), .long 0, .long 0, .ref h1, .ref h2, .int 0, .int 0, .int 1, .ref h13, .int 0, .ref h14, .ref h15, .int 0, .int 0, .ref h16, .int 0, .int 0, .int 0, .int 0])), (h4, .inl (w2, 373, .inl (upd (upd (fun _ => 0) 60 2) 62 2)))] := hD
  refine lv_iinc (v := 2) (lv' := [(3, .int 2), (1, .int 1), (2, .int 0), (0, .ref h0)]) hx hb dX12_rounds_146 hl (k := 0) rfl (by decide) (by decide) rfl (fun ls hl => ?_)
  refine lv_goto (tgt := 110) hx hb dX12_rounds_149 (by decide) ?_
  refine lv_iload_n hx hb dX12_rounds_110 rfl (lv_at hl 0 rfl) ?_
  refine lv_bipush (v := 8) hx hb dX12_rounds_111 (by decide) ?_
  refine lv_icmp_ge (tgt := 152) hx hb dX12_rounds_113 (by decide) (fun c17 => absurd c17 (by decide)) (fun _ => ?_)
  refine lv_aload_n hx hb dX12_rounds_116 rfl (lv_at hl 3 rfl) ?_
  refine va_get (D := (dC, dI)) (ci := 11) (v := .ref h1) (C := RX12) (T := TX12) (N := 47) hx hb hts ii_X12_rounds_X12 hown hK hP 2 rfl rfl 31 (by decide) (hts _ mm_X12_rounds_7) (fun _ h9 => h9) rfl dX12_rounds_117 ?_
  refine lv_iload_n hx hb dX12_rounds_120 rfl (lv_at hl 0 rfl) ?_
  refine lv_aload_n hx hb dX12_rounds_121 rfl (lv_at hl 3 rfl) ?_
  refine va_get (D := (dC, dI)) (ci := 11) (v := .ref h4) (C := RX12) (T := TX12) (N := 47) hx hb hts ii_X12_rounds_X12 hown hK hP 2 rfl rfl 14 (by decide) (hts _ mm_X12_rounds_3) (fun _ h9 => h9) rfl dX12_rounds_122 ?_
  refine lv_bipush (v := 71) hx hb dX12_rounds_125 (by decide) ?_
  refine lv_iload_n hx hb dX12_rounds_127 rfl (lv_at hl 0 rfl) ?_
  refine lv_iadd hx hb dX12_rounds_128 ?_
  refine zz_top (v := 73) (by decide) ?_
  refine va_iald hx hb hK hP 3 0 rfl rfl (i := 73) (zz_in (by decide)) dX12_rounds_129 ?_
  refine zz_top (v := 0) (by rfl) ?_
  refine va_iast hx hb hK hP hD hS 0 1 rfl rfl (i := 2) (zz_in (by decide)) dX12_rounds_130 (fun H locs hP hD hS => ?_)
  have hP : va_P (dC, dI) vwCl [(h1, .inl (w0, 8, .inl (upd (fun _ => 0) 2 0))), (h2, .inl (w1, 8, .inl (fun _ => 0))), (h0, .inr (11, [.int 0, .ref h3, .int 0, .int 0, .int 0, .int 0, .int 0, .int 0, .int 0, .int 0, .int 0, .int 0, .long 0, .int 0, .ref h4, .ref h5, .ref h6, .ref h7, .ref h8, .ref h9, .ref h10, .ref h11, .ref h12, .int 0, .int 0, .int 0, .int 0, .int (-1), .int (-1), .long 0, .long 0, .ref h1, .ref h2, .int 0, .int 0, .int 1, .ref h13, .int 0, .ref h14, .ref h15, .int 0, .int 0, .ref h16, .int 0, .int 0, .int 0, .int 0])), (h4, .inl (w2, 373, .inl (upd (upd (fun _ => 0) 60 2) 62 2)))] H := hP
  have hD : va_D A [(h1, .inl (w0, 8, .inl (upd (fun _ => 0) 2 0))), (h2, .inl (w1, 8, .inl (fun _ => 0))), (h0, .inr (11, [.int 0, .ref h3, .int 0, .int 0, .int 0, .int 0, .int 0, .int 0, .int 0, .int 0, .int 0, .int 0, .long 0, .int 0, .ref h4, .ref h5, .ref h6, .ref h7, .ref h8, .ref h9, .ref h10, .ref h11, .ref h12, .int 0, .int 0, .int 0, .int 0, .int (-1), .int (-1), .long 0, .long 0, .ref h1, .ref h2, .int 0, .int 0, .int 1, .ref h13, .int 0, .ref h14, .ref h15, .int 0, .int 0, .ref h16, .int 0, .int 0, .int 0, .int 0])), (h4, .inl (w2, 373, .inl (upd (upd (fun _ => 0) 60 2) 62 2)))] := hD
  rw [zz_sw (f := (fun _ => 0)) (i := 2) (v := 0) rfl] at hP hD
  have hP : va_P (dC, dI) vwCl [(h1, .inl (w0, 8, .inl (fun _ => 0))), (h2, .inl (w1, 8, .inl (fun _ => 0))), (h0, .inr (11, [.int 0, .ref h3, .int 0, .int 0, .int 0, .int 0, .int 0, .int 0, .int 0, .int 0, .int 0, .int 0, .long 0, .int 0, .ref h4, .ref h5, .ref h6, .ref h7, .ref h8, .ref h9, .ref h10, .ref h11, .ref h12, .int 0, .int 0, .int 0, .int 0, .int (-1), .int (-1), .long 0, .long 0, .ref h1, .ref h2, .int 0, .int 0, .int 1, .ref h13, .int 0, .ref h14, .ref h15, .int 0, .int 0, .ref h16, .int 0, .int 0, .int 0, .int 0])), (h4, .inl (w2, 373, .inl (upd (upd (fun _ => 0) 60 2) 62 2)))] H := hP
  have hD : va_D A [(h1, .inl (w0, 8, .inl (fun _ => 0))), (h2, .inl (w1, 8, .inl (fun _ => 0))), (h0, .inr (11, [.int 0, .ref h3, .int 0, .int 0, .int 0, .int 0, .int 0, .int 0, .int 0, .int 0, .int 0, .int 0, .long 0, .int 0, .ref h4, .ref h5, .ref h6, .ref h7, .ref h8, .ref h9, .ref h10, .ref h11, .ref h12, .int 0, .int 0, .int 0, .int 0, .int (-1), .int (-1), .long 0, .long 0, .ref h1, .ref h2, .int 0, .int 0, .int 1, .ref h13, .int 0, .ref h14, .ref h15, .int 0, .int 0, .ref h16, .int 0, .int 0, .int 0, .int 0])), (h4, .inl (w2, 373, .inl (upd (upd (fun _ => 0) 60 2) 62 2)))] := hD
  refine lv_aload_n hx hb dX12_rounds_131 rfl (lv_at hl 3 rfl) ?_
  refine va_get (D := (dC, dI)) (ci := 11) (v := .ref h4) (C := RX12) (T := TX12) (N := 47) hx hb hts ii_X12_rounds_X12 hown hK hP 2 rfl rfl 14 (by decide) (hts _ mm_X12_rounds_3) (fun _ h9 => h9) rfl dX12_rounds_132 ?_
  refine lv_bipush (v := 71) hx hb dX12_rounds_135 (by decide) ?_
  refine lv_iload_n hx hb dX12_rounds_137 rfl (lv_at hl 0 rfl) ?_
  refine lv_iadd hx hb dX12_rounds_138 ?_
  refine zz_top (v := 73) (by decide) ?_
  refine lv_aload_n hx hb dX12_rounds_139 rfl (lv_at hl 3 rfl) ?_
  refine va_get (D := (dC, dI)) (ci := 11) (v := .ref h2) (C := RX12) (T := TX12) (N := 47) hx hb hts ii_X12_rounds_X12 hown hK hP 2 rfl rfl 32 (by decide) (hts _ mm_X12_rounds_2) (fun _ h9 => h9) rfl dX12_rounds_140 ?_
  refine lv_iload_n hx hb dX12_rounds_143 rfl (lv_at hl 0 rfl) ?_
  refine va_iald hx hb hK hP 1 2 rfl rfl (i := 2) (zz_in (by decide)) dX12_rounds_144 ?_
  refine zz_top (v := 0) (by rfl) ?_
  refine va_iast hx hb hK hP hD hS 3 0 rfl rfl (i := 73) (zz_in (by decide)) dX12_rounds_145 (fun H locs hP hD hS => ?_)
  have hP : va_P (dC, dI) vwCl [(h1, .inl (w0, 8, .inl (fun _ => 0))), (h2, .inl (w1, 8, .inl (fun _ => 0))), (h0, .inr (11, [.int 0, .ref h3, .int 0, .int 0, .int 0, .int 0, .int 0, .int 0, .int 0, .int 0, .int 0, .int 0, .long 0, .int 0, .ref h4, .ref h5, .ref h6, .ref h7, .ref h8, .ref h9, .ref h10, .ref h11, .ref h12, .int 0, .int 0, .int 0, .int 0, .int (-1), .int (-1), .long 0, .long 0, .ref h1, .ref h2, .int 0, .int 0, .int 1, .ref h13, .int 0, .ref h14, .ref h15, .int 0, .int 0, .ref h16, .int 0, .int 0, .int 0, .int 0])), (h4, .inl (w2, 373, .inl (upd (upd (upd (fun _ => 0) 60 2) 62 2) 73 0)))] H := hP
  have hD : va_D A [(h1, .inl (w0, 8, .inl (fun _ => 0))), (h2, .inl (w1, 8, .inl (fun _ => 0))), (h0, .inr (11, [.int 0, .ref h3, .int 0, .int 0, .int 0, .int 0, .int 0, .int 0, .int 0, .int 0, .int 0, .int 0, .long 0, .int 0, .ref h4, .ref h5, .ref h6, .ref h7, .ref h8, .ref h9, .ref h10, .ref h11, .ref h12, .int 0, .int 0, .int 0, .int 0, .int (-1), .int (-1), .long 0, .long 0, .ref h1, .ref h2, .int 0, .int 0, .int 1, .ref h13, .int 0, .ref h14, .ref h15, .int 0, .int 0, .ref h16, .int 0, .int 0, .int 0, .int 0])), (h4, .inl (w2, 373, .inl (upd (upd (upd (fun _ => 0) 60 2) 62 2) 73 0)))] := hD
  rw [zz_sw (f := (upd (upd (fun _ => 0) 60 2) 62 2)) (i := 73) (v := 0) rfl] at hP hD
  have hP : va_P (dC, dI) vwCl [(h1, .inl (w0, 8, .inl (fun _ => 0))), (h2, .inl (w1, 8, .inl (fun _ => 0))), (h0, .inr (11, [.int 0, .ref h3, .int 0, .int 0, .int 0, .int 0, .int 0, .int 0, .int 0, .int 0, .int 0, .int 0, .long 0, .int 0, .ref h4, .ref h5, .ref h6, .ref h7, .ref h8, .ref h9, .ref h10, .ref h11, .ref h12, .int 0, .int 0, .int 0, .int 0, .int (-1), .int (-1), .long 0, .long 0, .ref h1, .ref h2, .int 0, .int 0, .int 1, .ref h13, .int 0, .ref h14, .ref h15, .int 0, .int 0, .ref h16, .int 0, .int 0, .int 0, .int 0])), (h4, .inl (w2, 373, .inl (upd (upd (fun _ => 0) 60 2) 62 2)))] H := hP
  have hD : va_D A [(h1, .inl (w0, 8, .inl (fun _ => 0))), (h2, .inl (w1, 8, .inl (fun _ => 0))), (h0, .inr (11, [.int 0, .ref h3, .int 0, .int 0, .int 0, .int 0, .int 0, .int 0, .int 0, .int 0, .int 0, .int 0, .long 0, .int 0, .ref h4, .ref h5, .ref h6, .ref h7, .ref h8, .ref h9, .ref h10, .ref h11, .ref h12, .int 0, .int 0, .int 0, .int 0, .int (-1), .int (-1), .long 0, .long 0, .ref h1, .ref h2, .int 0, .int 0, .int 1, .ref h13, .int 0, .ref h14, .ref h15, .int 0, .int 0, .ref h16, .int 0, .int 0, .int 0, .int 0])), (h4, .inl (w2, 373, .inl (upd (upd (fun _ => 0) 60 2) 62 2)))] := hD
  refine lv_iinc (v := 3) (lv' := [(3, .int 3), (1, .int 1), (2, .int 0), (0, .ref h0)]) hx hb dX12_rounds_146 hl (k := 0) rfl (by decide) (by decide) rfl (fun ls hl => ?_)
  refine lv_goto (tgt := 110) hx hb dX12_rounds_149 (by decide) ?_
  refine lv_iload_n hx hb dX12_rounds_110 rfl (lv_at hl 0 rfl) ?_
  refine lv_bipush (v := 8) hx hb dX12_rounds_111 (by decide) ?_
  refine lv_icmp_ge (tgt := 152) hx hb dX12_rounds_113 (by decide) (fun c18 => absurd c18 (by decide)) (fun _ => ?_)
  refine lv_aload_n hx hb dX12_rounds_116 rfl (lv_at hl 3 rfl) ?_
  refine va_get (D := (dC, dI)) (ci := 11) (v := .ref h1) (C := RX12) (T := TX12) (N := 47) hx hb hts ii_X12_rounds_X12 hown hK hP 2 rfl rfl 31 (by decide) (hts _ mm_X12_rounds_7) (fun _ h9 => h9) rfl dX12_rounds_117 ?_
  refine lv_iload_n hx hb dX12_rounds_120 rfl (lv_at hl 0 rfl) ?_
  refine lv_aload_n hx hb dX12_rounds_121 rfl (lv_at hl 3 rfl) ?_
  refine va_get (D := (dC, dI)) (ci := 11) (v := .ref h4) (C := RX12) (T := TX12) (N := 47) hx hb hts ii_X12_rounds_X12 hown hK hP 2 rfl rfl 14 (by decide) (hts _ mm_X12_rounds_3) (fun _ h9 => h9) rfl dX12_rounds_122 ?_
  refine lv_bipush (v := 71) hx hb dX12_rounds_125 (by decide) ?_
  refine lv_iload_n hx hb dX12_rounds_127 rfl (lv_at hl 0 rfl) ?_
  refine lv_iadd hx hb dX12_rounds_128 ?_
  refine zz_top (v := 74) (by decide) ?_
  refine va_iald hx hb hK hP 3 0 rfl rfl (i := 74) (zz_in (by decide)) dX12_rounds_129 ?_
  refine zz_top (v := 0) (by rfl) ?_
  refine va_iast hx hb hK hP hD hS 0 1 rfl rfl (i := 3) (zz_in (by decide)) dX12_rounds_130 (fun H locs hP hD hS => ?_)
  have hP : va_P (dC, dI) vwCl [(h1, .inl (w0, 8, .inl (upd (fun _ => 0) 3 0))), (h2, .inl (w1, 8, .inl (fun _ => 0))), (h0, .inr (11, [.int 0, .ref h3, .int 0, .int 0, .int 0, .int 0, .int 0, .int 0, .int 0, .int 0, .int 0, .int 0, .long 0, .int 0, .ref h4, .ref h5, .ref h6, .ref h7, .ref h8, .ref h9, .ref h10, .ref h11, .ref h12, .int 0, .int 0, .int 0, .int 0, .int (-1), .int (-1), .long 0, .long 0, .ref h1, .ref h2, .int 0, .int 0, .int 1, .ref h13, .int 0, .ref h14, .ref h15, .int 0, .int 0, .ref h16, .int 0, .int 0, .int 0, .int 0])), (h4, .inl (w2, 373, .inl (upd (upd (fun _ => 0) 60 2) 62 2)))] H := hP
  have hD : va_D A [(h1, .inl (w0, 8, .inl (upd (fun _ => 0) 3 0))), (h2, .inl (w1, 8, .inl (fun _ => 0))), (h0, .inr (11, [.int 0, .ref h3, .int 0, .int 0, .int 0, .int 0, .int 0, .int 0, .int 0, .int 0, .int 0, .int 0, .long 0, .int 0, .ref h4, .ref h5, .ref h6, .ref h7, .ref h8, .ref h9, .ref h10, .ref h11, .ref h12, .int 0, .int 0, .int 0, .int 0, .int (-1), .int (-1), .long 0, .long 0, .ref h1, .ref h2, .int 0, .int 0, .int 1, .ref h13, .int 0, .ref h14, .ref h15, .int 0, .int 0, .ref h16, .int 0, .int 0, .int 0, .int 0])), (h4, .inl (w2, 373, .inl (upd (upd (fun _ => 0) 60 2) 62 2)))] := hD
  rw [zz_sw (f := (fun _ => 0)) (i := 3) (v := 0) rfl] at hP hD
  have hP : va_P (dC, dI) vwCl [(h1, .inl (w0, 8, .inl (fun _ => 0))), (h2, .inl (w1, 8, .inl (fun _ => 0))), (h0, .inr (11, [.int 0, .ref h3, .int 0, .int 0, .int 0, .int 0, .int 0, .int 0, .int 0, .int 0, .int 0, .int 0, .long 0, .int 0, .ref h4, .ref h5, .ref h6, .ref h7, .ref h8, .ref h9, .ref h10, .ref h11, .ref h12, .int 0, .int 0, .int 0, .int 0, .int (-1), .int (-1), .long 0, .long 0, .ref h1, .ref h2, .int 0, .int 0, .int 1, .ref h13, .int 0, .ref h14, .ref h15, .int 0, .int 0, .ref h16, .int 0, .int 0, .int 0, .int 0])), (h4, .inl (w2, 373, .inl (upd (upd (fun _ => 0) 60 2) 62 2)))] H := hP
  have hD : va_D A [(h1, .inl (w0, 8, .inl (fun _ => 0))), (h2, .inl (w1, 8, .inl (fun _ => 0))), (h0, .inr (11, [.int 0, .ref h3, .int 0, .int 0, .int 0, .int 0, .int 0, .int 0, .int 0, .int 0, .int 0, .int 0, .long 0, .int 0, .ref h4, .ref h5, .ref h6, .ref h7, .ref h8, .ref h9, .ref h10, .ref h11, .ref h12, .int 0, .int 0, .int 0, .int 0, .int (-1), .int (-1), .long 0, .long 0, .ref h1, .ref h2, .int 0, .int 0, .int 1, .ref h13, .int 0, .ref h14, .ref h15, .int 0, .int 0, .ref h16, .int 0, .int 0, .int 0, .int 0])), (h4, .inl (w2, 373, .inl (upd (upd (fun _ => 0) 60 2) 62 2)))] := hD
  refine lv_aload_n hx hb dX12_rounds_131 rfl (lv_at hl 3 rfl) ?_
  refine va_get (D := (dC, dI)) (ci := 11) (v := .ref h4) (C := RX12) (T := TX12) (N := 47) hx hb hts ii_X12_rounds_X12 hown hK hP 2 rfl rfl 14 (by decide) (hts _ mm_X12_rounds_3) (fun _ h9 => h9) rfl dX12_rounds_132 ?_
  refine lv_bipush (v := 71) hx hb dX12_rounds_135 (by decide) ?_
  refine lv_iload_n hx hb dX12_rounds_137 rfl (lv_at hl 0 rfl) ?_
  refine lv_iadd hx hb dX12_rounds_138 ?_
  refine zz_top (v := 74) (by decide) ?_
  refine lv_aload_n hx hb dX12_rounds_139 rfl (lv_at hl 3 rfl) ?_
  refine va_get (D := (dC, dI)) (ci := 11) (v := .ref h2) (C := RX12) (T := TX12) (N := 47) hx hb hts ii_X12_rounds_X12 hown hK hP 2 rfl rfl 32 (by decide) (hts _ mm_X12_rounds_2) (fun _ h9 => h9) rfl dX12_rounds_140 ?_
  refine lv_iload_n hx hb dX12_rounds_143 rfl (lv_at hl 0 rfl) ?_
  refine va_iald hx hb hK hP 1 2 rfl rfl (i := 3) (zz_in (by decide)) dX12_rounds_144 ?_
  refine zz_top (v := 0) (by rfl) ?_
  refine va_iast hx hb hK hP hD hS 3 0 rfl rfl (i := 74) (zz_in (by decide)) dX12_rounds_145 (fun H locs hP hD hS => ?_)
  have hP : va_P (dC, dI) vwCl [(h1, .inl (w0, 8, .inl (fun _ => 0))), (h2, .inl (w1, 8, .inl (fun _ => 0))), (h0, .inr (11, [.int 0, .ref h3, .int 0, .int 0, .int 0, .int 0, .int 0, .int 0, .int 0, .int 0, .int 0, .int 0, .long 0, .int 0, .ref h4, .ref h5, .ref h6, .ref h7, .ref h8, .ref h9, .ref h10, .ref h11, .ref h12, .int 0, .int 0, .int 0, .int 0, .int (-1), .int (-1), .long 0, .long 0, .ref h1, .ref h2, .int 0, .int 0, .int 1, .ref h13, .int 0, .ref h14, .ref h15, .int 0, .int 0, .ref h16, .int 0, .int 0, .int 0, .int 0])), (h4, .inl (w2, 373, .inl (upd (upd (upd (fun _ => 0) 60 2) 62 2) 74 0)))] H := hP
  have hD : va_D A [(h1, .inl (w0, 8, .inl (fun _ => 0))), (h2, .inl (w1, 8, .inl (fun _ => 0))), (h0, .inr (11, [.int 0, .ref h3, .int 0, .int 0, .int 0, .int 0, .int 0, .int 0, .int 0, .int 0, .int 0, .int 0, .long 0, .int 0, .ref h4, .ref h5, .ref h6, .ref h7, .ref h8, .ref h9, .ref h10, .ref h11, .ref h12, .int 0, .int 0, .int 0, .int 0, .int (-1), .int (-1), .long 0, .long 0, .ref h1, .ref h2, .int 0, .int 0, .int 1, .ref h13, .int 0, .ref h14, .ref h15, .int 0, .int 0, .ref h16, .int 0, .int 0, .int 0, .int 0])), (h4, .inl (w2, 373, .inl (upd (upd (upd (fun _ => 0) 60 2) 62 2) 74 0)))] := hD
  rw [zz_sw (f := (upd (upd (fun _ => 0) 60 2) 62 2)) (i := 74) (v := 0) rfl] at hP hD
  have hP : va_P (dC, dI) vwCl [(h1, .inl (w0, 8, .inl (fun _ => 0))), (h2, .inl (w1, 8, .inl (fun _ => 0))), (h0, .inr (11, [.int 0, .ref h3, .int 0, .int 0, .int 0, .int 0, .int 0, .int 0, .int 0, .int 0, .int 0, .int 0, .long 0, .int 0, .ref h4, .ref h5, .ref h6, .ref h7, .ref h8, .ref h9, .ref h10, .ref h11, .ref h12, .int 0, .int 0, .int 0, .int 0, .int (-1), .int (-1), .long 0, .long 0, .ref h1, .ref h2, .int 0, .int 0, .int 1, .ref h13, .int 0, .ref h14, .ref h15, .int 0, .int 0, .ref h16, .int 0, .int 0, .int 0, .int 0])), (h4, .inl (w2, 373, .inl (upd (upd (fun _ => 0) 60 2) 62 2)))] H := hP
  have hD : va_D A [(h1, .inl (w0, 8, .inl (fun _ => 0))), (h2, .inl (w1, 8, .inl (fun _ => 0))), (h0, .inr (11, [.int 0, .ref h3, .int 0, .int 0, .int 0, .int 0, .int 0, .int 0, .int 0, .int 0, .int 0, .int 0, .long 0, .int 0, .ref h4, .ref h5, .ref h6, .ref h7, .ref h8, .ref h9, .ref h10, .ref h11, .ref h12, .int 0, .int 0, .int 0, .int 0, .int (-1), .int (-1), .long 0, .long 0, .ref h1, .ref h2, .int 0, .int 0, .int 1, .ref h13, .int 0, .ref h14, .ref h15, .int 0, .int 0, .ref h16, .int 0, .int 0, .int 0, .int 0])), (h4, .inl (w2, 373, .inl (upd (upd (fun _ => 0) 60 2) 62 2)))] := hD
  refine lv_iinc (v := 4) (lv' := [(3, .int 4), (1, .int 1), (2, .int 0), (0, .ref h0)]) hx hb dX12_rounds_146 hl (k := 0) rfl (by decide) (by decide) rfl (fun ls hl => ?_)
  refine lv_goto (tgt := 110) hx hb dX12_rounds_149 (by decide) ?_
  refine lv_iload_n hx hb dX12_rounds_110 rfl (lv_at hl 0 rfl) ?_
  refine lv_bipush (v := 8) hx hb dX12_rounds_111 (by decide) ?_
  refine lv_icmp_ge (tgt := 152) hx hb dX12_rounds_113 (by decide) (fun c19 => absurd c19 (by decide)) (fun _ => ?_)
  refine lv_aload_n hx hb dX12_rounds_116 rfl (lv_at hl 3 rfl) ?_
  refine va_get (D := (dC, dI)) (ci := 11) (v := .ref h1) (C := RX12) (T := TX12) (N := 47) hx hb hts ii_X12_rounds_X12 hown hK hP 2 rfl rfl 31 (by decide) (hts _ mm_X12_rounds_7) (fun _ h9 => h9) rfl dX12_rounds_117 ?_
  refine lv_iload_n hx hb dX12_rounds_120 rfl (lv_at hl 0 rfl) ?_
  refine lv_aload_n hx hb dX12_rounds_121 rfl (lv_at hl 3 rfl) ?_
  refine va_get (D := (dC, dI)) (ci := 11) (v := .ref h4) (C := RX12) (T := TX12) (N := 47) hx hb hts ii_X12_rounds_X12 hown hK hP 2 rfl rfl 14 (by decide) (hts _ mm_X12_rounds_3) (fun _ h9 => h9) rfl dX12_rounds_122 ?_
  refine lv_bipush (v := 71) hx hb dX12_rounds_125 (by decide) ?_
  refine lv_iload_n hx hb dX12_rounds_127 rfl (lv_at hl 0 rfl) ?_
  refine lv_iadd hx hb dX12_rounds_128 ?_
  refine zz_top (v := 75) (by decide) ?_
  refine va_iald hx hb hK hP 3 0 rfl rfl (i := 75) (zz_in (by decide)) dX12_rounds_129 ?_
  refine zz_top (v := 0) (by rfl) ?_
  refine va_iast hx hb hK hP hD hS 0 1 rfl rfl (i := 4) (zz_in (by decide)) dX12_rounds_130 (fun H locs hP hD hS => ?_)
  have hP : va_P (dC, dI) vwCl [(h1, .inl (w0, 8, .inl (upd (fun _ => 0) 4 0))), (h2, .inl (w1, 8, .inl (fun _ => 0))), (h0, .inr (11, [.int 0, .ref h3, .int 0, .int 0, .int 0, .int 0, .int 0, .int 0, .int 0, .int 0, .int 0, .int 0, .long 0, .int 0, .ref h4, .ref h5, .ref h6, .ref h7, .ref h8, .ref h9, .ref h10, .ref h11, .ref h12, .int 0, .int 0, .int 0, .int 0, .int (-1), .int (-1), .long 0, .long 0, .ref h1, .ref h2, .int 0, .int 0, .int 1, .ref h13, .int 0, .ref h14, .ref h15, .int 0, .int 0, .ref h16, .int 0, .int 0, .int 0, .int 0])), (h4, .inl (w2, 373, .inl (upd (upd (fun _ => 0) 60 2) 62 2)))] H := hP
  have hD : va_D A [(h1, .inl (w0, 8, .inl (upd (fun _ => 0) 4 0))), (h2, .inl (w1, 8, .inl (fun _ => 0))), (h0, .inr (11, [.int 0, .ref h3, .int 0, .int 0, .int 0, .int 0, .int 0, .int 0, .int 0, .int 0, .int 0, .int 0, .long 0, .int 0, .ref h4, .ref h5, .ref h6, .ref h7, .ref h8, .ref h9, .ref h10, .ref h11, .ref h12, .int 0, .int 0, .int 0, .int 0, .int (-1), .int (-1), .long 0, .long 0, .ref h1, .ref h2, .int 0, .int 0, .int 1, .ref h13, .int 0, .ref h14, .ref h15, .int 0, .int 0, .ref h16, .int 0, .int 0, .int 0, .int 0])), (h4, .inl (w2, 373, .inl (upd (upd (fun _ => 0) 60 2) 62 2)))] := hD
  rw [zz_sw (f := (fun _ => 0)) (i := 4) (v := 0) rfl] at hP hD
  have hP : va_P (dC, dI) vwCl [(h1, .inl (w0, 8, .inl (fun _ => 0))), (h2, .inl (w1, 8, .inl (fun _ => 0))), (h0, .inr (11, [.int 0, .ref h3, .int 0, .int 0, .int 0, .int 0, .int 0, .int 0, .int 0, .int 0, .int 0, .int 0, .long 0, .int 0, .ref h4, .ref h5, .ref h6, .ref h7, .ref h8, .ref h9, .ref h10, .ref h11, .ref h12, .int 0, .int 0, .int 0, .int 0, .int (-1), .int (-1), .long 0, .long 0, .ref h1, .ref h2, .int 0, .int 0, .int 1, .ref h13, .int 0, .ref h14, .ref h15, .int 0, .int 0, .ref h16, .int 0, .int 0, .int 0, .int 0])), (h4, .inl (w2, 373, .inl (upd (upd (fun _ => 0) 60 2) 62 2)))] H := hP
  have hD : va_D A [(h1, .inl (w0, 8, .inl (fun _ => 0))), (h2, .inl (w1, 8, .inl (fun _ => 0))), (h0, .inr (11, [.int 0, .ref h3, .int 0, .int 0, .int 0, .int 0, .int 0, .int 0, .int 0, .int 0, .int 0, .int 0, .long 0, .int 0, .ref h4, .ref h5, .ref h6, .ref h7, .ref h8, .ref h9, .ref h10, .ref h11, .ref h12, .int 0, .int 0, .int 0, .int 0, .int (-1), .int (-1), .long 0, .long 0, .ref h1, .ref h2, .int 0, .int 0, .int 1, .ref h13, .int 0, .ref h14, .ref h15, .int 0, .int 0, .ref h16, .int 0, .int 0, .int 0, .int 0])), (h4, .inl (w2, 373, .inl (upd (upd (fun _ => 0) 60 2) 62 2)))] := hD
  refine lv_aload_n hx hb dX12_rounds_131 rfl (lv_at hl 3 rfl) ?_
  refine va_get (D := (dC, dI)) (ci := 11) (v := .ref h4) (C := RX12) (T := TX12) (N := 47) hx hb hts ii_X12_rounds_X12 hown hK hP 2 rfl rfl 14 (by decide) (hts _ mm_X12_rounds_3) (fun _ h9 => h9) rfl dX12_rounds_132 ?_
  refine lv_bipush (v := 71) hx hb dX12_rounds_135 (by decide) ?_
  refine lv_iload_n hx hb dX12_rounds_137 rfl (lv_at hl 0 rfl) ?_
  refine lv_iadd hx hb dX12_rounds_138 ?_
  refine zz_top (v := 75) (by decide) ?_
  refine lv_aload_n hx hb dX12_rounds_139 rfl (lv_at hl 3 rfl) ?_
  refine va_get (D := (dC, dI)) (ci := 11) (v := .ref h2) (C := RX12) (T := TX12) (N := 47) hx hb hts ii_X12_rounds_X12 hown hK hP 2 rfl rfl 32 (by decide) (hts _ mm_X12_rounds_2) (fun _ h9 => h9) rfl dX12_rounds_140 ?_
  refine lv_iload_n hx hb dX12_rounds_143 rfl (lv_at hl 0 rfl) ?_
  refine va_iald hx hb hK hP 1 2 rfl rfl (i := 4) (zz_in (by decide)) dX12_rounds_144 ?_
  refine zz_top (v := 0) (by rfl) ?_
  refine va_iast hx hb hK hP hD hS 3 0 rfl rfl (i := 75) (zz_in (by decide)) dX12_rounds_145 (fun H locs hP hD hS => ?_)
  have hP : va_P (dC, dI) vwCl [(h1, .inl (w0, 8, .inl (fun _ => 0))), (h2, .inl (w1, 8, .inl (fun _ => 0))), (h0, .inr (11, [.int 0, .ref h3, .int 0, .int 0, .int 0, .int 0, .int 0, .int 0, .int 0, .int 0, .int 0, .int 0, .long 0, .int 0, .ref h4, .ref h5, .ref h6, .ref h7, .ref h8, .ref h9, .ref h10, .ref h11, .ref h12, .int 0, .int 0, .int 0, .int 0, .int (-1), .int (-1), .long 0, .long 0, .ref h1, .ref h2, .int 0, .int 0, .int 1, .ref h13, .int 0, .ref h14, .ref h15, .int 0, .int 0, .ref h16, .int 0, .int 0, .int 0, .int 0])), (h4, .inl (w2, 373, .inl (upd (upd (upd (fun _ => 0) 60 2) 62 2) 75 0)))] H := hP
  have hD : va_D A [(h1, .inl (w0, 8, .inl (fun _ => 0))), (h2, .inl (w1, 8, .inl (fun _ => 0))), (h0, .inr (11, [.int 0, .ref h3, .int 0, .int 0, .int 0, .int 0, .int 0, .int 0, .int 0, .int 0, .int 0, .int 0, .long 0, .int 0, .ref h4, .ref h5, .ref h6, .ref h7, .ref h8, .ref h9, .ref h10, .ref h11, .ref h12, .int 0, .int 0, .int 0, .int 0, .int (-1), .int (-1), .long 0, .long 0, .ref h1, .ref h2, .int 0, .int 0, .int 1, .ref h13, .int 0, .ref h14, .ref h15, .int 0, .int 0, .ref h16, .int 0, .int 0, .int 0, .int 0])), (h4, .inl (w2, 373, .inl (upd (upd (upd (fun _ => 0) 60 2) 62 2) 75 0)))] := hD
  rw [zz_sw (f := (upd (upd (fun _ => 0) 60 2) 62 2)) (i := 75) (v := 0) rfl] at hP hD
  have hP : va_P (dC, dI) vwCl [(h1, .inl (w0, 8, .inl (fun _ => 0))), (h2, .inl (w1, 8, .inl (fun _ => 0))), (h0, .inr (11, [.int 0, .ref h3, .int 0, .int 0, .int 0, .int 0, .int 0, .int 0, .int 0, .int 0, .int 0, .int 0, .long 0, .int 0, .ref h4, .ref h5, .ref h6, .ref h7, .ref h8, .ref h9, .ref h10, .ref h11, .ref h12, .int 0, .int 0, .int 0, .int 0, .int (-1), .int (-1), .long 0, .long 0, .ref h1, .ref h2, .int 0, .int 0, .int 1, .ref h13, .int 0, .ref h14, .ref h15, .int 0, .int 0, .ref h16, .int 0, .int 0, .int 0, .int 0])), (h4, .inl (w2, 373, .inl (upd (upd (fun _ => 0) 60 2) 62 2)))] H := hP
  have hD : va_D A [(h1, .inl (w0, 8, .inl (fun _ => 0))), (h2, .inl (w1, 8, .inl (fun _ => 0))), (h0, .inr (11, [.int 0, .ref h3, .int 0, .int 0, .int 0, .int 0, .int 0, .int 0, .int 0, .int 0, .int 0, .int 0, .long 0, .int 0, .ref h4, .ref h5, .ref h6, .ref h7, .ref h8, .ref h9, .ref h10, .ref h11, .ref h12, .int 0, .int 0, .int 0, .int 0, .int (-1), .int (-1), .long 0, .long 0, .ref h1, .ref h2, .int 0, .int 0, .int 1, .ref h13, .int 0, .ref h14, .ref h15, .int 0, .int 0, .ref h16, .int 0, .int 0, .int 0, .int 0])), (h4, .inl (w2, 373, .inl (upd (upd (fun _ => 0) 60 2) 62 2)))] := hD
  refine lv_iinc (v := 5) (lv' := [(3, .int 5), (1, .int 1), (2, .int 0), (0, .ref h0)]) hx hb dX12_rounds_146 hl (k := 0) rfl (by decide) (by decide) rfl (fun ls hl => ?_)
  refine lv_goto (tgt := 110) hx hb dX12_rounds_149 (by decide) ?_
  refine lv_iload_n hx hb dX12_rounds_110 rfl (lv_at hl 0 rfl) ?_
  refine lv_bipush (v := 8) hx hb dX12_rounds_111 (by decide) ?_
  refine lv_icmp_ge (tgt := 152) hx hb dX12_rounds_113 (by decide) (fun c20 => absurd c20 (by decide)) (fun _ => ?_)
  refine lv_aload_n hx hb dX12_rounds_116 rfl (lv_at hl 3 rfl) ?_
  refine va_get (D := (dC, dI)) (ci := 11) (v := .ref h1) (C := RX12) (T := TX12) (N := 47) hx hb hts ii_X12_rounds_X12 hown hK hP 2 rfl rfl 31 (by decide) (hts _ mm_X12_rounds_7) (fun _ h9 => h9) rfl dX12_rounds_117 ?_
  refine lv_iload_n hx hb dX12_rounds_120 rfl (lv_at hl 0 rfl) ?_
  refine lv_aload_n hx hb dX12_rounds_121 rfl (lv_at hl 3 rfl) ?_
  refine va_get (D := (dC, dI)) (ci := 11) (v := .ref h4) (C := RX12) (T := TX12) (N := 47) hx hb hts ii_X12_rounds_X12 hown hK hP 2 rfl rfl 14 (by decide) (hts _ mm_X12_rounds_3) (fun _ h9 => h9) rfl dX12_rounds_122 ?_
  refine lv_bipush (v := 71) hx hb dX12_rounds_125 (by decide) ?_
  refine lv_iload_n hx hb dX12_rounds_127 rfl (lv_at hl 0 rfl) ?_
  refine lv_iadd hx hb dX12_rounds_128 ?_
  refine zz_top (v := 76) (by decide) ?_
  refine va_iald hx hb hK hP 3 0 rfl rfl (i := 76) (zz_in (by decide)) dX12_rounds_129 ?_
  refine zz_top (v := 0) (by rfl) ?_
  refine va_iast hx hb hK hP hD hS 0 1 rfl rfl (i := 5) (zz_in (by decide)) dX12_rounds_130 (fun H locs hP hD hS => ?_)
  have hP : va_P (dC, dI) vwCl [(h1, .inl (w0, 8, .inl (upd (fun _ => 0) 5 0))), (h2, .inl (w1, 8, .inl (fun _ => 0))), (h0, .inr (11, [.int 0, .ref h3, .int 0, .int 0, .int 0, .int 0, .int 0, .int 0, .int 0, .int 0, .int 0, .int 0, .long 0, .int 0, .ref h4, .ref h5, .ref h6, .ref h7, .ref h8, .ref h9, .ref h10, .ref h11, .ref h12, .int 0, .int 0, .int 0, .int 0, .int (-1), .int (-1), .long 0, .long 0, .ref h1, .ref h2, .int 0, .int 0, .int 1, .ref h13, .int 0, .ref h14, .ref h15, .int 0, .int 0, .ref h16, .int 0, .int 0, .int 0, .int 0])), (h4, .inl (w2, 373, .inl (upd (upd (fun _ => 0) 60 2) 62 2)))] H := hP
  have hD : va_D A [(h1, .inl (w0, 8, .inl (upd (fun _ => 0) 5 0))), (h2, .inl (w1, 8, .inl (fun _ => 0))), (h0, .inr (11, [.int 0, .ref h3, .int 0, .int 0, .int 0, .int 0, .int 0, .int 0, .int 0, .int 0, .int 0, .int 0, .long 0, .int 0, .ref h4, .ref h5, .ref h6, .ref h7, .ref h8, .ref h9, .ref h10, .ref h11, .ref h12, .int 0, .int 0, .int 0, .int 0, .int (-1), .int (-1), .long 0, .long 0, .ref h1, .ref h2, .int 0, .int 0, .int 1, .ref h13, .int 0, .ref h14, .ref h15, .int 0, .int 0, .ref h16, .int 0, .int 0, .int 0, .int 0])), (h4, .inl (w2, 373, .inl (upd (upd (fun _ => 0) 60 2) 62 2)))] := hD
  rw [zz_sw (f := (fun _ => 0)) (i := 5) (v := 0) rfl] at hP hD
  have hP : va_P (dC, dI) vwCl [(h1, .inl (w0, 8, .inl (fun _ => 0))), (h2, .inl (w1, 8, .inl (fun _ => 0))), (h0, .inr (11, [.int 0, .ref h3, .int 0, .int 0, .int 0, .int 0, .int 0, .int 0, .int 0, .int 0, .int 0, .int 0, .long 0, .int 0, .ref h4, .ref h5, .ref h6, .ref h7, .ref h8, .ref h9, .ref h10, .ref h11, .ref h12, .int 0, .int 0, .int 0, .int 0, .int (-1), .int (-1), .long 0, .long 0, .ref h1, .ref h2, .int 0, .int 0, .int 1, .ref h13, .int 0, .ref h14, .ref h15, .int 0, .int 0, .ref h16, .int 0, .int 0, .int 0, .int 0])), (h4, .inl (w2, 373, .inl (upd (upd (fun _ => 0) 60 2) 62 2)))] H := hP
  have hD : va_D A [(h1, .inl (w0, 8, .inl (fun _ => 0))), (h2, .inl (w1, 8, .inl (fun _ => 0))), (h0, .inr (11, [.int 0, .ref h3, .int 0, .int 0, .int 0, .int 0, .int 0, .int 0, .int 0, .int 0, .int 0, .int 0, .long 0, .int 0, .ref h4, .ref h5, .ref h6, .ref h7, .ref h8, .ref h9, .ref h10, .ref h11, .ref h12, .int 0, .int 0, .int 0, .int 0, .int (-1), .int (-1), .long 0, .long 0, .ref h1, .ref h2, .int 0, .int 0, .int 1, .ref h13, .int 0, .ref h14, .ref h15, .int 0, .int 0, .ref h16, .int 0, .int 0, .int 0, .int 0])), (h4, .inl (w2, 373, .inl (upd (upd (fun _ => 0) 60 2) 62 2)))] := hD
  refine lv_aload_n hx hb dX12_rounds_131 rfl (lv_at hl 3 rfl) ?_
  refine va_get (D := (dC, dI)) (ci := 11) (v := .ref h4) (C := RX12) (T := TX12) (N := 47) hx hb hts ii_X12_rounds_X12 hown hK hP 2 rfl rfl 14 (by decide) (hts _ mm_X12_rounds_3) (fun _ h9 => h9) rfl dX12_rounds_132 ?_
  refine lv_bipush (v := 71) hx hb dX12_rounds_135 (by decide) ?_
  refine lv_iload_n hx hb dX12_rounds_137 rfl (lv_at hl 0 rfl) ?_
  refine lv_iadd hx hb dX12_rounds_138 ?_
  refine zz_top (v := 76) (by decide) ?_
  refine lv_aload_n hx hb dX12_rounds_139 rfl (lv_at hl 3 rfl) ?_
  refine va_get (D := (dC, dI)) (ci := 11) (v := .ref h2) (C := RX12) (T := TX12) (N := 47) hx hb hts ii_X12_rounds_X12 hown hK hP 2 rfl rfl 32 (by decide) (hts _ mm_X12_rounds_2) (fun _ h9 => h9) rfl dX12_rounds_140 ?_
  refine lv_iload_n hx hb dX12_rounds_143 rfl (lv_at hl 0 rfl) ?_
  refine va_iald hx hb hK hP 1 2 rfl rfl (i := 5) (zz_in (by decide)) dX12_rounds_144 ?_
  refine zz_top (v := 0) (by rfl) ?_
  refine va_iast hx hb hK hP hD hS 3 0 rfl rfl (i := 76) (zz_in (by decide)) dX12_rounds_145 (fun H locs hP hD hS => ?_)
  have hP : va_P (dC, dI) vwCl [(h1, .inl (w0, 8, .inl (fun _ => 0))), (h2, .inl (w1, 8, .inl (fun _ => 0))), (h0, .inr (11, [.int 0, .ref h3, .int 0, .int 0, .int 0, .int 0, .int 0, .int 0, .int 0, .int 0, .int 0, .int 0, .long 0, .int 0, .ref h4, .ref h5, .ref h6, .ref h7, .ref h8, .ref h9, .ref h10, .ref h11, .ref h12, .int 0, .int 0, .int 0, .int 0, .int (-1), .int (-1), .long 0, .long 0, .ref h1, .ref h2, .int 0, .int 0, .int 1, .ref h13, .int 0, .ref h14, .ref h15, .int 0, .int 0, .ref h16, .int 0, .int 0, .int 0, .int 0])), (h4, .inl (w2, 373, .inl (upd (upd (upd (fun _ => 0) 60 2) 62 2) 76 0)))] H := hP
  have hD : va_D A [(h1, .inl (w0, 8, .inl (fun _ => 0))), (h2, .inl (w1, 8, .inl (fun _ => 0))), (h0, .inr (11, [.int 0, .ref h3, .int 0, .int 0, .int 0, .int 0, .int 0, .int 0, .int 0, .int 0, .int 0, .int 0, .long 0, .int 0, .ref h4, .ref h5, .ref h6, .ref h7, .ref h8, .ref h9, .ref h10, .ref h11, .ref h12, .int 0, .int 0, .int 0, .int 0, .int (-1), .int (-1), .long 0, .long 0, .ref h1, .ref h2, .int 0, .int 0, .int 1, .ref h13, .int 0, .ref h14, .ref h15, .int 0, .int 0, .ref h16, .int 0, .int 0, .int 0, .int 0])), (h4, .inl (w2, 373, .inl (upd (upd (upd (fun _ => 0) 60 2) 62 2) 76 0)))] := hD
  rw [zz_sw (f := (upd (upd (fun _ => 0) 60 2) 62 2)) (i := 76) (v := 0) rfl] at hP hD
  have hP : va_P (dC, dI) vwCl [(h1, .inl (w0, 8, .inl (fun _ => 0))), (h2, .inl (w1, 8, .inl (fun _ => 0))), (h0, .inr (11, [.int 0, .ref h3, .int 0, .int 0, .int 0, .int 0, .int 0, .int 0, .int 0, .int 0, .int 0, .int 0, .long 0, .int 0, .ref h4, .ref h5, .ref h6, .ref h7, .ref h8, .ref h9, .ref h10, .ref h11, .ref h12, .int 0, .int 0, .int 0, .int 0, .int (-1), .int (-1), .long 0, .long 0, .ref h1, .ref h2, .int 0, .int 0, .int 1, .ref h13, .int 0, .ref h14, .ref h15, .int 0, .int 0, .ref h16, .int 0, .int 0, .int 0, .int 0])), (h4, .inl (w2, 373, .inl (upd (upd (fun _ => 0) 60 2) 62 2)))] H := hP
  have hD : va_D A [(h1, .inl (w0, 8, .inl (fun _ => 0))), (h2, .inl (w1, 8, .inl (fun _ => 0))), (h0, .inr (11, [.int 0, .ref h3, .int 0, .int 0, .int 0, .int 0, .int 0, .int 0, .int 0, .int 0, .int 0, .int 0, .long 0, .int 0, .ref h4, .ref h5, .ref h6, .ref h7, .ref h8, .ref h9, .ref h10, .ref h11, .ref h12, .int 0, .int 0, .int 0, .int 0, .int (-1), .int (-1), .long 0, .long 0, .ref h1, .ref h2, .int 0, .int 0, .int 1, .ref h13, .int 0, .ref h14, .ref h15, .int 0, .int 0, .ref h16, .int 0, .int 0, .int 0, .int 0])), (h4, .inl (w2, 373, .inl (upd (upd (fun _ => 0) 60 2) 62 2)))] := hD
  refine lv_iinc (v := 6) (lv' := [(3, .int 6), (1, .int 1), (2, .int 0), (0, .ref h0)]) hx hb dX12_rounds_146 hl (k := 0) rfl (by decide) (by decide) rfl (fun ls hl => ?_)
  refine lv_goto (tgt := 110) hx hb dX12_rounds_149 (by decide) ?_
  refine lv_iload_n hx hb dX12_rounds_110 rfl (lv_at hl 0 rfl) ?_
  refine lv_bipush (v := 8) hx hb dX12_rounds_111 (by decide) ?_
  refine lv_icmp_ge (tgt := 152) hx hb dX12_rounds_113 (by decide) (fun c21 => absurd c21 (by decide)) (fun _ => ?_)
  refine lv_aload_n hx hb dX12_rounds_116 rfl (lv_at hl 3 rfl) ?_
  refine va_get (D := (dC, dI)) (ci := 11) (v := .ref h1) (C := RX12) (T := TX12) (N := 47) hx hb hts ii_X12_rounds_X12 hown hK hP 2 rfl rfl 31 (by decide) (hts _ mm_X12_rounds_7) (fun _ h9 => h9) rfl dX12_rounds_117 ?_
  refine lv_iload_n hx hb dX12_rounds_120 rfl (lv_at hl 0 rfl) ?_
  refine lv_aload_n hx hb dX12_rounds_121 rfl (lv_at hl 3 rfl) ?_
  refine va_get (D := (dC, dI)) (ci := 11) (v := .ref h4) (C := RX12) (T := TX12) (N := 47) hx hb hts ii_X12_rounds_X12 hown hK hP 2 rfl rfl 14 (by decide) (hts _ mm_X12_rounds_3) (fun _ h9 => h9) rfl dX12_rounds_122 ?_
  refine lv_bipush (v := 71) hx hb dX12_rounds_125 (by decide) ?_
  refine lv_iload_n hx hb dX12_rounds_127 rfl (lv_at hl 0 rfl) ?_
  refine lv_iadd hx hb dX12_rounds_128 ?_
  refine zz_top (v := 77) (by decide) ?_
  refine va_iald hx hb hK hP 3 0 rfl rfl (i := 77) (zz_in (by decide)) dX12_rounds_129 ?_
  refine zz_top (v := 0) (by rfl) ?_
  refine va_iast hx hb hK hP hD hS 0 1 rfl rfl (i := 6) (zz_in (by decide)) dX12_rounds_130 (fun H locs hP hD hS => ?_)
  have hP : va_P (dC, dI) vwCl [(h1, .inl (w0, 8, .inl (upd (fun _ => 0) 6 0))), (h2, .inl (w1, 8, .inl (fun _ => 0))), (h0, .inr (11, [.int 0, .ref h3, .int 0, .int 0, .int 0, .int 0, .int 0, .int 0, .int 0, .int 0, .int 0, .int 0, .long 0, .int 0, .ref h4, .ref h5, .ref h6, .ref h7, .ref h8, .ref h9, .ref h10, .ref h11, .ref h12, .int 0, .int 0, .int 0, .int 0, .int (-1), .int (-1), .long 0, .long 0, .ref h1, .ref h2, .int 0, .int 0, .int 1, .ref h13, .int 0, .ref h14, .ref h15, .int 0, .int 0, .ref h16, .int 0, .int 0, .int 0, .int 0])), (h4, .inl (w2, 373, .inl (upd (upd (fun _ => 0) 60 2) 62 2)))] H := hP
  have hD : va_D A [(h1, .inl (w0, 8, .inl (upd (fun _ => 0) 6 0))), (h2, .inl (w1, 8, .inl (fun _ => 0))), (h0, .inr (11, [.int 0, .ref h3, .int 0, .int 0, .int 0, .int 0, .int 0, .int 0, .int 0, .int 0, .int 0, .int 0, .long 0, .int 0, .ref h4, .ref h5, .ref h6, .ref h7, .ref h8, .ref h9, .ref h10, .ref h11, .ref h12, .int 0, .int 0, .int 0, .int 0, .int (-1), .int (-1), .long 0, .long 0, .ref h1, .ref h2, .int 0, .int 0, .int 1, .ref h13, .int 0, .ref h14, .ref h15, .int 0, .int 0, .ref h16, .int 0, .int 0, .int 0, .int 0])), (h4, .inl (w2, 373, .inl (upd (upd (fun _ => 0) 60 2) 62 2)))] := hD
  rw [zz_sw (f := (fun _ => 0)) (i := 6) (v := 0) rfl] at hP hD
  have hP : va_P (dC, dI) vwCl [(h1, .inl (w0, 8, .inl (fun _ => 0))), (h2, .inl (w1, 8, .inl (fun _ => 0))), (h0, .inr (11, [.int 0, .ref h3, .int 0, .int 0, .int 0, .int 0, .int 0, .int 0, .int 0, .int 0, .int 0, .int 0, .long 0, .int 0, .ref h4, .ref h5, .ref h6, .ref h7, .ref h8, .ref h9, .ref h10, .ref h11, .ref h12, .int 0, .int 0, .int 0, .int 0, .int (-1), .int (-1), .long 0, .long 0, .ref h1, .ref h2, .int 0, .int 0, .int 1, .ref h13, .int 0, .ref h14, .ref h15, .int 0, .int 0, .ref h16, .int 0, .int 0, .int 0, .int 0])), (h4, .inl (w2, 373, .inl (upd (upd (fun _ => 0) 60 2) 62 2)))] H := hP
  have hD : va_D A [(h1, .inl (w0, 8, .inl (fun _ => 0))), (h2, .inl (w1, 8, .inl (fun _ => 0))), (h0, .inr (11, [.int 0, .ref h3, .int 0, .int 0, .int 0, .int 0, .int 0, .int 0, .int 0, .int 0, .int 0, .int 0, .long 0, .int 0, .ref h4, .ref h5, .ref h6, .ref h7, .ref h8, .ref h9, .ref h10, .ref h11, .ref h12, .int 0, .int 0, .int 0, .int 0, .int (-1), .int (-1), .long 0, .long 0, .ref h1, .ref h2, .int 0, .int 0, .int 1, .ref h13, .int 0, .ref h14, .ref h15, .int 0, .int 0, .ref h16, .int 0, .int 0, .int 0, .int 0])), (h4, .inl (w2, 373, .inl (upd (upd (fun _ => 0) 60 2) 62 2)))] := hD
  refine lv_aload_n hx hb dX12_rounds_131 rfl (lv_at hl 3 rfl) ?_
  refine va_get (D := (dC, dI)) (ci := 11) (v := .ref h4) (C := RX12) (T := TX12) (N := 47) hx hb hts ii_X12_rounds_X12 hown hK hP 2 rfl rfl 14 (by decide) (hts _ mm_X12_rounds_3) (fun _ h9 => h9) rfl dX12_rounds_132 ?_
  refine lv_bipush (v := 71) hx hb dX12_rounds_135 (by decide) ?_
  refine lv_iload_n hx hb dX12_rounds_137 rfl (lv_at hl 0 rfl) ?_
  refine lv_iadd hx hb dX12_rounds_138 ?_
  refine zz_top (v := 77) (by decide) ?_
  refine lv_aload_n hx hb dX12_rounds_139 rfl (lv_at hl 3 rfl) ?_
  refine va_get (D := (dC, dI)) (ci := 11) (v := .ref h2) (C := RX12) (T := TX12) (N := 47) hx hb hts ii_X12_rounds_X12 hown hK hP 2 rfl rfl 32 (by decide) (hts _ mm_X12_rounds_2) (fun _ h9 => h9) rfl dX12_rounds_140 ?_
  refine lv_iload_n hx hb dX12_rounds_143 rfl (lv_at hl 0 rfl) ?_
  refine va_iald hx hb hK hP 1 2 rfl rfl (i := 6) (zz_in (by decide)) dX12_rounds_144 ?_
  refine zz_top (v := 0) (by rfl) ?_
  refine va_iast hx hb hK hP hD hS 3 0 rfl rfl (i := 77) (zz_in (by decide)) dX12_rounds_145 (fun H locs hP hD hS => ?_)
  have hP : va_P (dC, dI) vwCl [(h1, .inl (w0, 8, .inl (fun _ => 0))), (h2, .inl (w1, 8, .inl (fun _ => 0))), (h0, .inr (11, [.int 0, .ref h3, .int 0, .int 0, .int 0, .int 0, .int 0, .int 0, .int 0, .int 0, .int 0, .int 0, .long 0, .int 0, .ref h4, .ref h5, .ref h6, .ref h7, .ref h8, .ref h9, .ref h10, .ref h11, .ref h12, .int 0, .int 0, .int 0, .int 0, .int (-1), .int (-1), .long 0, .long 0, .ref h1, .ref h2, .int 0, .int 0, .int 1, .ref h13, .int 0, .ref h14, .ref h15, .int 0, .int 0, .ref h16, .int 0, .int 0, .int 0, .int 0])), (h4, .inl (w2, 373, .inl (upd (upd (upd (fun _ => 0) 60 2) 62 2) 77 0)))] H := hP
  have hD : va_D A [(h1, .inl (w0, 8, .inl (fun _ => 0))), (h2, .inl (w1, 8, .inl (fun _ => 0))), (h0, .inr (11, [.int 0, .ref h3, .int 0, .int 0, .int 0, .int 0, .int 0, .int 0, .int 0, .int 0, .int 0, .int 0, .long 0, .int 0, .ref h4, .ref h5, .ref h6, .ref h7, .ref h8, .ref h9, .ref h10, .ref h11, .ref h12, .int 0, .int 0, .int 0, .int 0, .int (-1), .int (-1), .long 0, .long 0, .ref h1, .ref h2, .int 0, .int 0, .int 1, .ref h13, .int 0, .ref h14, .ref h15, .int 0, .int 0, .ref h16, .int 0, .int 0, .int 0, .int 0])), (h4, .inl (w2, 373, .inl (upd (upd (upd (fun _ => 0) 60 2) 62 2) 77 0)))] := hD
  rw [zz_sw (f := (upd (upd (fun _ => 0) 60 2) 62 2)) (i := 77) (v := 0) rfl] at hP hD
  have hP : va_P (dC, dI) vwCl [(h1, .inl (w0, 8, .inl (fun _ => 0))), (h2, .inl (w1, 8, .inl (fun _ => 0))), (h0, .inr (11, [.int 0, .ref h3, .int 0, .int 0, .int 0, .int 0, .int 0, .int 0, .int 0, .int 0, .int 0, .int 0, .long 0, .int 0, .ref h4, .ref h5, .ref h6, .ref h7, .ref h8, .ref h9, .ref h10, .ref h11, .ref h12, .int 0, .int 0, .int 0, .int 0, .int (-1), .int (-1), .long 0, .long 0, .ref h1, .ref h2, .int 0, .int 0, .int 1, .ref h13, .int 0, .ref h14, .ref h15, .int 0, .int 0, .ref h16, .int 0, .int 0, .int 0, .int 0])), (h4, .inl (w2, 373, .inl (upd (upd (fun _ => 0) 60 2) 62 2)))] H := hP
  have hD : va_D A [(h1, .inl (w0, 8, .inl (fun _ => 0))), (h2, .inl (w1, 8, .inl (fun _ => 0))), (h0, .inr (11, [.int 0, .ref h3, .int 0, .int 0, .int 0, .int 0, .int 0, .int 0, .int 0, .int 0, .int 0, .int 0, .long 0, .int 0, .ref h4, .ref h5, .ref h6, .ref h7, .ref h8, .ref h9, .ref h10, .ref h11, .ref h12, .int 0, .int 0, .int 0, .int 0, .int (-1), .int (-1), .long 0, .long 0, .ref h1, .ref h2, .int 0, .int 0, .int 1, .ref h13, .int 0, .ref h14, .ref h15, .int 0, .int 0, .ref h16, .int 0, .int 0, .int 0, .int 0])), (h4, .inl (w2, 373, .inl (upd (upd (fun _ => 0) 60 2) 62 2)))] := hD
  refine lv_iinc (v := 7) (lv' := [(3, .int 7), (1, .int 1), (2, .int 0), (0, .ref h0)]) hx hb dX12_rounds_146 hl (k := 0) rfl (by decide) (by decide) rfl (fun ls hl => ?_)
  refine lv_goto (tgt := 110) hx hb dX12_rounds_149 (by decide) ?_
  refine lv_iload_n hx hb dX12_rounds_110 rfl (lv_at hl 0 rfl) ?_
  refine lv_bipush (v := 8) hx hb dX12_rounds_111 (by decide) ?_
  refine lv_icmp_ge (tgt := 152) hx hb dX12_rounds_113 (by decide) (fun c22 => absurd c22 (by decide)) (fun _ => ?_)
  refine lv_aload_n hx hb dX12_rounds_116 rfl (lv_at hl 3 rfl) ?_
  refine va_get (D := (dC, dI)) (ci := 11) (v := .ref h1) (C := RX12) (T := TX12) (N := 47) hx hb hts ii_X12_rounds_X12 hown hK hP 2 rfl rfl 31 (by decide) (hts _ mm_X12_rounds_7) (fun _ h9 => h9) rfl dX12_rounds_117 ?_
  refine lv_iload_n hx hb dX12_rounds_120 rfl (lv_at hl 0 rfl) ?_
  refine lv_aload_n hx hb dX12_rounds_121 rfl (lv_at hl 3 rfl) ?_
  refine va_get (D := (dC, dI)) (ci := 11) (v := .ref h4) (C := RX12) (T := TX12) (N := 47) hx hb hts ii_X12_rounds_X12 hown hK hP 2 rfl rfl 14 (by decide) (hts _ mm_X12_rounds_3) (fun _ h9 => h9) rfl dX12_rounds_122 ?_
  refine lv_bipush (v := 71) hx hb dX12_rounds_125 (by decide) ?_
  refine lv_iload_n hx hb dX12_rounds_127 rfl (lv_at hl 0 rfl) ?_
  refine lv_iadd hx hb dX12_rounds_128 ?_
  refine zz_top (v := 78) (by decide) ?_
  refine va_iald hx hb hK hP 3 0 rfl rfl (i := 78) (zz_in (by decide)) dX12_rounds_129 ?_
  refine zz_top (v := 0) (by rfl) ?_
  refine va_iast hx hb hK hP hD hS 0 1 rfl rfl (i := 7) (zz_in (by decide)) dX12_rounds_130 (fun H locs hP hD hS => ?_)
  have hP : va_P (dC, dI) vwCl [(h1, .inl (w0, 8, .inl (upd (fun _ => 0) 7 0))), (h2, .inl (w1, 8, .inl (fun _ => 0))), (h0, .inr (11, [.int 0, .ref h3, .int 0, .int 0, .int 0, .int 0, .int 0, .int 0, .int 0, .int 0, .int 0, .int 0, .long 0, .int 0, .ref h4, .ref h5, .ref h6, .ref h7, .ref h8, .ref h9, .ref h10, .ref h11, .ref h12, .int 0, .int 0, .int 0, .int 0, .int (-1), .int (-1), .long 0, .long 0, .ref h1, .ref h2, .int 0, .int 0, .int 1, .ref h13, .int 0, .ref h14, .ref h15, .int 0, .int 0, .ref h16, .int 0, .int 0, .int 0, .int 0])), (h4, .inl (w2, 373, .inl (upd (upd (fun _ => 0) 60 2) 62 2)))] H := hP
  have hD : va_D A [(h1, .inl (w0, 8, .inl (upd (fun _ => 0) 7 0))), (h2, .inl (w1, 8, .inl (fun _ => 0))), (h0, .inr (11, [.int 0, .ref h3, .int 0, .int 0, .int 0, .int 0, .int 0, .int 0, .int 0, .int 0, .int 0, .int 0, .long 0, .int 0, .ref h4, .ref h5, .ref h6, .ref h7, .ref h8, .ref h9, .ref h10, .ref h11, .ref h12, .int 0, .int 0, .int 0, .int 0, .int (-1), .int (-1), .long 0, .long 0, .ref h1, .ref h2, .int 0, .int 0, .int 1, .ref h13, .int 0, .ref h14, .ref h15, .int 0, .int 0, .ref h16, .int 0, .int 0, .int 0, .int 0])), (h4, .inl (w2, 373, .inl (upd (upd (fun _ => 0) 60 2) 62 2)))] := hD
  rw [zz_sw (f := (fun _ => 0)) (i := 7) (v := 0) rfl] at hP hD
  have hP : va_P (dC, dI) vwCl [(h1, .inl (w0, 8, .inl (fun _ => 0))), (h2, .inl (w1, 8, .inl (fun _ => 0))), (h0, .inr (11, [.int 0, .ref h3, .int 0, .int 0, .int 0, .int 0, .int 0, .int 0, .int 0, .int 0, .int 0, .int 0, .long 0, .int 0, .ref h4, .ref h5, .ref h6, .ref h7, .ref h8, .ref h9, .ref h10, .ref h11, .ref h12, .int 0, .int 0, .int 0, .int 0, .int (-1), .int (-1), .long 0, .long 0, .ref h1, .ref h2, .int 0, .int 0, .int 1, .ref h13, .int 0, .ref h14, .ref h15, .int 0, .int 0, .ref h16, .int 0, .int 0, .int 0, .int 0])), (h4, .inl (w2, 373, .inl (upd (upd (fun _ => 0) 60 2) 62 2)))] H := hP
  have hD : va_D A [(h1, .inl (w0, 8, .inl (fun _ => 0))), (h2, .inl (w1, 8, .inl (fun _ => 0))), (h0, .inr (11, [.int 0, .ref h3, .int 0, .int 0, .int 0, .int 0, .int 0, .int 0, .int 0, .int 0, .int 0, .int 0, .long 0, .int 0, .ref h4, .ref h5, .ref h6, .ref h7, .ref h8, .ref h9, .ref h10, .ref h11, .ref h12, .int 0, .int 0, .int 0, .int 0, .int (-1), .int (-1), .long 0, .long 0, .ref h1, .ref h2, .int 0, .int 0, .int 1, .ref h13, .int 0, .ref h14, .ref h15, .int 0, .int 0, .ref h16, .int 0, .int 0, .int 0, .int 0])), (h4, .inl (w2, 373, .inl (upd (upd (fun _ => 0) 60 2) 62 2)))] := hD
  refine lv_aload_n hx hb dX12_rounds_131 rfl (lv_at hl 3 rfl) ?_
  refine va_get (D := (dC, dI)) (ci := 11) (v := .ref h4) (C := RX12) (T := TX12) (N := 47) hx hb hts ii_X12_rounds_X12 hown hK hP 2 rfl rfl 14 (by decide) (hts _ mm_X12_rounds_3) (fun _ h9 => h9) rfl dX12_rounds_132 ?_
  refine lv_bipush (v := 71) hx hb dX12_rounds_135 (by decide) ?_
  refine lv_iload_n hx hb dX12_rounds_137 rfl (lv_at hl 0 rfl) ?_
  refine lv_iadd hx hb dX12_rounds_138 ?_
  refine zz_top (v := 78) (by decide) ?_
  refine lv_aload_n hx hb dX12_rounds_139 rfl (lv_at hl 3 rfl) ?_
  refine va_get (D := (dC, dI)) (ci := 11) (v := .ref h2) (C := RX12) (T := TX12) (N := 47) hx hb hts ii_X12_rounds_X12 hown hK hP 2 rfl rfl 32 (by decide) (hts _ mm_X12_rounds_2) (fun _ h9 => h9) rfl dX12_rounds_140 ?_
  refine lv_iload_n hx hb dX12_rounds_143 rfl (lv_at hl 0 rfl) ?_
  refine va_iald hx hb hK hP 1 2 rfl rfl (i := 7) (zz_in (by decide)) dX12_rounds_144 ?_
  refine zz_top (v := 0) (by rfl) ?_
  refine va_iast hx hb hK hP hD hS 3 0 rfl rfl (i := 78) (zz_in (by decide)) dX12_rounds_145 (fun H locs hP hD hS => ?_)
  have hP : va_P (dC, dI) vwCl [(h1, .inl (w0, 8, .inl (fun _ => 0))), (h2, .inl (w1, 8, .inl (fun _ => 0))), (h0, .inr (11, [.int 0, .ref h3, .int 0, .int 0, .int 0, .int 0, .int 0, .int 0, .int 0, .int 0, .int 0, .int 0, .long 0, .int 0, .ref h4, .ref h5, .ref h6, .ref h7, .ref h8, .ref h9, .ref h10, .ref h11, .ref h12, .int 0, .int 0, .int 0, .int 0, .int (-1), .int (-1), .long 0, .long 0, .ref h1, .ref h2, .int 0, .int 0, .int 1, .ref h13, .int 0, .ref h14, .ref h15, .int 0, .int 0, .ref h16, .int 0, .int 0, .int 0, .int 0])), (h4, .inl (w2, 373, .inl (upd (upd (upd (fun _ => 0) 60 2) 62 2) 78 0)))] H := hP
  have hD : va_D A [(h1, .inl (w0, 8, .inl (fun _ => 0))), (h2, .inl (w1, 8, .inl (fun _ => 0))), (h0, .inr (11, [.int 0, .ref h3, .int 0, .int 0, .int 0, .int 0, .int 0, .int 0, .int 0, .int 0, .int 0, .int 0, .long 0, .int 0, .ref h4, .ref h5, .ref h6, .ref h7, .ref h8, .ref h9, .ref h10, .ref h11, .ref h12, .int 0, .int 0, .int 0, .int 0, .int (-1), .int (-1), .long 0, .long 0, .ref h1, .ref h2, .int 0, .int 0, .int 1, .ref h13, .int 0, .ref h14, .ref h15, .int 0, .int 0, .ref h16, .int 0, .int 0, .int 0, .int 0])), (h4, .inl (w2, 373, .inl (upd (upd (upd (fun _ => 0) 60 2) 62 2) 78 0)))] := hD
  rw [zz_sw (f := (upd (upd (fun _ => 0) 60 2) 62 2)) (i := 78) (v := 0) rfl] at hP hD
  have hP : va_P (dC, dI) vwCl [(h1, .inl (w0, 8, .inl (fun _ => 0))), (h2, .inl (w1, 8, .inl (fun _ => 0))), (h0, .inr (11, [.int 0, .ref h3, .int 0, .int 0, .int 0, .int 0, .int 0, .int 0, .int 0, .int 0, .int 0, .int 0, .long 0, .int 0, .ref h4, .ref h5, .ref h6, .ref h7, .ref h8, .ref h9, .ref h10, .ref h11, .ref h12, .int 0, .int 0, .int 0, .int 0, .int (-1), .int (-1), .long 0, .long 0, .ref h1, .ref h2, .int 0, .int 0, .int 1, .ref h13, .int 0, .ref h14, .ref h15, .int 0, .int 0, .ref h16, .int 0, .int 0, .int 0, .int 0])), (h4, .inl (w2, 373, .inl (upd (upd (fun _ => 0) 60 2) 62 2)))] H := hP
  have hD : va_D A [(h1, .inl (w0, 8, .inl (fun _ => 0))), (h2, .inl (w1, 8, .inl (fun _ => 0))), (h0, .inr (11, [.int 0, .ref h3, .int 0, .int 0, .int 0, .int 0, .int 0, .int 0, .int 0, .int 0, .int 0, .int 0, .long 0, .int 0, .ref h4, .ref h5, .ref h6, .ref h7, .ref h8, .ref h9, .ref h10, .ref h11, .ref h12, .int 0, .int 0, .int 0, .int 0, .int (-1), .int (-1), .long 0, .long 0, .ref h1, .ref h2, .int 0, .int 0, .int 1, .ref h13, .int 0, .ref h14, .ref h15, .int 0, .int 0, .ref h16, .int 0, .int 0, .int 0, .int 0])), (h4, .inl (w2, 373, .inl (upd (upd (fun _ => 0) 60 2) 62 2)))] := hD
  refine lv_iinc (v := 8) (lv' := [(3, .int 8), (1, .int 1), (2, .int 0), (0, .ref h0)]) hx hb dX12_rounds_146 hl (k := 0) rfl (by decide) (by decide) rfl (fun ls hl => ?_)
  refine lv_goto (tgt := 110) hx hb dX12_rounds_149 (by decide) ?_
  refine lv_iload_n hx hb dX12_rounds_110 rfl (lv_at hl 0 rfl) ?_
  refine lv_bipush (v := 8) hx hb dX12_rounds_111 (by decide) ?_
  refine lv_icmp_ge (tgt := 152) hx hb dX12_rounds_113 (by decide) (fun _ => ?_) (fun c23 => absurd (by decide) c23)
  refine lv_iload_n hx hb dX12_rounds_152 rfl (lv_at hl 1 rfl) ?_
  have hP9 := hP.sub (ws' := []) [] rfl
  have hD9 := hD.sub (ws' := []) [] (by decide) rfl
  have hK9 := hK.sub (tys' := []) [] rfl
  refine W.widen (k := 0) (n := 0) (Nat.le_of_ble_eq_true rfl) (Nat.le_of_ble_eq_true rfl) ?_
  exact W.iret (v := 1) hx hb hr (fun t ht hW => ⟨⟨1, (), rfl, rfl, by rw [ht]; exact hP9, va_K.moved hW.alike hK9, hD9⟩, hS.F ht⟩) hS.2.2 dX12_rounds_153
set_option maxHeartbeats 4000000 in
set_option maxRecDepth 100000 in
theorem k_X12_parted (l : Launch) (dC : Nat → ClassId) (dI : Nat → Nat → Nat) (ad : Nat → Nat) (h0 h1 h2 h3 h4 h5 h6 h7 h8 h9 h10 h11 h12 h13 h14 h15 h16 : Nat) (sz : Nat) : Met l yX12_parted wsX12_parted ({ frames := 0, cells := 0, slots := 0, locals := 0 }) (va_Pc [.ref h0, .int 0] (CP (dC, dI) [(h0, .inr (11, [.int 0, .ref h1, .int 0, .int 0, .int 0, .int 0, .int 0, .int 0, .int 0, .int 0, .int 0, .int 0, .long 0, .int 0, .ref h2, .ref h3, .ref h4, .ref h5, .ref h6, .ref h7, .ref h8, .ref h9, .ref h10, .int 0, .int 0, .int 0, .int 0, .int (-1), .int (-1), .long 0, .long 0, .ref h11, .ref h12, .int 0, .int (-1), .int 0, .ref h13, .int 0, .ref h14, .ref h15, .int 0, .int 0, .ref h16, .int 0, .int 0, .int 0, .int 0]))] [] sz ad)) (va_Qi (fun (r : Int32) (_ : Unit) => r = (-1)) (fun (_ : Unit) (t : State) => CQ (dC, dI) [] [] (va_A [(h0, .inr (11, [.int 0, .ref h1, .int 0, .int 0, .int 0, .int 0, .int 0, .int 0, .int 0, .int 0, .int 0, .int 0, .long 0, .int 0, .ref h2, .ref h3, .ref h4, .ref h5, .ref h6, .ref h7, .ref h8, .ref h9, .ref h10, .int 0, .int 0, .int 0, .int 0, .int (-1), .int (-1), .long 0, .long 0, .ref h11, .ref h12, .int 0, .int (-1), .int 0, .ref h13, .int 0, .ref h14, .ref h15, .int 0, .int 0, .ref h16, .int 0, .int 0, .int 0, .int 0]))] sz) t) (va_A [(h0, .inr (11, [.int 0, .ref h1, .int 0, .int 0, .int 0, .int 0, .int 0, .int 0, .int 0, .int 0, .int 0, .int 0, .long 0, .int 0, .ref h2, .ref h3, .ref h4, .ref h5, .ref h6, .ref h7, .ref h8, .ref h9, .ref h10, .int 0, .int 0, .int 0, .int 0, .int (-1), .int (-1), .long 0, .long 0, .ref h11, .ref h12, .int 0, .int (-1), .int 0, .ref h13, .int 0, .ref h14, .ref h15, .int 0, .int 0, .ref h16, .int 0, .int 0, .int 0, .int 0]))] sz)) 0 0 (va_A [(h0, .inr (11, [.int 0, .ref h1, .int 0, .int 0, .int 0, .int 0, .int 0, .int 0, .int 0, .int 0, .int 0, .int 0, .long 0, .int 0, .ref h2, .ref h3, .ref h4, .ref h5, .ref h6, .ref h7, .ref h8, .ref h9, .ref h10, .int 0, .int 0, .int 0, .int 0, .int (-1), .int (-1), .long 0, .long 0, .ref h11, .ref h12, .int 0, .int (-1), .int 0, .ref h13, .int 0, .ref h14, .ref h15, .int 0, .int 0, .ref h16, .int 0, .int 0, .int 0, .int 0]))] sz) := by
  refine Met.ofW (cc := cX12_parted) (maxL := 2) (ret := (some .int)) (by decide) rfl ?_
  intro p e s m args below meth c s₁ B hml hv
  obtain ⟨rfl, hsz, hP, hK, hD0, hE⟩ := hv
  have hx := B.exec
  have hb := B.bytes
  have hr := B.returns
  have hts := atoms_spec (ws := wsX12_parted) B.pre
  have hown : s.vm.findClass RX12 = some m.cls := findClass_of_methodNamed B.named
  have hlocks := B.notSynchronized
  subst hsz
  have hD := hD0.self (sz := s.heap.size)
  generalize hAe : va_A [(h0, .inr (11, [.int 0, .ref h1, .int 0, .int 0, .int 0, .int 0, .int 0, .int 0, .int 0, .int 0, .int 0, .int 0, .long 0, .int 0, .ref h2, .ref h3, .ref h4, .ref h5, .ref h6, .ref h7, .ref h8, .ref h9, .ref h10, .int 0, .int 0, .int 0, .int 0, .int (-1), .int (-1), .long 0, .long 0, .ref h11, .ref h12, .int 0, .int (-1), .int 0, .ref h13, .int 0, .ref h14, .ref h15, .int 0, .int 0, .ref h16, .int 0, .int 0, .int 0, .int 0]))] s.heap.size = A at hD hE ⊢
  have hA : ∀ q : Nat, s.heap.size ≤ q → A q := fun q h => by rw [← hAe]; exact Or.inr h
  have hS : va_S A s.heap s.heap [] := va_S.rf
  have hl := lv_entry ([.ref h0, .int 0]) (n := 2) (Nat.le_of_ble_eq_true rfl)
  rw [lg_entry_eq]
  generalize (lg_sl ([.ref h0, .int 0]) ++ List.replicate (2 - (lg_sl ([.ref h0, .int 0])).length) Slot.unset).toArray = ls at hl ⊢
  have hl : lv_has ls 2 [(0, .ref h0), (1, .int 0)] := hl
  refine lv_aload_n hx hb dX12_parted_0 rfl (lv_at hl 0 rfl) ?_
  refine lv_iconst (v := 0) hx hb dX12_parted_1 (by decide) ?_
  refine va_put (D := (dC, dI)) (ci := 11) (v := .int 0) (ty := .int) (C := RX12) (T := TX12) (N := 47) hx hb hts ii_X12_parted_X12 tyX12 tyX12_ok nmX12 hown hK hP hD hS 0 rfl rfl 0 (by decide) (hts _ mm_X12_parted_1) (fun _ h9 => h9) rfl (by decide +kernel) rfl rfl (Nat.le_of_ble_eq_true rfl) dX12_parted_2 (fun H locs hP hD hS => ?_)
  have hP : va_P (dC, dI) vwCl [(h0, .inr (11, [.int 0, .ref h1, .int 0, .int 0, .int 0, .int 0, .int 0, .int 0, .int 0, .int 0, .int 0, .int 0, .long 0, .int 0, .ref h2, .ref h3, .ref h4, .ref h5, .ref h6, .ref h7, .ref h8, .ref h9, .ref h10, .int 0, .int 0, .int 0, .int 0, .int (-1), .int (-1), .long 0, .long 0, .ref h11, .ref h12, .int 0, .int (-1), .int 0, .ref h13, .int 0, .ref h14, .ref h15, .int 0, .int 0, .ref h16, .int 0, .int 0, .int 0, .int 0]))] H := hP
  have hD : va_D A [(h0, .inr (11, [.int 0, .ref h1, .int 0, .int 0, .int 0, .int 0, .int 0, .int 0, .int 0, .int 0, .int 0, .int 0, .long 0, .int 0, .ref h2, .ref h3, .ref h4, .ref h5, .ref h6, .ref h7, .ref h8, .ref h9, .ref h10, .int 0, .int 0, .int 0, .int 0, .int (-1), .int (-1), .long 0, .long 0, .ref h11, .ref h12, .int 0, .int (-1), .int 0, .ref h13, .int 0, .ref h14, .ref h15, .int 0, .int 0, .ref h16, .int 0, .int 0, .int 0, .int 0]))] := hD
  refine lv_aload_n hx hb dX12_parted_5 rfl (lv_at hl 0 rfl) ?_
  refine va_get (D := (dC, dI)) (ci := 11) (v := .int 0) (C := RX12) (T := TX12) (N := 47) hx hb hts ii_X12_parted_X12 hown hK hP 0 rfl rfl 35 (by decide) (hts _ mm_X12_parted_2) (fun _ h9 => h9) rfl dX12_parted_6 ?_
  refine lv_if_eq (tgt := 35) hx hb dX12_parted_9 (by decide) (fun _ => ?_) (fun c1 => absurd (by decide) c1)
  refine lv_iconst (v := (-1)) hx hb dX12_parted_35 (by decide) ?_
  have hP9 := hP.sub (ws' := []) [] rfl
  have hD9 := hD.sub (ws' := []) [] (by decide) rfl
  have hK9 := hK.sub (tys' := []) [] rfl
  refine W.widen (k := 0) (n := 0) (Nat.le_of_ble_eq_true rfl) (Nat.le_of_ble_eq_true rfl) ?_
  exact W.iret (v := (-1)) hx hb hr (fun t ht hW => ⟨⟨(-1), (), rfl, rfl, by rw [ht]; exact hP9, va_K.moved hW.alike hK9, hD9⟩, hS.F ht⟩) hS.2.2 dX12_parted_36
