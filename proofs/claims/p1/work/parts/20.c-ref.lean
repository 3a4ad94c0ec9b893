set_option maxHeartbeats 4000000 in
set_option maxRecDepth 100000 in
theorem k_X12_come_2 (l : Launch) (dC : Nat → ClassId) (dI : Nat → Nat → Nat) (ad : Nat → Nat) (h0 h1 h2 h3 h4 h5 h6 h7 h8 h9 h10 h11 h12 h13 h14 h15 h16 : Nat) (p0 : Int32) (f0 : Nat → Int32) (w0 : ClassId) (sz : Nat) : Met l yX12_come wsX12_come ({ frames := 0, cells := 0, slots := 0, locals := 0 }) (va_Pc [.ref h0, .int p0] (CP (dC, dI) [(h1, .inl (w0, 940, .inl f0)), (h0, .inr (11, [.int 0, .ref h1, .int 8, .int 0, .int 0, .int 0, .int 0, .int 0, .int 0, .int 0, .int 0, .int 0, .long 0, .int 0, .ref h2, .ref h3, .ref h4, .ref h5, .ref h6, .ref h7, .ref h8, .ref h9, .ref h10, .int 0, .int 0, .int 0, .int 0, .int (-1), .int (-1), .long 0, .long 0, .ref h11, .ref h12, .int 0, .int (-1), .int 0, .ref h13, .int 0, .ref h14, .ref h15, .int 0, .int 0, .ref h16, .int 0, .int 0, .int 0, .int 0]))] [(w0, .int)] sz ad)) (va_Qv (fun _ : Unit => True) (fun (_ : Unit) (t : State) => ∃ (F0 : Nat → Int32), CQ (dC, dI) [(h1, .inl (w0, 940, .inl F0)), (h0, .inr (11, [.int 0, .ref h1, .int 12, .int 0, .int 0, .int 0, .int 0, .int 0, .int 0, .int 0, .int 0, .int 0, .long 0, .int 0, .ref h2, .ref h3, .ref h4, .ref h5, .ref h6, .ref h7, .ref h8, .ref h9, .ref h10, .int 0, .int 0, .int 0, .int 0, .int (-1), .int (-1), .long 0, .long 0, .ref h11, .ref h12, .int 0, .int (-1), .int 0, .ref h13, .int 0, .ref h14, .ref h15, .int 0, .int 0, .ref h16, .int 0, .int 0, .int 0, .int 0]))] [] (va_A [(h1, .inl (w0, 940, .inl f0)), (h0, .inr (11, [.int 0, .ref h1, .int 8, .int 0, .int 0, .int 0, .int 0, .int 0, .int 0, .int 0, .int 0, .int 0, .long 0, .int 0, .ref h2, .ref h3, .ref h4, .ref h5, .ref h6, .ref h7, .ref h8, .ref h9, .ref h10, .int 0, .int 0, .int 0, .int 0, .int (-1), .int (-1), .long 0, .long 0, .ref h11, .ref h12, .int 0, .int (-1), .int 0, .ref h13, .int 0, .ref h14, .ref h15, .int 0, .int 0, .ref h16, .int 0, .int 0, .int 0, .int 0]))] sz) t) (va_A [(h1, .inl (w0, 940, .inl f0)), (h0, .inr (11, [.int 0, .ref h1, .int 8, .int 0, .int 0, .int 0, .int 0, .int 0, .int 0, .int 0, .int 0, .int 0, .long 0, .int 0, .ref h2, .ref h3, .ref h4, .ref h5, .ref h6, .ref h7, .ref h8, .ref h9, .ref h10, .int 0, .int 0, .int 0, .int 0, .int (-1), .int (-1), .long 0, .long 0, .ref h11, .ref h12, .int 0, .int (-1), .int 0, .ref h13, .int 0, .ref h14, .ref h15, .int 0, .int 0, .ref h16, .int 0, .int 0, .int 0, .int 0]))] sz)) 0 0 (va_A [(h1, .inl (w0, 940, .inl f0)), (h0, .inr (11, [.int 0, .ref h1, .int 8, .int 0, .int 0, .int 0, .int 0, .int 0, .int 0, .int 0, .int 0, .int 0, .long 0, .int 0, .ref h2, .ref h3, .ref h4, .ref h5, .ref h6, .ref h7, .ref h8, .ref h9, .ref h10, .int 0, .int 0, .int 0, .int 0, .int (-1), .int (-1), .long 0, .long 0, .ref h11, .ref h12, .int 0, .int (-1), .int 0, .ref h13, .int 0, .ref h14, .ref h15, .int 0, .int 0, .ref h16, .int 0, .int 0, .int 0, .int 0]))] sz) := by
  refine Met.ofW (cc := cX12_come) (maxL := 3) (ret := none) (by decide) rfl ?_
  intro p e s m args below meth c s₁ B hml hv
  obtain ⟨rfl, hsz, hP, hK, hD0, hE⟩ := hv
  have hx := B.exec
  have hb := B.bytes
  have hr := B.returns
  have hts := atoms_spec (ws := wsX12_come) B.pre
  have hown : s.vm.findClass RX12 = some m.cls := findClass_of_methodNamed B.named
  have hlocks := B.notSynchronized
  subst hsz
  have hD := hD0.self (sz := s.heap.size)
  generalize hAe : va_A [(h1, .inl (w0, 940, .inl f0)), (h0, .inr (11, [.int 0, .ref h1, .int 8, .int 0, .int 0, .int 0, .int 0, .int 0, .int 0, .int 0, .int 0, .int 0, .long 0, .int 0, .ref h2, .ref h3, .ref h4, .ref h5, .ref h6, .ref h7, .ref h8, .ref h9, .ref h10, .int 0, .int 0, .int 0, .int 0, .int (-1), .int (-1), .long 0, .long 0, .ref h11, .ref h12, .int 0, .int (-1), .int 0, .ref h13, .int 0, .ref h14, .ref h15, .int 0, .int 0, .ref h16, .int 0, .int 0, .int 0, .int 0]))] s.heap.size = A at hD hE ⊢
  have hA : ∀ q : Nat, s.heap.size ≤ q → A q := fun q h => by rw [← hAe]; exact Or.inr h
  have hS : va_S A s.heap s.heap [] := va_S.rf
  have hl := lv_entry ([.ref h0, .int p0]) (n := 3) (Nat.le_of_ble_eq_true rfl)
  rw [lg_entry_eq]
  generalize (lg_sl ([.ref h0, .int p0]) ++ List.replicate (3 - (lg_sl ([.ref h0, .int p0])).length) Slot.unset).toArray = ls at hl ⊢
  have hl : lv_has ls 3 [(0, .ref h0), (1, .int p0)] := hl
  refine lv_bipush (v := 24) hx hb dX12_come_0 (by decide) ?_
  refine lv_istore_n (lv' := [(2, .int 24), (0, .ref h0), (1, .int p0)]) hx hb dX12_come_2 rfl hl (by decide) rfl (fun ls hl => ?_)
  refine lv_iload_n hx hb dX12_come_3 rfl (lv_at hl 0 rfl) ?_
  refine lv_if_lt (tgt := 39) hx hb dX12_come_4 (by decide) (fun c1 => absurd c1 (by decide)) (fun _ => ?_)
  refine lv_aload_n hx hb dX12_come_7 rfl (lv_at hl 1 rfl) ?_
  refine va_get (D := (dC, dI)) (ci := 11) (v := .ref h1) (C := RX12) (T := TX12) (N := 47) hx hb hts ii_X12_come_X12 hown hK hP 1 rfl rfl 1 (by decide) (hts _ mm_X12_come_1) (fun _ h9 => h9) rfl dX12_come_8 ?_
  refine lv_aload_n hx hb dX12_come_11 rfl (lv_at hl 1 rfl) ?_
  refine va_get (D := (dC, dI)) (ci := 11) (v := .int 8) (C := RX12) (T := TX12) (N := 47) hx hb hts ii_X12_come_X12 hown hK hP 1 rfl rfl 2 (by decide) (hts _ mm_X12_come_2) (fun _ h9 => h9) rfl dX12_come_12 ?_
  refine lv_iload_n hx hb dX12_come_15 rfl (lv_at hl 2 rfl) ?_
  refine lv_iload_n hx hb dX12_come_16 rfl (lv_at hl 0 rfl) ?_
  refine lv_iushr hx hb dX12_come_17 rfl ?_
  refine lv_topi (fun z2 ez2 => ?_)
  refine lv_sipush (v := 255) hx hb dX12_come_18 (by decide) ?_
  refine lv_iand hx hb dX12_come_21 ?_
  refine lv_topi (fun z3 ez3 => ?_)
  refine va_iast hx hb hK hP hD hS 0 0 rfl rfl (i := 8) (zz_in (by decide)) dX12_come_22 (fun H locs hP hD hS => ?_)
  have hP : va_P (dC, dI) vwCl [(h1, .inl (w0, 940, .inl (upd f0 8 z3))), (h0, .inr (11, [.int 0, .ref h1, .int 8, .int 0, .int 0, .int 0, .int 0, .int 0, .int 0, .int 0, .int 0, .int 0, .long 0, .int 0, .ref h2, .ref h3, .ref h4, .ref h5, .ref h6, .ref h7, .ref h8, .ref h9, .ref h10, .int 0, .int 0, .int 0, .int 0, .int (-1), .int (-1), .long 0, .long 0, .ref h11, .ref h12, .int 0, .int (-1), .int 0, .ref h13, .int 0, .ref h14, .ref h15, .int 0, .int 0, .ref h16, .int 0, .int 0, .int 0, .int 0]))] H := hP
  have hD : va_D A [(h1, .inl (w0, 940, .inl (upd f0 8 z3))), (h0, .inr (11, [.int 0, .ref h1, .int 8, .int 0, .int 0, .int 0, .int 0, .int 0, .int 0, .int 0, .int 0, .int 0, .long 0, .int 0, .ref h2, .ref h3, .ref h4, .ref h5, .ref h6, .ref h7, .ref h8, .ref h9, .ref h10, .int 0, .int 0, .int 0, .int 0, .int (-1), .int (-1), .long 0, .long 0, .ref h11, .ref h12, .int 0, .int (-1), .int 0, .ref h13, .int 0, .ref h14, .ref h15, .int 0, .int 0, .ref h16, .int 0, .int 0, .int 0, .int 0]))] := hD
  refine lv_aload_n hx hb dX12_come_23 rfl (lv_at hl 1 rfl) ?_
  refine lv_dup hx hb dX12_come_24 rfl ?_
  refine va_get (D := (dC, dI)) (ci := 11) (v := .int 8) (C := RX12) (T := TX12) (N := 47) hx hb hts ii_X12_come_X12 hown hK hP 1 rfl rfl 2 (by decide) (hts _ mm_X12_come_2) (fun _ h9 => h9) rfl dX12_come_25 ?_
  refine lv_iconst (v := 1) hx hb dX12_come_28 (by decide) ?_
  refine lv_iadd hx hb dX12_come_29 ?_
  refine zz_top (v := 9) (by decide) ?_
  refine va_put (D := (dC, dI)) (ci := 11) (v := .int 9) (ty := .int) (C := RX12) (T := TX12) (N := 47) hx hb hts ii_X12_come_X12 tyX12 tyX12_ok nmX12 hown hK hP hD hS 1 rfl rfl 2 (by decide) (hts _ mm_X12_come_2) (fun _ h9 => h9) rfl (by decide +kernel) rfl rfl (Nat.le_of_ble_eq_true rfl) dX12_come_30 (fun H locs hP hD hS => ?_)
  have hP : va_P (dC, dI) vwCl [(h1, .inl (w0, 940, .inl (upd f0 8 z3))), (h0, .inr (11, [.int 0, .ref h1, .int 9, .int 0, .int 0, .int 0, .int 0, .int 0, .int 0, .int 0, .int 0, .int 0, .long 0, .int 0, .ref h2, .ref h3, .ref h4, .ref h5, .ref h6, .ref h7, .ref h8, .ref h9, .ref h10, .int 0, .int 0, .int 0, .int 0, .int (-1), .int (-1), .long 0, .long 0, .ref h11, .ref h12, .int 0, .int (-1), .int 0, .ref h13, .int 0, .ref h14, .ref h15, .int 0, .int 0, .ref h16, .int 0, .int 0, .int 0, .int 0]))] H := hP
  have hD : va_D A [(h1, .inl (w0, 940, .inl (upd f0 8 z3))), (h0, .inr (11, [.int 0, .ref h1, .int 9, .int 0, .int 0, .int 0, .int 0, .int 0, .int 0, .int 0, .int 0, .int 0, .long 0, .int 0, .ref h2, .ref h3, .ref h4, .ref h5, .ref h6, .ref h7, .ref h8, .ref h9, .ref h10, .int 0, .int 0, .int 0, .int 0, .int (-1), .int (-1), .long 0, .long 0, .ref h11, .ref h12, .int 0, .int (-1), .int 0, .ref h13, .int 0, .ref h14, .ref h15, .int 0, .int 0, .ref h16, .int 0, .int 0, .int 0, .int 0]))] := hD
  refine lv_iinc (v := 16) (lv' := [(2, .int 16), (0, .ref h0), (1, .int p0)]) hx hb dX12_come_33 hl (k := 0) rfl (by decide) (by decide) rfl (fun ls hl => ?_)
  refine lv_goto (tgt := 3) hx hb dX12_come_36 (by decide) ?_
  refine lv_iload_n hx hb dX12_come_3 rfl (lv_at hl 0 rfl) ?_
  refine lv_if_lt (tgt := 39) hx hb dX12_come_4 (by decide) (fun c4 => absurd c4 (by decide)) (fun _ => ?_)
  refine lv_aload_n hx hb dX12_come_7 rfl (lv_at hl 1 rfl) ?_
  refine va_get (D := (dC, dI)) (ci := 11) (v := .ref h1) (C := RX12) (T := TX12) (N := 47) hx hb hts ii_X12_come_X12 hown hK hP 1 rfl rfl 1 (by decide) (hts _ mm_X12_come_1) (fun _ h9 => h9) rfl dX12_come_8 ?_
  refine lv_aload_n hx hb dX12_come_11 rfl (lv_at hl 1 rfl) ?_
  refine va_get (D := (dC, dI)) (ci := 11) (v := .int 9) (C := RX12) (T := TX12) (N := 47) hx hb hts ii_X12_come_X12 hown hK hP 1 rfl rfl 2 (by decide) (hts _ mm_X12_come_2) (fun _ h9 => h9) rfl dX12_come_12 ?_
  refine lv_iload_n hx hb dX12_come_15 rfl (lv_at hl 2 rfl) ?_
  refine lv_iload_n hx hb dX12_come_16 rfl (lv_at hl 0 rfl) ?_
  refine lv_iushr hx hb dX12_come_17 rfl ?_
  refine lv_topi (fun z5 ez5 => ?_)
  refine lv_sipush (v := 255) hx hb dX12_come_18 (by decide) ?_
  refine lv_iand hx hb dX12_come_21 ?_
  refine lv_topi (fun z6 ez6 => ?_)
  refine va_iast hx hb hK hP hD hS 0 0 rfl rfl (i := 9) (zz_in (by decide)) dX12_come_22 (fun H locs hP hD hS => ?_)
  have hP : va_P (dC, dI) vwCl [(h1, .inl (w0, 940, .inl (upd (upd f0 8 z3) 9 z6))), (h0, .inr (11, [.int 0, .ref h1, .int 9, .int 0, .int 0, .int 0, .int 0, .int 0, .int 0, .int 0, .int 0, .int 0, .long 0, .int 0, .ref h2, .ref h3, .ref h4, .ref h5, .ref h6, .ref h7, .ref h8, .ref h9, .ref h10, .int 0, .int 0, .int 0, .int 0, .int (-1), .int (-1), .long 0, .long 0, .ref h11, .ref h12, .int 0, .int (-1), .int 0, .ref h13, .int 0, .ref h14, .ref h15, .int 0, .int 0, .ref h16, .int 0, .int 0, .int 0, .int 0]))] H := hP
  have hD : va_D A [(h1, .inl (w0, 940, .inl (upd (upd f0 8 z3) 9 z6))), (h0, .inr (11, [.int 0, .ref h1, .int 9, .int 0, .int 0, .int 0, .int 0, .int 0, .int 0, .int 0, .int 0, .int 0, .long 0, .int 0, .ref h2, .ref h3, .ref h4, .ref h5, .ref h6, .ref h7, .ref h8, .ref h9, .ref h10, .int 0, .int 0, .int 0, .int 0, .int (-1), .int (-1), .long 0, .long 0, .ref h11, .ref h12, .int 0, .int (-1), .int 0, .ref h13, .int 0, .ref h14, .ref h15, .int 0, .int 0, .ref h16, .int 0, .int 0, .int 0, .int 0]))] := hD
  refine lv_aload_n hx hb dX12_come_23 rfl (lv_at hl 1 rfl) ?_
  refine lv_dup hx hb dX12_come_24 rfl ?_
  refine va_get (D := (dC, dI)) (ci := 11) (v := .int 9) (C := RX12) (T := TX12) (N := 47) hx hb hts ii_X12_come_X12 hown hK hP 1 rfl rfl 2 (by decide) (hts _ mm_X12_come_2) (fun _ h9 => h9) rfl dX12_come_25 ?_
  refine lv_iconst (v := 1) hx hb dX12_come_28 (by decide) ?_
  refine lv_iadd hx hb dX12_come_29 ?_
  refine zz_top (v := 10) (by decide) ?_
  refine va_put (D := (dC, dI)) (ci := 11) (v := .int 10) (ty := .int) (C := RX12) (T := TX12) (N := 47) hx hb hts ii_X12_come_X12 tyX12 tyX12_ok nmX12 hown hK hP hD hS 1 rfl rfl 2 (by decide) (hts _ mm_X12_come_2) (fun _ h9 => h9) rfl (by decide +kernel) rfl rfl (Nat.le_of_ble_eq_true rfl) dX12_come_30 (fun H locs hP hD hS => ?_)
  have hP : va_P (dC, dI) vwCl [(h1, .inl (w0, 940, .inl (upd (upd f0 8 z3) 9 z6))), (h0, .inr (11, [.int 0, .ref h1, .int 10, .int 0, .int 0, .int 0, .int 0, .int 0, .int 0, .int 0, .int 0, .int 0, .long 0, .int 0, .ref h2, .ref h3, .ref h4, .ref h5, .ref h6, .ref h7, .ref h8, .ref h9, .ref h10, .int 0, .int 0, .int 0, .int 0, .int (-1), .int (-1), .long 0, .long 0, .ref h11, .ref h12, .int 0, .int (-1), .int 0, .ref h13, .int 0, .ref h14, .ref h15, .int 0, .int 0, .ref h16, .int 0, .int 0, .int 0, .int 0]))] H := hP
  have hD : va_D A [(h1, .inl (w0, 940, .inl (upd (upd f0 8 z3) 9 z6))), (h0, .inr (11, [.int 0, .ref h1, .int 10, .int 0, .int 0, .int 0, .int 0, .int 0, .int 0, .int 0, .int 0, .int 0, .long 0, .int 0, .ref h2, .ref h3, .ref h4, .ref h5, .ref h6, .ref h7, .ref h8, .ref h9, .ref h10, .int 0, .int 0, .int 0, .int 0, .int (-1), .int (-1), .long 0, .long 0, .ref h11, .ref h12, .int 0, .int (-1), .int 0, .ref h13, .int 0, .ref h14, .ref h15, .int 0, .int 0, .ref h16, .int 0, .int 0, .int 0, .int 0]))] := hD
  refine lv_iinc (v := 8) (lv' := [(2, .int 8), (0, .ref h0), (1, .int p0)]) hx hb dX12_come_33 hl (k := 0) rfl (by decide) (by decide) rfl (fun ls hl => ?_)
  refine lv_goto (tgt := 3) hx hb dX12_come_36 (by decide) ?_
  refine lv_iload_n hx hb dX12_come_3 rfl (lv_at hl 0 rfl) ?_
  refine lv_if_lt (tgt := 39) hx hb dX12_come_4 (by decide) (fun c7 => absurd c7 (by decide)) (fun _ => ?_)
  refine lv_aload_n hx hb dX12_come_7 rfl (lv_at hl 1 rfl) ?_
  refine va_get (D := (dC, dI)) (ci := 11) (v := .ref h1) (C := RX12) (T := TX12) (N := 47) hx hb hts ii_X12_come_X12 hown hK hP 1 rfl rfl 1 (by decide) (hts _ mm_X12_come_1) (fun _ h9 => h9) rfl dX12_come_8 ?_
  refine lv_aload_n hx hb dX12_come_11 rfl (lv_at hl 1 rfl) ?_
  refine va_get (D := (dC, dI)) (ci := 11) (v := .int 10) (C := RX12) (T := TX12) (N := 47) hx hb hts ii_X12_come_X12 hown hK hP 1 rfl rfl 2 (by decide) (hts _ mm_X12_come_2) (fun _ h9 => h9) rfl dX12_come_12 ?_
  refine lv_iload_n hx hb dX12_come_15 rfl (lv_at hl 2 rfl) ?_
  refine lv_iload_n hx hb dX12_come_16 rfl (lv_at hl 0 rfl) ?_
  refine lv_iushr hx hb dX12_come_17 rfl ?_
  refine lv_topi (fun z8 ez8 => ?_)
  refine lv_sipush (v := 255) hx hb dX12_come_18 (by decide) ?_
  refine lv_iand hx hb dX12_come_21 ?_
  refine lv_topi (fun z9 ez9 => ?_)
  refine va_iast hx hb hK hP hD hS 0 0 rfl rfl (i := 10) (zz_in (by decide)) dX12_come_22 (fun H locs hP hD hS => ?_)
  have hP : va_P (dC, dI) vwCl [(h1, .inl (w0, 940, .inl (upd (upd (upd f0 8 z3) 9 z6) 10 z9))), (h0, .inr (11, [.int 0, .ref h1, .int 10, .int 0, .int 0, .int 0, .int 0, .int 0, .int 0, .int 0, .int 0, .int 0, .long 0, .int 0, .ref h2, .ref h3, .ref h4, .ref h5, .ref h6, .ref h7, .ref h8, .ref h9, .ref h10, .int 0, .int 0, .int 0, .int 0, .int (-1), .int (-1), .long 0, .long 0, .ref h11, .ref h12, .int 0, .int (-1), .int 0, .ref h13, .int 0, .ref h14, .ref h15, .int 0, .int 0, .ref h16, .int 0, .int 0, .int 0, .int 0]))] H := hP
  have hD : va_D A [(h1, .inl (w0, 940, .inl (upd (upd (upd f0 8 z3) 9 z6) 10 z9))), (h0, .inr (11, [.int 0, .ref h1, .int 10, .int 0, .int 0, .int 0, .int 0, .int 0, .int 0, .int 0, .int 0, .int 0, .long 0, .int 0, .ref h2, .ref h3, .ref h4, .ref h5, .ref h6, .ref h7, .ref h8, .ref h9, .ref h10, .int 0, .int 0, .int 0, .int 0, .int (-1), .int (-1), .long 0, .long 0, .ref h11, .ref h12, .int 0, .int (-1), .int 0, .ref h13, .int 0, .ref h14, .ref h15, .int 0, .int 0, .ref h16, .int 0, .int 0, .int 0, .int 0]))] := hD
  refine lv_aload_n hx hb dX12_come_23 rfl (lv_at hl 1 rfl) ?_
  refine lv_dup hx hb dX12_come_24 rfl ?_
  refine va_get (D := (dC, dI)) (ci := 11) (v := .int 10) (C := RX12) (T := TX12) (N := 47) hx hb hts ii_X12_come_X12 hown hK hP 1 rfl rfl 2 (by decide) (hts _ mm_X12_come_2) (fun _ h9 => h9) rfl dX12_come_25 ?_
  refine lv_iconst (v := 1) hx hb dX12_come_28 (by decide) ?_
  refine lv_iadd hx hb dX12_come_29 ?_
  refine zz_top (v := 11) (by decide) ?_
  refine va_put (D := (dC, dI)) (ci := 11) (v := .int 11) (ty := .int) (C := RX12) (T := TX12) (N := 47) hx hb hts ii_X12_come_X12 tyX12 tyX12_ok nmX12 hown hK hP hD hS 1 rfl rfl 2 (by decide) (hts _ mm_X12_come_2) (fun _ h9 => h9) rfl (by decide +kernel) rfl rfl (Nat.le_of_ble_eq_true rfl) dX12_come_30 (fun H locs hP hD hS => ?_)
  have hP : va_P (dC, dI) vwCl [(h1, .inl (w0, 940, .inl (upd (upd (upd f0 8 z3) 9 z6) 10 z9))), (h0, .inr (11, [.int 0, .ref h1, .int 11, .int 0, .int 0, .int 0, .int 0, .int 0, .int 0, .int 0, .int 0, .int 0, .long 0, .int 0, .ref h2, .ref h3, .ref h4, .ref h5, .ref h6, .ref h7, .ref h8, .ref h9, .ref h10, .int 0, .int 0, .int 0, .int 0, .int (-1), .int (-1), .long 0, .long 0, .ref h11, .ref h12, .int 0, .int (-1), .int 0, .ref h13, .int 0, .ref h14, .ref h15, .int 0, .int 0, .ref h16, .int 0, .int 0, .int 0, .int 0]))] H := hP
  have hD : va_D A [(h1, .inl (w0, 940, .inl (upd (upd (upd f0 8 z3) 9 z6) 10 z9))), (h0, .inr (11, [.int 0, .ref h1, .int 11, .int 0, .int 0, .int 0, .int 0, .int 0, .int 0, .int 0, .int 0, .int 0, .long 0, .int 0, .ref h2, .ref h3, .ref h4, .ref h5, .ref h6, .ref h7, .ref h8, .ref h9, .ref h10, .int 0, .int 0, .int 0, .int 0, .int (-1), .int (-1), .long 0, .long 0, .ref h11, .ref h12, .int 0, .int (-1), .int 0, .ref h13, .int 0, .ref h14, .ref h15, .int 0, .int 0, .ref h16, .int 0, .int 0, .int 0, .int 0]))] := hD
  refine lv_iinc (v := 0) (lv' := [(2, .int 0), (0, .ref h0), (1, .int p0)]) hx hb dX12_come_33 hl (k := 0) rfl (by decide) (by decide) rfl (fun ls hl => ?_)
  refine lv_goto (tgt := 3) hx hb dX12_come_36 (by decide) ?_
  refine lv_iload_n hx hb dX12_come_3 rfl (lv_at hl 0 rfl) ?_
  refine lv_if_lt (tgt := 39) hx hb dX12_come_4 (by decide) (fun c10 => absurd c10 (by decide)) (fun _ => ?_)
  refine lv_aload_n hx hb dX12_come_7 rfl (lv_at hl 1 rfl) ?_
  refine va_get (D := (dC, dI)) (ci := 11) (v := .ref h1) (C := RX12) (T := TX12) (N := 47) hx hb hts ii_X12_come_X12 hown hK hP 1 rfl rfl 1 (by decide) (hts _ mm_X12_come_1) (fun _ h9 => h9) rfl dX12_come_8 ?_
  refine lv_aload_n hx hb dX12_come_11 rfl (lv_at hl 1 rfl) ?_
  refine va_get (D := (dC, dI)) (ci := 11) (v := .int 11) (C := RX12) (T := TX12) (N := 47) hx hb hts ii_X12_come_X12 hown hK hP 1 rfl rfl 2 (by decide) (hts _ mm_X12_come_2) (fun _ h9 => h9) rfl dX12_come_12 ?_
  refine lv_iload_n hx hb dX12_come_15 rfl (lv_at hl 2 rfl) ?_
  refine lv_iload_n hx hb dX12_come_16 rfl (lv_at hl 0 rfl) ?_
  refine lv_iushr hx hb dX12_come_17 rfl ?_
  refine lv_topi (fun z11 ez11 => ?_)
  refine lv_sipush (v := 255) hx hb dX12_come_18 (by decide) ?_
  refine lv_iand hx hb dX12_come_21 ?_
  refine lv_topi (fun z12 ez12 => ?_)
  refine va_iast hx hb hK hP hD hS 0 0 rfl rfl (i := 11) (zz_in (by decide)) dX12_come_22 (fun H locs hP hD hS => ?_)
  have hP : va_P (dC, dI) vwCl [(h1, .inl (w0, 940, .inl (upd (upd (upd (upd f0 8 z3) 9 z6) 10 z9) 11 z12))), (h0, .inr (11, [.int 0, .ref h1, .int 11, .int 0, .int 0, .int 0, .int 0, .int 0, .int 0, .int 0, .int 0, .int 0, .long 0, .int 0, .ref h2, .ref h3, .ref h4, .ref h5, .ref h6, .ref h7, .ref h8, .ref h9, .ref h10, .int 0, .int 0, .int 0, .int 0, .int (-1), .int (-1), .long 0, .long 0, .ref h11, .ref h12, .int 0, .int (-1), .int 0, .ref h13, .int 0, .ref h14, .ref h15, .int 0, .int 0, .ref h16, .int 0, .int 0, .int 0, .int 0]))] H := hP
  have hD : va_D A [(h1, .inl (w0, 940, .inl (upd (upd (upd (upd f0 8 z3) 9 z6) 10 z9) 11 z12))), (h0, .inr (11, [.int 0, .ref h1, .int 11, .int 0, .int 0, .int 0, .int 0, .int 0, .int 0, .int 0, .int 0, .int 0, .long 0, .int 0, .ref h2, .ref h3, .ref h4, .ref h5, .ref h6, .ref h7, .ref h8, .ref h9, .ref h10, .int 0, .int 0, .int 0, .int 0, .int (-1), .int (-1), .long 0, .long 0, .ref h11, .ref h12, .int 0, .int (-1), .int 0, .ref h13, .int 0, .ref h14, .ref h15, .int 0, .int 0, .ref h16, .int 0, .int 0, .int 0, .int 0]))] := hD
  refine lv_aload_n hx hb dX12_come_23 rfl (lv_at hl 1 rfl) ?_
  refine lv_dup hx hb dX12_come_24 rfl ?_
  refine va_get (D := (dC, dI)) (ci := 11) (v := .int 11) (C := RX12) (T := TX12) (N := 47) hx hb hts ii_X12_come_X12 hown hK hP 1 rfl rfl 2 (by decide) (hts _ mm_X12_come_2) (fun _ h9 => h9) rfl dX12_come_25 ?_
  refine lv_iconst (v := 1) hx hb dX12_come_28 (by decide) ?_
  refine lv_iadd hx hb dX12_come_29 ?_
  refine zz_top (v := 12) (by decide) ?_
  refine va_put (D := (dC, dI)) (ci := 11) (v := .int 12) (ty := .int) (C := RX12) (T := TX12) (N := 47) hx hb hts ii_X12_come_X12 tyX12 tyX12_ok nmX12 hown hK hP hD hS 1 rfl rfl 2 (by decide) (hts _ mm_X12_come_2) (fun _ h9 => h9) rfl (by decide +kernel) rfl rfl (Nat.le_of_ble_eq_true rfl) dX12_come_30 (fun H locs hP hD hS => ?_)
  have hP : va_P (dC, dI) vwCl [(h1, .inl (w0, 940, .inl (upd (upd (upd (upd f0 8 z3) 9 z6) 10 z9) 11 z12))), (h0, .inr (11, [.int 0, .ref h1, .int 12, .int 0, .int 0, .int 0, .int 0, .int 0, .int 0, .int 0, .int 0, .int 0, .long 0, .int 0, .ref h2, .ref h3, .ref h4, .ref h5, .ref h6, .ref h7, .ref h8, .ref h9, .ref h10, .int 0, .int 0, .int 0, .int 0, .int (-1), .int (-1), .long 0, .long 0, .ref h11, .ref h12, .int 0, .int (-1), .int 0, .ref h13, .int 0, .ref h14, .ref h15, .int 0, .int 0, .ref h16, .int 0, .int 0, .int 0, .int 0]))] H := hP
  have hD : va_D A [(h1, .inl (w0, 940, .inl (upd (upd (upd (upd f0 8 z3) 9 z6) 10 z9) 11 z12))), (h0, .inr (11, [.int 0, .ref h1, .int 12, .int 0, .int 0, .int 0, .int 0, .int 0, .int 0, .int 0, .int 0, .int 0, .long 0, .int 0, .ref h2, .ref h3, .ref h4, .ref h5, .ref h6, .ref h7, .ref h8, .ref h9, .ref h10, .int 0, .int 0, .int 0, .int 0, .int (-1), .int (-1), .long 0, .long 0, .ref h11, .ref h12, .int 0, .int (-1), .int 0, .ref h13, .int 0, .ref h14, .ref h15, .int 0, .int 0, .ref h16, .int 0, .int 0, .int 0, .int 0]))] := hD
  refine lv_iinc (v := (-8)) (lv' := [(2, .int (-8)), (0, .ref h0), (1, .int p0)]) hx hb dX12_come_33 hl (k := 0) rfl (by decide) (by decide) rfl (fun ls hl => ?_)
  refine lv_goto (tgt := 3) hx hb dX12_come_36 (by decide) ?_
  refine lv_iload_n hx hb dX12_come_3 rfl (lv_at hl 0 rfl) ?_
  refine lv_if_lt (tgt := 39) hx hb dX12_come_4 (by decide) (fun _ => ?_) (fun c13 => absurd (by decide) c13)
  have hP9 := hP.sub (ws' := [(h1, .inl (w0, 940, .inl (upd (upd (upd (upd f0 8 z3) 9 z6) 10 z9) 11 z12))), (h0, .inr (11, [.int 0, .ref h1, .int 12, .int 0, .int 0, .int 0, .int 0, .int 0, .int 0, .int 0, .int 0, .int 0, .long 0, .int 0, .ref h2, .ref h3, .ref h4, .ref h5, .ref h6, .ref h7, .ref h8, .ref h9, .ref h10, .int 0, .int 0, .int 0, .int 0, .int (-1), .int (-1), .long 0, .long 0, .ref h11, .ref h12, .int 0, .int (-1), .int 0, .ref h13, .int 0, .ref h14, .ref h15, .int 0, .int 0, .ref h16, .int 0, .int 0, .int 0, .int 0]))]) [0, 1] rfl
  have hD9 := hD.sub (ws' := [(h1, .inl (w0, 940, .inl (upd (upd (upd (upd f0 8 z3) 9 z6) 10 z9) 11 z12))), (h0, .inr (11, [.int 0, .ref h1, .int 12, .int 0, .int 0, .int 0, .int 0, .int 0, .int 0, .int 0, .int 0, .int 0, .long 0, .int 0, .ref h2, .ref h3, .ref h4, .ref h5, .ref h6, .ref h7, .ref h8, .ref h9, .ref h10, .int 0, .int 0, .int 0, .int 0, .int (-1), .int (-1), .long 0, .long 0, .ref h11, .ref h12, .int 0, .int (-1), .int 0, .ref h13, .int 0, .ref h14, .ref h15, .int 0, .int 0, .ref h16, .int 0, .int 0, .int 0, .int 0]))]) [0, 1] (by decide) rfl
  have hK9 := hK.sub (tys' := []) [] rfl
  refine W.widen (k := 0) (n := 0) (Nat.le_of_ble_eq_true rfl) (Nat.le_of_ble_eq_true rfl) ?_
  exact W.vret hx hb hr (fun t ht hW => ⟨⟨(), rfl, trivial, (upd (upd (upd (upd f0 8 z3) 9 z6) 10 z9) 11 z12), by rw [ht]; exact hP9, va_K.moved hW.alike hK9, hD9⟩, hS.F ht⟩) hS.2.2 dX12_come_39
set_option maxHeartbeats 4000000 in
set_option maxRecDepth 100000 in
theorem k_X12_come_3 (l : Launch) (dC : Nat → ClassId) (dI : Nat → Nat → Nat) (ad : Nat → Nat) (h0 h1 h2 h3 h4 h5 h6 h7 h8 h9 h10 h11 h12 h13 h14 h15 h16 : Nat) (p0 : Int32) (f0 : Nat → Int32) (w0 : ClassId) (sz : Nat) : Met l yX12_come wsX12_come ({ frames := 0, cells := 0, slots := 0, locals := 0 }) (va_Pc [.ref h0, .int p0] (CP (dC, dI) [(h1, .inl (w0, 940, .inl f0)), (h0, .inr (11, [.int 0, .ref h1, .int 12, .int 0, .int 0, .int 0, .int 0, .int 0, .int 0, .int 0, .int 0, .int 0, .long 0, .int 0, .ref h2, .ref h3, .ref h4, .ref h5, .ref h6, .ref h7, .ref h8, .ref h9, .ref h10, .int 0, .int 0, .int 0, .int 0, .int (-1), .int (-1), .long 0, .long 0, .ref h11, .ref h12, .int 0, .int (-1), .int 0, .ref h13, .int 0, .ref h14, .ref h15, .int 0, .int 0, .ref h16, .int 0, .int 0, .int 0, .int 0]))] [(w0, .int)] sz ad)) (va_Qv (fun _ : Unit => True) (fun (_ : Unit) (t : State) => ∃ (F0 : Nat → Int32), CQ (dC, dI) [(h1, .inl (w0, 940, .inl F0)), (h0, .inr (11, [.int 0, .ref h1, .int 16, .int 0, .int 0, .int 0, .int 0, .int 0, .int 0, .int 0, .int 0, .int 0, .long 0, .int 0, .ref h2, .ref h3, .ref h4, .ref h5, .ref h6, .ref h7, .ref h8, .ref h9, .ref h10, .int 0, .int 0, .int 0, .int 0, .int (-1), .int (-1), .long 0, .long 0, .ref h11, .ref h12, .int 0, .int (-1), .int 0, .ref h13, .int 0, .ref h14, .ref h15, .int 0, .int 0, .ref h16, .int 0, .int 0, .int 0, .int 0]))] [] (va_A [(h1, .inl (w0, 940, .inl f0)), (h0, .inr (11, [.int 0, .ref h1, .int 12, .int 0, .int 0, .int 0, .int 0, .int 0, .int 0, .int 0, .int 0, .int 0, .long 0, .int 0, .ref h2, .ref h3, .ref h4, .ref h5, .ref h6, .ref h7, .ref h8, .ref h9, .ref h10, .int 0, .int 0, .int 0, .int 0, .int (-1), .int (-1), .long 0, .long 0, .ref h11, .ref h12, .int 0, .int (-1), .int 0, .ref h13, .int 0, .ref h14, .ref h15, .int 0, .int 0, .ref h16, .int 0, .int 0, .int 0, .int 0]))] sz) t) (va_A [(h1, .inl (w0, 940, .inl f0)), (h0, .inr (11, [.int 0, .ref h1, .int 12, .int 0, .int 0, .int 0, .int 0, .int 0, .int 0, .int 0, .int 0, .int 0, .long 0, .int 0, .ref h2, .ref h3, .ref h4, .ref h5, .ref h6, .ref h7, .ref h8, .ref h9, .ref h10, .int 0, .int 0, .int 0, .int 0, .int (-1), .int (-1), .long 0, .long 0, .ref h11, .ref h12, .int 0, .int (-1), .int 0, .ref h13, .int 0, .ref h14, .ref h15, .int 0, .int 0, .ref h16, .int 0, .int 0, .int 0, .int 0]))] sz)) 0 0 (va_A [(h1, .inl (w0, 940, .inl f0)), (h0, .inr (11, [.int 0, .ref h1, .int 12, .int 0, .int 0, .int 0, .int 0, .int 0, .int 0, .int 0, .int 0, .int 0, .long 0, .int 0, .ref h2, .ref h3, .ref h4, .ref h5, .ref h6, .ref h7, .ref h8, .ref h9, .ref h10, .int 0, .int 0, .int 0, .int 0, .int (-1), .int (-1), .long 0, .long 0, .ref h11, .ref h12, .int 0, .int (-1), .int 0, .ref h13, .int 0, .ref h14, .ref h15, .int 0, .int 0, .ref h16, .int 0, .int 0, .int 0, .int 0]))] sz) := by
  refine Met.ofW (cc := cX12_come) (maxL := 3) (ret := none) (by decide) rfl ?_
  intro p e s m args below meth c s₁ B hml hv
  obtain ⟨rfl, hsz, hP, hK, hD0, hE⟩ := hv
  have hx := B.exec
  have hb := B.bytes
  have hr := B.returns
  have hts := atoms_spec (ws := wsX12_come) B.pre
  have hown : s.vm.findClass RX12 = some m.cls := findClass_of_methodNamed B.named
  have hlocks := B.notSynchronized
  subst hsz
  have hD := hD0.self (sz := s.heap.size)
  generalize hAe : va_A [(h1, .inl (w0, 940, .inl f0)), (h0, .inr (11, [.int 0, .ref h1, .int 12, .int 0, .int 0, .int 0, .int 0, .int 0, .int 0, .int 0, .int 0, .int 0, .long 0, .int 0, .ref h2, .ref h3, .ref h4, .ref h5, .ref h6, .ref h7, .ref h8, .ref h9, .ref h10, .int 0, .int 0, .int 0, .int 0, .int (-1), .int (-1), .long 0, .long 0, .ref h11, .ref h12, .int 0, .int (-1), .int 0, .ref h13, .int 0, .ref h14, .ref h15, .int 0, .int 0, .ref h16, .int 0, .int 0, .int 0, .int 0]))] s.heap.size = A at hD hE ⊢
  have hA : ∀ q : Nat, s.heap.size ≤ q → A q := fun q h => by rw [← hAe]; exact Or.inr h
  have hS : va_S A s.heap s.heap [] := va_S.rf
  have hl := lv_entry ([.ref h0, .int p0]) (n := 3) (Nat.le_of_ble_eq_true rfl)
  rw [lg_entry_eq]
  generalize (lg_sl ([.ref h0, .int p0]) ++ List.replicate (3 - (lg_sl ([.ref h0, .int p0])).length) Slot.unset).toArray = ls at hl ⊢
  have hl : lv_has ls 3 [(0, .ref h0), (1, .int p0)] := hl
  refine lv_bipush (v := 24) hx hb dX12_come_0 (by decide) ?_
  refine lv_istore_n (lv' := [(2, .int 24), (0, .ref h0), (1, .int p0)]) hx hb dX12_come_2 rfl hl (by decide) rfl (fun ls hl => ?_)
  refine lv_iload_n hx hb dX12_come_3 rfl (lv_at hl 0 rfl) ?_
  refine lv_if_lt (tgt := 39) hx hb dX12_come_4 (by decide) (fun c1 => absurd c1 (by decide)) (fun _ => ?_)
  refine lv_aload_n hx hb dX12_come_7 rfl (lv_at hl 1 rfl) ?_
  refine va_get (D := (dC, dI)) (ci := 11) (v := .ref h1) (C := RX12) (T := TX12) (N := 47) hx hb hts ii_X12_come_X12 hown hK hP 1 rfl rfl 1 (by decide) (hts _ mm_X12_come_1) (fun _ h9 => h9) rfl dX12_come_8 ?_
  refine lv_aload_n hx hb dX12_come_11 rfl (lv_at hl 1 rfl) ?_
  refine va_get (D := (dC, dI)) (ci := 11) (v := .int 12) (C := RX12) (T := TX12) (N := 47) hx hb hts ii_X12_come_X12 hown hK hP 1 rfl rfl 2 (by decide) (hts _ mm_X12_come_2) (fun _ h9 => h9) rfl dX12_come_12 ?_
  refine lv_iload_n hx hb dX12_come_15 rfl (lv_at hl 2 rfl) ?_
  refine lv_iload_n hx hb dX12_come_16 rfl (lv_at hl 0 rfl) ?_
  refine lv_iushr hx hb dX12_come_17 rfl ?_
  refine lv_topi (fun z2 ez2 => ?_)
  refine lv_sipush (v := 255) hx hb dX12_come_18 (by decide) ?_
  refine lv_iand hx hb dX12_come_21 ?_
  refine lv_topi (fun z3 ez3 => ?_)
  refine va_iast hx hb hK hP hD hS 0 0 rfl rfl (i := 12) (zz_in (by decide)) dX12_come_22 (fun H locs hP hD hS => ?_)
  have hP : va_P (dC, dI) vwCl [(h1, .inl (w0, 940, .inl (upd f0 12 z3))), (h0, .inr (11, [.int 0, .ref h1, .int 12, .int 0, .int 0, .int 0, .int 0, .int 0, .int 0, .int 0, .int 0, .int 0, .long 0, .int 0, .ref h2, .ref h3, .ref h4, .ref h5, .ref h6, .ref h7, .ref h8, .ref h9, .ref h10, .int 0, .int 0, .int 0, .int 0, .int (-1), .int (-1), .long 0, .long 0, .ref h11, .ref h12, .int 0, .int (-1), .int 0, .ref h13, .int 0, .ref h14, .ref h15, .int 0, .int 0, .ref h16, .int 0, .int 0, .int 0, .int 0]))] H := hP
  have hD : va_D A [(h1, .inl (w0, 940, .inl (upd f0 12 z3))), (h0, .inr (11, [.int 0, .ref h1, .int 12, .int 0, .int 0, .int 0, .int 0, .int 0, .int 0, .int 0, .int 0, .int 0, .long 0, .int 0, .ref h2, .ref h3, .ref h4, .ref h5, .ref h6, .ref h7, .ref h8, .ref h9, .ref h10, .int 0, .int 0, .int 0, .int 0, .int (-1), .int (-1), .long 0, .long 0, .ref h11, .ref h12, .int 0, .int (-1), .int 0, .ref h13, .int 0, .ref h14, .ref h15, .int 0, .int 0, .ref h16, .int 0, .int 0, .int 0, .int 0]))] := hD
  refine lv_aload_n hx hb dX12_come_23 rfl (lv_at hl 1 rfl) ?_
  refine lv_dup hx hb dX12_come_24 rfl ?_
  refine va_get (D := (dC, dI)) (ci := 11) (v := .int 12) (C := RX12) (T := TX12) (N := 47) hx hb hts ii_X12_come_X12 hown hK hP 1 rfl rfl 2 (by decide) (hts _ mm_X12_come_2) (fun _ h9 => h9) rfl dX12_come_25 ?_
  refine lv_iconst (v := 1) hx hb dX12_come_28 (by decide) ?_
  refine lv_iadd hx hb dX12_come_29 ?_
  refine zz_top (v := 13) (by decide) ?_
  refine va_put (D := (dC, dI)) (ci := 11) (v := .int 13) (ty := .int) (C := RX12) (T := TX12) (N := 47) hx hb hts ii_X12_come_X12 tyX12 tyX12_ok nmX12 hown hK hP hD hS 1 rfl rfl 2 (by decide) (hts _ mm_X12_come_2) (fun _ h9 => h9) rfl (by decide +kernel) rfl rfl (Nat.le_of_ble_eq_true rfl) dX12_come_30 (fun H locs hP hD hS => ?_)
  have hP : va_P (dC, dI) vwCl [(h1, .inl (w0, 940, .inl (upd f0 12 z3))), (h0, .inr (11, [.int 0, .ref h1, .int 13, .int 0, .int 0, .int 0, .int 0, .int 0, .int 0, .int 0, .int 0, .int 0, .long 0, .int 0, .ref h2, .ref h3, .ref h4, .ref h5, .ref h6, .ref h7, .ref h8, .ref h9, .ref h10, .int 0, .int 0, .int 0, .int 0, .int (-1), .int (-1), .long 0, .long 0, .ref h11, .ref h12, .int 0, .int (-1), .int 0, .ref h13, .int 0, .ref h14, .ref h15, .int 0, .int 0, .ref h16, .int 0, .int 0, .int 0, .int 0]))] H := hP
  have hD : va_D A [(h1, .inl (w0, 940, .inl (upd f0 12 z3))), (h0, .inr (11, [.int 0, .ref h1, .int 13, .int 0, .int 0, .int 0, .int 0, .int 0, .int 0, .int 0, .int 0, .int 0, .long 0, .int 0, .ref h2, .ref h3, .ref h4, .ref h5, .ref h6, .ref h7, .ref h8, .ref h9, .ref h10, .int 0, .int 0, .int 0, .int 0, .int (-1), .int (-1), .long 0, .long 0, .ref h11, .ref h12, .int 0, .int (-1), .int 0, .ref h13, .int 0, .ref h14, .ref h15, .int 0, .int 0, .ref h16, .int 0, .int 0, .int 0, .int 0]))] := hD
  refine lv_iinc (v := 16) (lv' := [(2, .int 16), (0, .ref h0), (1, .int p0)]) hx hb dX12_come_33 hl (k := 0) rfl (by decide) (by decide) rfl (fun ls hl => ?_)
  refine lv_goto (tgt := 3) hx hb dX12_come_36 (by decide) ?_
  refine lv_iload_n hx hb dX12_come_3 rfl (lv_at hl 0 rfl) ?_
  refine lv_if_lt (tgt := 39) hx hb dX12_come_4 (by decide) (fun c4 => absurd c4 (by decide)) (fun _ => ?_)
  refine lv_aload_n hx hb dX12_come_7 rfl (lv_at hl 1 rfl) ?_
  refine va_get (D := (dC, dI)) (ci := 11) (v := .ref h1) (C := RX12) (T := TX12) (N := 47) hx hb hts ii_X12_come_X12 hown hK hP 1 rfl rfl 1 (by decide) (hts _ mm_X12_come_1) (fun _ h9 => h9) rfl dX12_come_8 ?_
  refine lv_aload_n hx hb dX12_come_11 rfl (lv_at hl 1 rfl) ?_
  refine va_get (D := (dC, dI)) (ci := 11) (v := .int 13) (C := RX12) (T := TX12) (N := 47) hx hb hts ii_X12_come_X12 hown hK hP 1 rfl rfl 2 (by decide) (hts _ mm_X12_come_2) (fun _ h9 => h9) rfl dX12_come_12 ?_
  refine lv_iload_n hx hb dX12_come_15 rfl (lv_at hl 2 rfl) ?_
  refine lv_iload_n hx hb dX12_come_16 rfl (lv_at hl 0 rfl) ?_
  refine lv_iushr hx hb dX12_come_17 rfl ?_
  refine lv_topi (fun z5 ez5 => ?_)
  refine lv_sipush (v := 255) hx hb dX12_come_18 (by decide) ?_
  refine lv_iand hx hb dX12_come_21 ?_
  refine lv_topi (fun z6 ez6 => ?_)
  refine va_iast hx hb hK hP hD hS 0 0 rfl rfl (i := 13) (zz_in (by decide)) dX12_come_22 (fun H locs hP hD hS => ?_)
  have hP : va_P (dC, dI) vwCl [(h1, .inl (w0, 940, .inl (upd (upd f0 12 z3) 13 z6))), (h0, .inr (11, [.int 0, .ref h1, .int 13, .int 0, .int 0, .int 0, .int 0, .int 0, .int 0, .int 0, .int 0, .int 0, .long 0, .int 0, .ref h2, .ref h3, .ref h4, .ref h5, .ref h6, .ref h7, .ref h8, .ref h9, .ref h10, .int 0, .int 0, .int 0, .int 0, .int (-1), .int (-1), .long 0, .long 0, .ref h11, .ref h12, .int 0, .int (-1), .int 0, .ref h13, .int 0, .ref h14, .ref h15, .int 0, .int 0, .ref h16, .int 0, .int 0, .int 0, .int 0]))] H := hP
  have hD : va_D A [(h1, .inl (w0, 940, .inl (upd (upd f0 12 z3) 13 z6))), (h0, .inr (11, [.int 0, .ref h1, .int 13, .int 0, .int 0, .int 0, .int 0, .int 0, .int 0, .int 0, .int 0, .int 0, .long 0, .int 0, .ref h2, .ref h3, .ref h4, .ref h5, .ref h6, .ref h7, .ref h8, .ref h9, .ref h10, .int 0, .int 0, .int 0, .int 0, .int (-1), .int (-1), .long 0, .long 0, .ref h11, .ref h12, .int 0, .int (-1), .int 0, .ref h13, .int 0, .ref h14, .ref h15, .int 0, .int 0, .ref h16, .int 0, .int 0, .int 0, .int 0]))] := hD
  refine lv_aload_n hx hb dX12_come_23 rfl (lv_at hl 1 rfl) ?_
  refine lv_dup hx hb dX12_come_24 rfl ?_
  refine va_get (D := (dC, dI)) (ci := 11) (v := .int 13) (C := RX12) (T := TX12) (N := 47) hx hb hts ii_X12_come_X12 hown hK hP 1 rfl rfl 2 (by decide) (hts _ mm_X12_come_2) (fun _ h9 => h9) rfl dX12_come_25 ?_
  refine lv_iconst (v := 1) hx hb dX12_come_28 (by decide) ?_
  refine lv_iadd hx hb dX12_come_29 ?_
  refine zz_top (v := 14) (by decide) ?_
  refine va_put (D := (dC, dI)) (ci := 11) (v := .int 14) (ty := .int) (C := RX12) (T := TX12) (N := 47) hx hb hts ii_X12_come_X12 tyX12 tyX12_ok nmX12 hown hK hP hD hS 1 rfl rfl 2 (by decide) (hts _ mm_X12_come_2) (fun _ h9 => h9) rfl (by decide +kernel) rfl rfl (Nat.le_of_ble_eq_true rfl) dX12_come_30 (fun H locs hP hD hS => ?_)
  have hP : va_P (dC, dI) vwCl [(h1, .inl (w0, 940, .inl (upd (upd f0 12 z3) 13 z6))), (h0, .inr (11, [.int 0, .ref h1, .int 14, .int 0, .int 0, .int 0, .int 0, .int 0, .int 0, .int 0, .int 0, .int 0, .long 0, .int 0, .ref h2, .ref h3, .ref h4, .ref h5, .ref h6, .ref h7, .ref h8, .ref h9, .ref h10, .int 0, .int 0, .int 0, .int 0, .int (-1), .int (-1), .long 0, .long 0, .ref h11, .ref h12, .int 0, .int (-1), .int 0, .ref h13, .int 0, .ref h14, .ref h15, .int 0, .int 0, .ref h16, .int 0, .int 0, .int 0, .int 0]))] H := hP
  have hD : va_D A [(h1, .inl (w0, 940, .inl (upd (upd f0 12 z3) 13 z6))), (h0, .inr (11, [.int 0, .ref h1, .int 14, .int 0, .int 0, .int 0, .int 0, .int 0, .int 0, .int 0, .int 0, .int 0, .long 0, .int 0, .ref h2, .ref h3, .ref h4, .ref h5, .ref h6, .ref h7, .ref h8, .ref h9, .ref h10, .int 0, .int 0, .int 0, .int 0, .int (-1), .int (-1), .long 0, .long 0, .ref h11, .ref h12, .int 0, .int (-1), .int 0, .ref h13, .int 0, .ref h14, .ref h15, .int 0, .int 0, .ref h16, .int 0, .int 0, .int 0, .int 0]))] := hD
  refine lv_iinc (v := 8) (lv' := [(2, .int 8), (0, .ref h0), (1, .int p0)]) hx hb dX12_come_33 hl (k := 0) rfl (by decide) (by decide) rfl (fun ls hl => ?_)
  refine lv_goto (tgt := 3) hx hb dX12_come_36 (by decide) ?_
  refine lv_iload_n hx hb dX12_come_3 rfl (lv_at hl 0 rfl) ?_
  refine lv_if_lt (tgt := 39) hx hb dX12_come_4 (by decide) (fun c7 => absurd c7 (by decide)) (fun _ => ?_)
  refine lv_aload_n hx hb dX12_come_7 rfl (lv_at hl 1 rfl) ?_
  refine va_get (D := (dC, dI)) (ci := 11) (v := .ref h1) (C := RX12) (T := TX12) (N := 47) hx hb hts ii_X12_come_X12 hown hK hP 1 rfl rfl 1 (by decide) (hts _ mm_X12_come_1) (fun _ h9 => h9) rfl dX12_come_8 ?_
  refine lv_aload_n hx hb dX12_come_11 rfl (lv_at hl 1 rfl) ?_
  refine va_get (D := (dC, dI)) (ci := 11) (v := .int 14) (C := RX12) (T := TX12) (N := 47) hx hb hts ii_X12_come_X12 hown hK hP 1 rfl rfl 2 (by decide) (hts _ mm_X12_come_2) (fun _ h9 => h9) rfl dX12_come_12 ?_
  refine lv_iload_n hx hb dX12_come_15 rfl (lv_at hl 2 rfl) ?_
  refine lv_iload_n hx hb dX12_come_16 rfl (lv_at hl 0 rfl) ?_
  refine lv_iushr hx hb dX12_come_17 rfl ?_
  refine lv_topi (fun z8 ez8 => ?_)
  refine lv_sipush (v := 255) hx hb dX12_come_18 (by decide) ?_
  refine lv_iand hx hb dX12_come_21 ?_
  refine lv_topi (fun z9 ez9 => ?_)
  refine va_iast hx hb hK hP hD hS 0 0 rfl rfl (i := 14) (zz_in (by decide)) dX12_come_22 (fun H locs hP hD hS => ?_)
  have hP : va_P (dC, dI) vwCl [(h1, .inl (w0, 940, .inl (upd (upd (upd f0 12 z3) 13 z6) 14 z9))), (h0, .inr (11, [.int 0, .ref h1, .int 14, .int 0, .int 0, .int 0, .int 0, .int 0, .int 0, .int 0, .int 0, .int 0, .long 0, .int 0, .ref h2, .ref h3, .ref h4, .ref h5, .ref h6, .ref h7, .ref h8, .ref h9, .ref h10, .int 0, .int 0, .int 0, .int 0, .int (-1), .int (-1), .long 0, .long 0, .ref h11, .ref h12, .int 0, .int (-1), .int 0, .ref h13, .int 0, .ref h14, .ref h15, .int 0, .int 0, .ref h16, .int 0, .int 0, .int 0, .int 0]))] H := hP
  have hD : va_D A [(h1, .inl (w0, 940, .inl (upd (upd (upd f0 12 z3) 13 z6) 14 z9))), (h0, .inr (11, [.int 0, .ref h1, .int 14, .int 0, .int 0, .int 0, .int 0, .int 0, .int 0, .int 0, .int 0, .int 0, .long 0, .int 0, .ref h2, .ref h3, .ref h4, .ref h5, .ref h6, .ref h7, .ref h8, .ref h9, .ref h10, .int 0, .int 0, .int 0, .int 0, .int (-1), .int (-1), .long 0, .long 0, .ref h11, .ref h12, .int 0, .int (-1), .int 0, .ref h13, .int 0, .ref h14, .ref h15, .int 0, .int 0, .ref h16, .int 0, .int 0, .int 0, .int 0]))] := hD
  refine lv_aload_n hx hb dX12_come_23 rfl (lv_at hl 1 rfl) ?_
  refine lv_dup hx hb dX12_come_24 rfl ?_
  refine va_get (D := (dC, dI)) (ci := 11) (v := .int 14) (C := RX12) (T := TX12) (N := 47) hx hb hts ii_X12_come_X12 hown hK hP 1 rfl rfl 2 (by decide) (hts _ mm_X12_come_2) (fun _ h9 => h9) rfl dX12_come_25 ?_
  refine lv_iconst (v := 1) hx hb dX12_come_28 (by decide) ?_
  refine lv_iadd hx hb dX12_come_29 ?_
  refine zz_top (v := 15) (by decide) ?_
  refine va_put (D := (dC, dI)) (ci := 11) (v := .int 15) (ty := .int) (C := RX12) (T := TX12) (N := 47) hx hb hts ii_X12_come_X12 tyX12 tyX12_ok nmX12 hown hK hP hD hS 1 rfl rfl 2 (by decide) (hts _ mm_X12_come_2) (fun _ h9 => h9) rfl (by decide +kernel) rfl rfl (Nat.le_of_ble_eq_true rfl) dX12_come_30 (fun H locs hP hD hS => ?_)
  have hP : va_P (dC, dI) vwCl [(h1, .inl (w0, 940, .inl (upd (upd (upd f0 12 z3) 13 z6) 14 z9))), (h0, .inr (11, [.int 0, .ref h1, .int 15, .int 0, .int 0, .int 0, .int 0, .int 0, .int 0, .int 0, .int 0, .int 0, .long 0, .int 0, .ref h2, .ref h3, .ref h4, .ref h5, .ref h6, .ref h7, .ref h8, .ref h9, .ref h10, .int 0, .int 0, .int 0, .int 0, .int (-1), .int (-1), .long 0, .long 0, .ref h11, .ref h12, .int 0, .int (-1), .int 0, .ref h13, .int 0, .ref h14, .ref h15, .int 0, .int 0, .ref h16, .int 0, .int 0, .int 0, .int 0]))] H := hP
  have hD : va_D A [(h1, .inl (w0, 940, .inl (upd (upd (upd f0 12 z3) 13 z6) 14 z9))), (h0, .inr (11, [.int 0, .ref h1, .int 15, .int 0, .int 0, .int 0, .int 0, .int 0, .int 0, .int 0, .int 0, .int 0, .long 0, .int 0, .ref h2, .ref h3, .ref h4, .ref h5, .ref h6, .ref h7, .ref h8, .ref h9, .ref h10, .int 0, .int 0, .int 0, .int 0, .int (-1), .int (-1), .long 0, .long 0, .ref h11, .ref h12, .int 0, .int (-1), .int 0, .ref h13, .int 0, .ref h14, .ref h15, .int 0, .int 0, .ref h16, .int 0, .int 0, .int 0, .int 0]))] := hD
  refine lv_iinc (v := 0) (lv' := [(2, .int 0), (0, .ref h0), (1, .int p0)]) hx hb dX12_come_33 hl (k := 0) rfl (by decide) (by decide) rfl (fun ls hl => ?_)
  refine lv_goto (tgt := 3) hx hb dX12_come_36 (by decide) ?_
  refine lv_iload_n hx hb dX12_come_3 rfl (lv_at hl 0 rfl) ?_
  refine lv_if_lt (tgt := 39) hx hb dX12_come_4 (by decide) (fun c10 => absurd c10 (by decide)) (fun _ => ?_)
  refine lv_aload_n hx hb dX12_come_7 rfl (lv_at hl 1 rfl) ?_
  refine va_get (D := (dC, dI)) (ci := 11) (v := .ref h1) (C := RX12) (T := TX12) (N := 47) hx hb hts ii_X12_come_X12 hown hK hP 1 rfl rfl 1 (by decide) (hts _ mm_X12_come_1) (fun _ h9 => h9) rfl dX12_come_8 ?_
  refine lv_aload_n hx hb dX12_come_11 rfl (lv_at hl 1 rfl) ?_
  refine va_get (D := (dC, dI)) (ci := 11) (v := .int 15) (C := RX12) (T := TX12) (N := 47) hx hb hts ii_X12_come_X12 hown hK hP 1 rfl rfl 2 (by decide) (hts _ mm_X12_come_2) (fun _ h9 => h9) rfl dX12_come_12 ?_
  refine lv_iload_n hx hb dX12_come_15 rfl (lv_at hl 2 rfl) ?_
  refine lv_iload_n hx hb dX12_come_16 rfl (lv_at hl 0 rfl) ?_
  refine lv_iushr hx hb dX12_come_17 rfl ?_
  refine lv_topi (fun z11 ez11 => ?_)
  refine lv_sipush (v := 255) hx hb dX12_come_18 (by decide) ?_
  refine lv_iand hx hb dX12_come_21 ?_
  refine lv_topi (fun z12 ez12 => ?_)
  refine va_iast hx hb hK hP hD hS 0 0 rfl rfl (i := 15) (zz_in (by decide)) dX12_come_22 (fun H locs hP hD hS => ?_)
  have hP : va_P (dC, dI) vwCl [(h1, .inl (w0, 940, .inl (upd (upd (upd (upd f0 12 z3) 13 z6) 14 z9) 15 z12))), (h0, .inr (11, [.int 0, .ref h1, .int 15, .int 0, .int 0, .int 0, .int 0, .int 0, .int 0, .int 0, .int 0, .int 0, .long 0, .int 0, .ref h2, .ref h3, .ref h4, .ref h5, .ref h6, .ref h7, .ref h8, .ref h9, .ref h10, .int 0, .int 0, .int 0, .int 0, .int (-1), .int (-1), .long 0, .long 0, .ref h11, .ref h12, .int 0, .int (-1), .int 0, .ref h13, .int 0, .ref h14, .ref h15, .int 0, .int 0, .ref h16, .int 0, .int 0, .int 0, .int 0]))] H := hP
  have hD : va_D A [(h1, .inl (w0, 940, .inl (upd (upd (upd (upd f0 12 z3) 13 z6) 14 z9) 15 z12))), (h0, .inr (11, [.int 0, .ref h1, .int 15, .int 0, .int 0, .int 0, .int 0, .int 0, .int 0, .int 0, .int 0, .int 0, .long 0, .int 0, .ref h2, .ref h3, .ref h4, .ref h5, .ref h6, .ref h7, .ref h8, .ref h9, .ref h10, .int 0, .int 0, .int 0, .int 0, .int (-1), .int (-1), .long 0, .long 0, .ref h11, .ref h12, .int 0, .int (-1), .int 0, .ref h13, .int 0, .ref h14, .ref h15, .int 0, .int 0, .ref h16, .int 0, .int 0, .int 0, .int 0]))] := hD
  refine lv_aload_n hx hb dX12_come_23 rfl (lv_at hl 1 rfl) ?_
  refine lv_dup hx hb dX12_come_24 rfl ?_
  refine va_get (D := (dC, dI)) (ci := 11) (v := .int 15) (C := RX12) (T := TX12) (N := 47) hx hb hts ii_X12_come_X12 hown hK hP 1 rfl rfl 2 (by decide) (hts _ mm_X12_come_2) (fun _ h9 => h9) rfl dX12_come_25 ?_
  refine lv_iconst (v := 1) hx hb dX12_come_28 (by decide) ?_
  refine lv_iadd hx hb dX12_come_29 ?_
  refine zz_top (v := 16) (by decide) ?_
  refine va_put (D := (dC, dI)) (ci := 11) (v := .int 16) (ty := .int) (C := RX12) (T := TX12) (N := 47) hx hb hts ii_X12_come_X12 tyX12 tyX12_ok nmX12 hown hK hP hD hS 1 rfl rfl 2 (by decide) (hts _ mm_X12_come_2) (fun _ h9 => h9) rfl (by decide +kernel) rfl rfl (Nat.le_of_ble_eq_true rfl) dX12_come_30 (fun H locs hP hD hS => ?_)
  have hP : va_P (dC, dI) vwCl [(h1, .inl (w0, 940, .inl (upd (upd (upd (upd f0 12 z3) 13 z6) 14 z9) 15 z12))), (h0, .inr (11, [.int 0, .ref h1, .int 16, .int 0, .int 0, .int 0, .int 0, .int 0, .int 0, .int 0, .int 0, .int 0, .long 0, .int 0, .ref h2, .ref h3, .ref h4, .ref h5, .ref h6, .ref h7, .ref h8, .ref h9, .ref h10, .int 0, .int 0, .int 0, .int 0, .int (-1), .int (-1), .long 0, .long 0, .ref h11, .ref h12, .int 0, .int (-1), .int 0, .ref h13, .int 0, .ref h14, .ref h15, .int 0, .int 0, .ref h16, .int 0, .int 0, .int 0, .int 0]))] H := hP
  have hD : va_D A [(h1, .inl (w0, 940, .inl (upd (upd (upd (upd f0 12 z3) 13 z6) 14 z9) 15 z12))), (h0, .inr (11, [.int 0, .ref h1, .int 16, .int 0, .int 0, .int 0, .int 0, .int 0, .int 0, .int 0, .int 0, .int 0, .long 0, .int 0, .ref h2, .ref h3, .ref h4, .ref h5, .ref h6, .ref h7, .ref h8, .ref h9, .ref h10, .int 0, .int 0, .int 0, .int 0, .int (-1), .int (-1), .long 0, .long 0, .ref h11, .ref h12, .int 0, .int (-1), .int 0, .ref h13, .int 0, .ref h14, .ref h15, .int 0, .int 0, .ref h16, .int 0, .int 0, .int 0, .int 0]))] := hD
  refine lv_iinc (v := (-8)) (lv' := [(2, .int (-8)), (0, .ref h0), (1, .int p0)]) hx hb dX12_come_33 hl (k := 0) rfl (by decide) (by decide) rfl (fun ls hl => ?_)
  refine lv_goto (tgt := 3) hx hb dX12_come_36 (by decide) ?_
  refine lv_iload_n hx hb dX12_come_3 rfl (lv_at hl 0 rfl) ?_
  refine lv_if_lt (tgt := 39) hx hb dX12_come_4 (by decide) (fun _ => ?_) (fun c13 => absurd (by decide) c13)
  have hP9 := hP.sub (ws' := [(h1, .inl (w0, 940, .inl (upd (upd (upd (upd f0 12 z3) 13 z6) 14 z9) 15 z12))), (h0, .inr (11, [.int 0, .ref h1, .int 16, .int 0, .int 0, .int 0, .int 0, .int 0, .int 0, .int 0, .int 0, .int 0, .long 0, .int 0, .ref h2, .ref h3, .ref h4, .ref h5, .ref h6, .ref h7, .ref h8, .ref h9, .ref h10, .int 0, .int 0, .int 0, .int 0, .int (-1), .int (-1), .long 0, .long 0, .ref h11, .ref h12, .int 0, .int (-1), .int 0, .ref h13, .int 0, .ref h14, .ref h15, .int 0, .int 0, .ref h16, .int 0, .int 0, .int 0, .int 0]))]) [0, 1] rfl
  have hD9 := hD.sub (ws' := [(h1, .inl (w0, 940, .inl (upd (upd (upd (upd f0 12 z3) 13 z6) 14 z9) 15 z12))), (h0, .inr (11, [.int 0, .ref h1, .int 16, .int 0, .int 0, .int 0, .int 0, .int 0, .int 0, .int 0, .int 0, .int 0, .long 0, .int 0, .ref h2, .ref h3, .ref h4, .ref h5, .ref h6, .ref h7, .ref h8, .ref h9, .ref h10, .int 0, .int 0, .int 0, .int 0, .int (-1), .int (-1), .long 0, .long 0, .ref h11, .ref h12, .int 0, .int (-1), .int 0, .ref h13, .int 0, .ref h14, .ref h15, .int 0, .int 0, .ref h16, .int 0, .int 0, .int 0, .int 0]))]) [0, 1] (by decide) rfl
  have hK9 := hK.sub (tys' := []) [] rfl
  refine W.widen (k := 0) (n := 0) (Nat.le_of_ble_eq_true rfl) (Nat.le_of_ble_eq_true rfl) ?_
  exact W.vret hx hb hr (fun t ht hW => ⟨⟨(), rfl, trivial, (upd (upd (upd (upd f0 12 z3) 13 z6) 14 z9) 15 z12), by rw [ht]; exact hP9, va_K.moved hW.alike hK9, hD9⟩, hS.F ht⟩) hS.2.2 dX12_come_39
set_option maxHeartbeats 4000000 in
set_option maxRecDepth 100000 in
theorem k_X12_come_4 (l : Launch) (dC : Nat → ClassId) (dI : Nat → Nat → Nat) (ad : Nat → Nat) (h0 h1 h2 h3 h4 h5 h6 h7 h8 h9 h10 h11 h12 h13 h14 h15 h16 : Nat) (p0 : Int32) (f0 : Nat → Int32) (w0 : ClassId) (sz : Nat) : Met l yX12_come wsX12_come ({ frames := 0, cells := 0, slots := 0, locals := 0 }) (va_Pc [.ref h0, .int p0] (CP (dC, dI) [(h1, .inl (w0, 940, .inl f0)), (h0, .inr (11, [.int 0, .ref h1, .int 16, .int 0, .int 0, .int 0, .int 0, .int 0, .int 0, .int 0, .int 0, .int 0, .long 0, .int 0, .ref h2, .ref h3, .ref h4, .ref h5, .ref h6, .ref h7, .ref h8, .ref h9, .ref h10, .int 0, .int 0, .int 0, .int 0, .int (-1), .int (-1), .long 0, .long 0, .ref h11, .ref h12, .int 0, .int (-1), .int 0, .ref h13, .int 0, .ref h14, .ref h15, .int 0, .int 0, .ref h16, .int 0, .int 0, .int 0, .int 0]))] [(w0, .int)] sz ad)) (va_Qv (fun _ : Unit => True) (fun (_ : Unit) (t : State) => ∃ (F0 : Nat → Int32), CQ (dC, dI) [(h1, .inl (w0, 940, .inl F0)), (h0, .inr (11, [.int 0, .ref h1, .int 20, .int 0, .int 0, .int 0, .int 0, .int 0, .int 0, .int 0, .int 0, .int 0, .long 0, .int 0, .ref h2, .ref h3, .ref h4, .ref h5, .ref h6, .ref h7, .ref h8, .ref h9, .ref h10, .int 0, .int 0, .int 0, .int 0, .int (-1), .int (-1), .long 0, .long 0, .ref h11, .ref h12, .int 0, .int (-1), .int 0, .ref h13, .int 0, .ref h14, .ref h15, .int 0, .int 0, .ref h16, .int 0, .int 0, .int 0, .int 0]))] [] (va_A [(h1, .inl (w0, 940, .inl f0)), (h0, .inr (11, [.int 0, .ref h1, .int 16, .int 0, .int 0, .int 0, .int 0, .int 0, .int 0, .int 0, .int 0, .int 0, .long 0, .int 0, .ref h2, .ref h3, .ref h4, .ref h5, .ref h6, .ref h7, .ref h8, .ref h9, .ref h10, .int 0, .int 0, .int 0, .int 0, .int (-1), .int (-1), .long 0, .long 0, .ref h11, .ref h12, .int 0, .int (-1), .int 0, .ref h13, .int 0, .ref h14, .ref h15, .int 0, .int 0, .ref h16, .int 0, .int 0, .int 0, .int 0]))] sz) t) (va_A [(h1, .inl (w0, 940, .inl f0)), (h0, .inr (11, [.int 0, .ref h1, .int 16, .int 0, .int 0, .int 0, .int 0, .int 0, .int 0, .int 0, .int 0, .int 0, .long 0, .int 0, .ref h2, .ref h3, .ref h4, .ref h5, .ref h6, .ref h7, .ref h8, .ref h9, .ref h10, .int 0, .int 0, .int 0, .int 0, .int (-1), .int (-1), .long 0, .long 0, .ref h11, .ref h12, .int 0, .int (-1), .int 0, .ref h13, .int 0, .ref h14, .ref h15, .int 0, .int 0, .ref h16, .int 0, .int 0, .int 0, .int 0]))] sz)) 0 0 (va_A [(h1, .inl (w0, 940, .inl f0)), (h0, .inr (11, [.int 0, .ref h1, .int 16, .int 0, .int 0, .int 0, .int 0, .int 0, .int 0, .int 0, .int 0, .int 0, .long 0, .int 0, .ref h2, .ref h3, .ref h4, .ref h5, .ref h6, .ref h7, .ref h8, .ref h9, .ref h10, .int 0, .int 0, .int 0, .int 0, .int (-1), .int (-1), .long 0, .long 0, .ref h11, .ref h12, .int 0, .int (-1), .int 0, .ref h13, .int 0, .ref h14, .ref h15, .int 0, .int 0, .ref h16, .int 0, .int 0, .int 0, .int 0]))] sz) := by
  refine Met.ofW (cc := cX12_come) (maxL := 3) (ret := none) (by decide) rfl ?_
  intro p e s m args below meth c s₁ B hml hv
  obtain ⟨rfl, hsz, hP, hK, hD0, hE⟩ := hv
  have hx := B.exec
  have hb := B.bytes
  have hr := B.returns
  have hts := atoms_spec (ws := wsX12_come) B.pre
  have hown : s.vm.findClass RX12 = some m.cls := findClass_of_methodNamed B.named
  have hlocks := B.notSynchronized
  subst hsz
  have hD := hD0.self (sz := s.heap.size)
  generalize hAe : va_A [(h1, .inl (w0, 940, .inl f0)), (h0, .inr (11, [.int 0, .ref h1, .int 16, .int 0, .int 0, .int 0, .int 0, .int 0, .int 0, .int 0, .int 0, .int 0, .long 0, .int 0, .ref h2, .ref h3, .ref h4, .ref h5, .ref h6, .ref h7, .ref h8, .ref h9, .ref h10, .int 0, .int 0, .int 0, .int 0, .int (-1), .int (-1), .long 0, .long 0, .ref h11, .ref h12, .int 0, .int (-1), .int 0, .ref h13, .int 0, .ref h14, .ref h15, .int 0, .int 0, .ref h16, .int 0, .int 0, .int 0, .int 0]))] s.heap.size = A at hD hE ⊢
  have hA : ∀ q : Nat, s.heap.size ≤ q → A q := fun q h => by rw [← hAe]; exact Or.inr h
  have hS : va_S A s.heap s.heap [] := va_S.rf
  have hl := lv_entry ([.ref h0, .int p0]) (n := 3) (Nat.le_of_ble_eq_true rfl)
  rw [lg_entry_eq]
  generalize (lg_sl ([.ref h0, .int p0]) ++ List.replicate (3 - (lg_sl ([.ref h0, .int p0])).length) Slot.unset).toArray = ls at hl ⊢
  have hl : lv_has ls 3 [(0, .ref h0), (1, .int p0)] := hl
  refine lv_bipush (v := 24) hx hb dX12_come_0 (by decide) ?_
  refine lv_istore_n (lv' := [(2, .int 24), (0, .ref h0), (1, .int p0)]) hx hb dX12_come_2 rfl hl (by decide) rfl (fun ls hl => ?_)
  refine lv_iload_n hx hb dX12_come_3 rfl (lv_at hl 0 rfl) ?_
  refine lv_if_lt (tgt := 39) hx hb dX12_come_4 (by decide) (fun c1 => absurd c1 (by decide)) (fun _ => ?_)
  refine lv_aload_n hx hb dX12_come_7 rfl (lv_at hl 1 rfl) ?_
  refine va_get (D := (dC, dI)) (ci := 11) (v := .ref h1) (C := RX12) (T := TX12) (N := 47) hx hb hts ii_X12_come_X12 hown hK hP 1 rfl rfl 1 (by decide) (hts _ mm_X12_come_1) (fun _ h9 => h9) rfl dX12_come_8 ?_
  refine lv_aload_n hx hb dX12_come_11 rfl (lv_at hl 1 rfl) ?_
  refine va_get (D := (dC, dI)) (ci := 11) (v := .int 16) (C := RX12) (T := TX12) (N := 47) hx hb hts ii_X12_come_X12 hown hK hP 1 rfl rfl 2 (by decide) (hts _ mm_X12_come_2) (fun _ h9 => h9) rfl dX12_come_12 ?_
  refine lv_iload_n hx hb dX12_come_15 rfl (lv_at hl 2 rfl) ?_
  refine lv_iload_n hx hb dX12_come_16 rfl (lv_at hl 0 rfl) ?_
  refine lv_iushr hx hb dX12_come_17 rfl ?_
  refine lv_topi (fun z2 ez2 => ?_)
  refine lv_sipush (v := 255) hx hb dX12_come_18 (by decide) ?_
  refine lv_iand hx hb dX12_come_21 ?_
  refine lv_topi (fun z3 ez3 => ?_)
  refine va_iast hx hb hK hP hD hS 0 0 rfl rfl (i := 16) (zz_in (by decide)) dX12_come_22 (fun H locs hP hD hS => ?_)
  have hP : va_P (dC, dI) vwCl [(h1, .inl (w0, 940, .inl (upd f0 16 z3))), (h0, .inr (11, [.int 0, .ref h1, .int 16, .int 0, .int 0, .int 0, .int 0, .int 0, .int 0, .int 0, .int 0, .int 0, .long 0, .int 0, .ref h2, .ref h3, .ref h4, .ref h5, .ref h6, .ref h7, .ref h8, .ref h9, .ref h10, .int 0, .int 0, .int 0, .int 0, .int (-1), .int (-1), .long 0, .long 0, .ref h11, .ref h12, .int 0, .int (-1), .int 0, .ref h13, .int 0, .ref h14, .ref h15, .int 0, .int 0, .ref h16, .int 0, .int 0, .int 0, .int 0]))] H := hP
  have hD : va_D A [(h1, .inl (w0, 940, .inl (upd f0 16 z3))), (h0, .inr (11, [.int 0, .ref h1, .int 16, .int 0, .int 0, .int 0, .int 0, .int 0, .int 0, .int 0, .int 0, .int 0, .long 0, .int 0, .ref h2, .ref h3, .ref h4, .ref h5, .ref h6, .ref h7, .ref h8, .ref h9, .ref h10, .int 0, .int 0, .int 0, .int 0, .int (-1), .int (-1), .long 0, .long 0, .ref h11, .ref h12, .int 0, .int (-1), .int 0, .ref h13, .int 0, .ref h14, .ref h15, .int 0, .int 0, .ref h16, .int 0, .int 0, .int 0, .int 0]))] := hD
  refine lv_aload_n hx hb dX12_come_23 rfl (lv_at hl 1 rfl) ?_
  refine lv_dup hx hb dX12_come_24 rfl ?_
  refine va_get (D := (dC, dI)) (ci := 11) (v := .int 16) (C := RX12) (T := TX12) (N := 47) hx hb hts ii_X12_come_X12 hown hK hP 1 rfl rfl 2 (by decide) (hts _ mm_X12_come_2) (fun _ h9 => h9) rfl dX12_come_25 ?_
  refine lv_iconst (v := 1) hx hb dX12_come_28 (by decide) ?_
  refine lv_iadd hx hb dX12_come_29 ?_
  refine zz_top (v := 17) (by decide) ?_
  refine va_put (D := (dC, dI)) (ci := 11) (v := .int 17) (ty := .int) (C := RX12) (T := TX12) (N := 47) hx hb hts ii_X12_come_X12 tyX12 tyX12_ok nmX12 hown hK hP hD hS 1 rfl rfl 2 (by decide) (hts _ mm_X12_come_2) (fun _ h9 => h9) rfl (by decide +kernel) rfl rfl (Nat.le_of_ble_eq_true rfl) dX12_come_30 (fun H locs hP hD hS => ?_)
  have hP : va_P (dC, dI) vwCl [(h1, .inl (w0, 940, .inl (upd f0 16 z3))), (h0, .inr (11, [.int 0, .ref h1, .int 17, .int 0, .int 0, .int 0, .int 0, .int 0, .int 0, .int 0, .int 0, .int 0, .long 0, .int 0, .ref h2, .ref h3, .ref h4, .ref h5, .ref h6, .ref h7, .ref h8, .ref h9, .ref h10, .int 0, .int 0, .int 0, .int 0, .int (-1), .int (-1), .long 0, .long 0, .ref h11, .ref h12, .int 0, .int (-1), .int 0, .ref h13, .int 0, .ref h14, .ref h15, .int 0, .int 0, .ref h16, .int 0, .int 0, .int 0, .int 0]))] H := hP
  have hD : va_D A [(h1, .inl (w0, 940, .inl (upd f0 16 z3))), (h0, .inr (11, [.int 0, .ref h1, .int 17, .int 0, .int 0, .int 0, .int 0, .int 0, .int 0, .int 0, .int 0, .int 0, .long 0, .int 0, .ref h2, .ref h3, .ref h4, .ref h5, .ref h6, .ref h7, .ref h8, .ref h9, .ref h10, .int 0, .int 0, .int 0, .int 0, .int (-1), .int (-1), .long 0, .long 0, .ref h11, .ref h12, .int 0, .int (-1), .int 0, .ref h13, .int 0, .ref h14, .ref h15, .int 0, .int 0, .ref h16, .int 0, .int 0, .int 0, .int 0]))] := hD
  refine lv_iinc (v := 16) (lv' := [(2, .int 16), (0, .ref h0), (1, .int p0)]) hx hb dX12_come_33 hl (k := 0) rfl (by decide) (by decide) rfl (fun ls hl => ?_)
  refine lv_goto (tgt := 3) hx hb dX12_come_36 (by decide) ?_
  refine lv_iload_n hx hb dX12_come_3 rfl (lv_at hl 0 rfl) ?_
  refine lv_if_lt (tgt := 39) hx hb dX12_come_4 (by decide) (fun c4 => absurd c4 (by decide)) (fun _ => ?_)
  refine lv_aload_n hx hb dX12_come_7 rfl (lv_at hl 1 rfl) ?_
  refine va_get (D := (dC, dI)) (ci := 11) (v := .ref h1) (C := RX12) (T := TX12) (N := 47) hx hb hts ii_X12_come_X12 hown hK hP 1 rfl rfl 1 (by decide) (hts _ mm_X12_come_1) (fun _ h9 => h9) rfl dX12_come_8 ?_
  refine lv_aload_n hx hb dX12_come_11 rfl (lv_at hl 1 rfl) ?_
  refine va_get (D := (dC, dI)) (ci := 11) (v := .int 17) (C := RX12) (T := TX12) (N := 47) hx hb hts ii_X12_come_X12 hown hK hP 1 rfl rfl 2 (by decide) (hts _ mm_X12_come_2) (fun _ h9 => h9) rfl dX12_come_12 ?_
  refine lv_iload_n hx hb dX12_come_15 rfl (lv_at hl 2 rfl) ?_
  refine lv_iload_n hx hb dX12_come_16 rfl (lv_at hl 0 rfl) ?_
  refine lv_iushr hx hb dX12_come_17 rfl ?_
  refine lv_topi (fun z5 ez5 => ?_)
  refine lv_sipush (v := 255) hx hb dX12_come_18 (by decide) ?_
  refine lv_iand hx hb dX12_come_21 ?_
  refine lv_topi (fun z6 ez6 => ?_)
  refine va_iast hx hb hK hP hD hS 0 0 rfl rfl (i := 17) (zz_in (by decide)) dX12_come_22 (fun H locs hP hD hS => ?_)
  have hP : va_P (dC, dI) vwCl [(h1, .inl (w0, 940, .inl (upd (upd f0 16 z3) 17 z6))), (h0, .inr (11, [.int 0, .ref h1, .int 17, .int 0, .int 0, .int 0, .int 0, .int 0, .int 0, .int 0, .int 0, .int 0, .long 0, .int 0, .ref h2, .ref h3, .ref h4, .ref h5, .ref h6, .ref h7, .ref h8, .ref h9, .ref h10, .int 0, .int 0, .int 0, .int 0, .int (-1), .int (-1), .long 0, .long 0, .ref h11, .ref h12, .int 0, .int (-1), .int 0, .ref h13, .int 0, .ref h14, .ref h15, .int 0, .int 0, .ref h16, .int 0, .int 0, .int 0, .int 0]))] H := hP
  have hD : va_D A [(h1, .inl (w0, 940, .inl (upd (upd f0 16 z3) 17 z6))), (h0, .inr (11, [.int 0, .ref h1, .int 17, .int 0, .int 0, .int 0, .int 0, .int 0, .int 0, .int 0, .int 0, .int 0, .long 0, .int 0, .ref h2, .ref h3, .ref h4, .ref h5, .ref h6, .ref h7, .ref h8, .ref h9, .ref h10, .int 0, .int 0, .int 0, .int 0, .int (-1), .int (-1), .long 0, .long 0, .ref h11, .ref h12, .int 0, .int (-1), .int 0, .ref h13, .int 0, .ref h14, .ref h15, .int 0, .int 0, .ref h16, .int 0, .int 0, .int 0, .int 0]))] := hD
  refine lv_aload_n hx hb dX12_come_23 rfl (lv_at hl 1 rfl) ?_
  refine lv_dup hx hb dX12_come_24 rfl ?_
  refine va_get (D := (dC, dI)) (ci := 11) (v := .int 17) (C := RX12) (T := TX12) (N := 47) hx hb hts ii_X12_come_X12 hown hK hP 1 rfl rfl 2 (by decide) (hts _ mm_X12_come_2) (fun _ h9 => h9) rfl dX12_come_25 ?_
  refine lv_iconst (v := 1) hx hb dX12_come_28 (by decide) ?_
  refine lv_iadd hx hb dX12_come_29 ?_
  refine zz_top (v := 18) (by decide) ?_
  refine va_put (D := (dC, dI)) (ci := 11) (v := .int 18) (ty := .int) (C := RX12) (T := TX12) (N := 47) hx hb hts ii_X12_come_X12 tyX12 tyX12_ok nmX12 hown hK hP hD hS 1 rfl rfl 2 (by decide) (hts _ mm_X12_come_2) (fun _ h9 => h9) rfl (by decide +kernel) rfl rfl (Nat.le_of_ble_eq_true rfl) dX12_come_30 (fun H locs hP hD hS => ?_)
  have hP : va_P (dC, dI) vwCl [(h1, .inl (w0, 940, .inl (upd (upd f0 16 z3) 17 z6))), (h0, .inr (11, [.int 0, .ref h1, .int 18, .int 0, .int 0, .int 0, .int 0, .int 0, .int 0, .int 0, .int 0, .int 0, .long 0, .int 0, .ref h2, .ref h3, .ref h4, .ref h5, .ref h6, .ref h7, .ref h8, .ref h9, .ref h10, .int 0, .int 0, .int 0, .int 0, .int (-1), .int (-1), .long 0, .long 0, .ref h11, .ref h12, .int 0, .int (-1), .int 0, .ref h13, .int 0, .ref h14, .ref h15, .int 0, .int 0, .ref h16, .int 0, .int 0, .int 0, .int 0]))] H := hP
  have hD : va_D A [(h1, .inl (w0, 940, .inl (upd (upd f0 16 z3) 17 z6))), (h0, .inr (11, [.int 0, .ref h1, .int 18, .int 0, .int 0, .int 0, .int 0, .int 0, .int 0, .int 0, .int 0, .int 0, .long 0, .int 0, .ref h2, .ref h3, .ref h4, .ref h5, .ref h6, .ref h7, .ref h8, .ref h9, .ref h10, .int 0, .int 0, .int 0, .int 0, .int (-1), .int (-1), .long 0, .long 0, .ref h11, .ref h12, .int 0, .int (-1), .int 0, .ref h13, .int 0, .ref h14, .ref h15, .int 0, .int 0, .ref h16, .int 0, .int 0, .int 0, .int 0]))] := hD
  refine lv_iinc (v := 8) (lv' := [(2, .int 8), (0, .ref h0), (1, .int p0)]) hx hb dX12_come_33 hl (k := 0) rfl (by decide) (by decide) rfl (fun ls hl => ?_)
  refine lv_goto (tgt := 3) hx hb dX12_come_36 (by decide) ?_
  refine lv_iload_n hx hb dX12_come_3 rfl (lv_at hl 0 rfl) ?_
  refine lv_if_lt (tgt := 39) hx hb dX12_come_4 (by decide) (fun c7 => absurd c7 (by decide)) (fun _ => ?_)
  refine lv_aload_n hx hb dX12_come_7 rfl (lv_at hl 1 rfl) ?_
  refine va_get (D := (dC, dI)) (ci := 11) (v := .ref h1) (C := RX12) (T := TX12) (N := 47) hx hb hts ii_X12_come_X12 hown hK hP 1 rfl rfl 1 (by decide) (hts _ mm_X12_come_1) (fun _ h9 => h9) rfl dX12_come_8 ?_
  refine lv_aload_n hx hb dX12_come_11 rfl (lv_at hl 1 rfl) ?_
  refine va_get (D := (dC, dI)) (ci := 11) (v := .int 18) (C := RX12) (T := TX12) (N := 47) hx hb hts ii_X12_come_X12 hown hK hP 1 rfl rfl 2 (by decide) (hts _ mm_X12_come_2) (fun _ h9 => h9) rfl dX12_come_12 ?_
  refine lv_iload_n hx hb dX12_come_15 rfl (lv_at hl 2 rfl) ?_
  refine lv_iload_n hx hb dX12_come_16 rfl (lv_at hl 0 rfl) ?_
  refine lv_iushr hx hb dX12_come_17 rfl ?_
  refine lv_topi (fun z8 ez8 => ?_)
  refine lv_sipush (v := 255) hx hb dX12_come_18 (by decide) ?_
  refine lv_iand hx hb dX12_come_21 ?_
  refine lv_topi (fun z9 ez9 => ?_)
  refine va_iast hx hb hK hP hD hS 0 0 rfl rfl (i := 18) (zz_in (by decide)) dX12_come_22 (fun H locs hP hD hS => ?_)
  have hP : va_P (dC, dI) vwCl [(h1, .inl (w0, 940, .inl (upd (upd (upd f0 16 z3) 17 z6) 18 z9))), (h0, .inr (11, [.int 0, .ref h1, .int 18, .int 0, .int 0, .int 0, .int 0, .int 0, .int 0, .int 0, .int 0, .int 0, .long 0, .int 0, .ref h2, .ref h3, .ref h4, .ref h5, .ref h6, .ref h7, .ref h8, .ref h9, .ref h10, .int 0, .int 0, .int 0, .int 0, .int (-1), .int (-1), .long 0, .long 0, .ref h11, .ref h12, .int 0, .int (-1), .int 0, .ref h13, .int 0, .ref h14, .ref h15, .int 0, .int 0, .ref h16, .int 0, .int 0, .int 0, .int 0]))] H := hP
  have hD : va_D A [(h1, .inl (w0, 940, .inl (upd (upd (upd f0 16 z3) 17 z6) 18 z9))), (h0, .inr (11, [.int 0, .ref h1, .int 18, .int 0, .int 0, .int 0, .int 0, .int 0, .int 0, .int 0, .int 0, .int 0, .long 0, .int 0, .ref h2, .ref h3, .ref h4, .ref h5, .ref h6, .ref h7, .ref h8, .ref h9, .ref h10, .int 0, .int 0, .int 0, .int 0, .int (-1), .int (-1), .long 0, .long 0, .ref h11, .ref h12, .int 0, .int (-1), .int 0, .ref h13, .int 0, .ref h14, .ref h15, .int 0, .int 0, .ref h16, .int 0, .int 0, .int 0, .int 0]))] := hD
  refine lv_aload_n hx hb dX12_come_23 rfl (lv_at hl 1 rfl) ?_
  refine lv_dup hx hb dX12_come_24 rfl ?_
  refine va_get (D := (dC, dI)) (ci := 11) (v := .int 18) (C := RX12) (T := TX12) (N := 47) hx hb hts ii_X12_come_X12 hown hK hP 1 rfl rfl 2 (by decide) (hts _ mm_X12_come_2) (fun _ h9 => h9) rfl dX12_come_25 ?_
  refine lv_iconst (v := 1) hx hb dX12_come_28 (by decide) ?_
  refine lv_iadd hx hb dX12_come_29 ?_
  refine zz_top (v := 19) (by decide) ?_
  refine va_put (D := (dC, dI)) (ci := 11) (v := .int 19) (ty := .int) (C := RX12) (T := TX12) (N := 47) hx hb hts ii_X12_come_X12 tyX12 tyX12_ok nmX12 hown hK hP hD hS 1 rfl rfl 2 (by decide) (hts _ mm_X12_come_2) (fun _ h9 => h9) rfl (by decide +kernel) rfl rfl (Nat.le_of_ble_eq_true rfl) dX12_come_30 (fun H locs hP hD hS => ?_)
  have hP : va_P (dC, dI) vwCl [(h1, .inl (w0, 940, .inl (upd (upd (upd f0 16 z3) 17 z6) 18 z9))), (h0, .inr (11, [.int 0, .ref h1, .int 19, .int 0, .int 0, .int 0, .int 0, .int 0, .int 0, .int 0, .int 0, .int 0, .long 0, .int 0, .ref h2, .ref h3, .ref h4, .ref h5, .ref h6, .ref h7, .ref h8, .ref h9, .ref h10, .int 0, .int 0, .int 0, .int 0, .int (-1), .int (-1), .long 0, .long 0, .ref h11, .ref h12, .int 0, .int (-1), .int 0, .ref h13, .int 0, .ref h14, .ref h15, .int 0, .int 0, .ref h16, .int 0, .int 0, .int 0, .int 0]))] H := hP
  have hD : va_D A [(h1, .inl (w0, 940, .inl (upd (upd (upd f0 16 z3) 17 z6) 18 z9))), (h0, .inr (11, [.int 0, .ref h1, .int 19, .int 0, .int 0, .int 0, .int 0, .int 0, .int 0, .int 0, .int 0, .int 0, .long 0, .int 0, .ref h2, .ref h3, .ref h4, .ref h5, .ref h6, .ref h7, .ref h8, .ref h9, .ref h10, .int 0, .int 0, .int 0, .int 0, .int (-1), .int (-1), .long 0, .long 0, .ref h11, .ref h12, .int 0, .int (-1), .int 0, .ref h13, .int 0, .ref h14, .ref h15, .int 0, .int 0, .ref h16, .int 0, .int 0, .int 0, .int 0]))] := hD
  refine lv_iinc (v := 0) (lv' := [(2, .int 0), (0, .ref h0), (1, .int p0)]) hx hb dX12_come_33 hl (k := 0) rfl (by decide) (by decide) rfl (fun ls hl => ?_)
  refine lv_goto (tgt := 3) hx hb dX12_come_36 (by decide) ?_
  refine lv_iload_n hx hb dX12_come_3 rfl (lv_at hl 0 rfl) ?_
  refine lv_if_lt (tgt := 39) hx hb dX12_come_4 (by decide) (fun c10 => absurd c10 (by decide)) (fun _ => ?_)
  refine lv_aload_n hx hb dX12_come_7 rfl (lv_at hl 1 rfl) ?_
  refine va_get (D := (dC, dI)) (ci := 11) (v := .ref h1) (C := RX12) (T := TX12) (N := 47) hx hb hts ii_X12_come_X12 hown hK hP 1 rfl rfl 1 (by decide) (hts _ mm_X12_come_1) (fun _ h9 => h9) rfl dX12_come_8 ?_
  refine lv_aload_n hx hb dX12_come_11 rfl (lv_at hl 1 rfl) ?_
  refine va_get (D := (dC, dI)) (ci := 11) (v := .int 19) (C := RX12) (T := TX12) (N := 47) hx hb hts ii_X12_come_X12 hown hK hP 1 rfl rfl 2 (by decide) (hts _ mm_X12_come_2) (fun _ h9 => h9) rfl dX12_come_12 ?_
  refine lv_iload_n hx hb dX12_come_15 rfl (lv_at hl 2 rfl) ?_
  refine lv_iload_n hx hb dX12_come_16 rfl (lv_at hl 0 rfl) ?_
  refine lv_iushr hx hb dX12_come_17 rfl ?_
  refine lv_topi (fun z11 ez11 => ?_)
  refine lv_sipush (v := 255) hx hb dX12_come_18 (by decide) ?_
  refine lv_iand hx hb dX12_come_21 ?_
  refine lv_topi (fun z12 ez12 => ?_)
  refine va_iast hx hb hK hP hD hS 0 0 rfl rfl (i := 19) (zz_in (by decide)) dX12_come_22 (fun H locs hP hD hS => ?_)
  have hP : va_P (dC, dI) vwCl [(h1, .inl (w0, 940, .inl (upd (upd (upd (upd f0 16 z3) 17 z6) 18 z9) 19 z12))), (h0, .inr (11, [.int 0, .ref h1, .int 19, .int 0, .int 0, .int 0, .int 0, .int 0, .int 0, .int 0, .int 0, .int 0, .long 0, .int 0, .ref h2, .ref h3, .ref h4, .ref h5, .ref h6, .ref h7, .ref h8, .ref h9, .ref h10, .int 0, .int 0, .int 0, .int 0, .int (-1), .int (-1), .long 0, .long 0, .ref h11, .ref h12, .int 0, .int (-1), .int 0, .ref h13, .int 0, .ref h14, .ref h15, .int 0, .int 0, .ref h16, .int 0, .int 0, .int 0, .int 0]))] H := hP
  have hD : va_D A [(h1, .inl (w0, 940, .inl (upd (upd (upd (upd f0 16 z3) 17 z6) 18 z9) 19 z12))), (h0, .inr (11, [.int 0, .ref h1, .int 19, .int 0, .int 0, .int 0, .int 0, .int 0, .int 0, .int 0, .int 0, .int 0, .long 0, .int 0, .ref h2, .ref h3, .ref h4, .ref h5, .ref h6, .ref h7, .ref h8, .ref h9, .ref h10, .int 0, .int 0, .int 0, .int 0, .int (-1), .int (-1), .long 0, .long 0, .ref h11, .ref h12, .int 0, .int (-1), .int 0, .ref h13, .int 0, .ref h14, .ref h15, .int 0, .int 0, .ref h16, .int 0, .int 0, .int 0, .int 0]))] := hD
  refine lv_aload_n hx hb dX12_come_23 rfl (lv_at hl 1 rfl) ?_
  refine lv_dup hx hb dX12_come_24 rfl ?_
  refine va_get (D := (dC, dI)) (ci := 11) (v := .int 19) (C := RX12) (T := TX12) (N := 47) hx hb hts ii_X12_come_X12 hown hK hP 1 rfl rfl 2 (by decide) (hts _ mm_X12_come_2) (fun _ h9 => h9) rfl dX12_come_25 ?_
  refine lv_iconst (v := 1) hx hb dX12_come_28 (by decide) ?_
  refine lv_iadd hx hb dX12_come_29 ?_
  refine zz_top (v := 20) (by decide) ?_
  refine va_put (D := (dC, dI)) (ci := 11) (v := .int 20) (ty := .int) (C := RX12) (T := TX12) (N := 47) hx hb hts ii_X12_come_X12 tyX12 tyX12_ok nmX12 hown hK hP hD hS 1 rfl rfl 2 (by decide) (hts _ mm_X12_come_2) (fun _ h9 => h9) rfl (by decide +kernel) rfl rfl (Nat.le_of_ble_eq_true rfl) dX12_come_30 (fun H locs hP hD hS => ?_)
  have hP : va_P (dC, dI) vwCl [(h1, .inl (w0, 940, .inl (upd (upd (upd (upd f0 16 z3) 17 z6) 18 z9) 19 z12))), (h0, .inr (11, [.int 0, .ref h1, .int 20, .int 0, .int 0, .int 0, .int 0, .int 0, .int 0, .int 0, .int 0, .int 0, .long 0, .int 0, .ref h2, .ref h3, .ref h4, .ref h5, .ref h6, .ref h7, .ref h8, .ref h9, .ref h10, .int 0, .int 0, .int 0, .int 0, .int (-1), .int (-1), .long 0, .long 0, .ref h11, .ref h12, .int 0, .int (-1), .int 0, .ref h13, .int 0, .ref h14, .ref h15, .int 0, .int 0, .ref h16, .int 0, .int 0, .int 0, .int 0]))] H := hP
  have hD : va_D A [(h1, .inl (w0, 940, .inl (upd (upd (upd (upd f0 16 z3) 17 z6) 18 z9) 19 z12))), (h0, .inr (11, [.int 0, .ref h1, .int 20, .int 0, .int 0, .int 0, .int 0, .int 0, .int 0, .int 0, .int 0, .int 0, .long 0, .int 0, .ref h2, .ref h3, .ref h4, .ref h5, .ref h6, .ref h7, .ref h8, .ref h9, .ref h10, .int 0, .int 0, .int 0, .int 0, .int (-1), .int (-1), .long 0, .long 0, .ref h11, .ref h12, .int 0, .int (-1), .int 0, .ref h13, .int 0, .ref h14, .ref h15, .int 0, .int 0, .ref h16, .int 0, .int 0, .int 0, .int 0]))] := hD
  refine lv_iinc (v := (-8)) (lv' := [(2, .int (-8)), (0, .ref h0), (1, .int p0)]) hx hb dX12_come_33 hl (k := 0) rfl (by decide) (by decide) rfl (fun ls hl => ?_)
  refine lv_goto (tgt := 3) hx hb dX12_come_36 (by decide) ?_
  refine lv_iload_n hx hb dX12_come_3 rfl (lv_at hl 0 rfl) ?_
  refine lv_if_lt (tgt := 39) hx hb dX12_come_4 (by decide) (fun _ => ?_) (fun c13 => absurd (by decide) c13)
  have hP9 := hP.sub (ws' := [(h1, .inl (w0, 940, .inl (upd (upd (upd (upd f0 16 z3) 17 z6) 18 z9) 19 z12))), (h0, .inr (11, [.int 0, .ref h1, .int 20, .int 0, .int 0, .int 0, .int 0, .int 0, .int 0, .int 0, .int 0, .int 0, .long 0, .int 0, .ref h2, .ref h3, .ref h4, .ref h5, .ref h6, .ref h7, .ref h8, .ref h9, .ref h10, .int 0, .int 0, .int 0, .int 0, .int (-1), .int (-1), .long 0, .long 0, .ref h11, .ref h12, .int 0, .int (-1), .int 0, .ref h13, .int 0, .ref h14, .ref h15, .int 0, .int 0, .ref h16, .int 0, .int 0, .int 0, .int 0]))]) [0, 1] rfl
  have hD9 := hD.sub (ws' := [(h1, .inl (w0, 940, .inl (upd (upd (upd (upd f0 16 z3) 17 z6) 18 z9) 19 z12))), (h0, .inr (11, [.int 0, .ref h1, .int 20, .int 0, .int 0, .int 0, .int 0, .int 0, .int 0, .int 0, .int 0, .int 0, .long 0, .int 0, .ref h2, .ref h3, .ref h4, .ref h5, .ref h6, .ref h7, .ref h8, .ref h9, .ref h10, .int 0, .int 0, .int 0, .int 0, .int (-1), .int (-1), .long 0, .long 0, .ref h11, .ref h12, .int 0, .int (-1), .int 0, .ref h13, .int 0, .ref h14, .ref h15, .int 0, .int 0, .ref h16, .int 0, .int 0, .int 0, .int 0]))]) [0, 1] (by decide) rfl
  have hK9 := hK.sub (tys' := []) [] rfl
  refine W.widen (k := 0) (n := 0) (Nat.le_of_ble_eq_true rfl) (Nat.le_of_ble_eq_true rfl) ?_
  exact W.vret hx hb hr (fun t ht hW => ⟨⟨(), rfl, trivial, (upd (upd (upd (upd f0 16 z3) 17 z6) 18 z9) 19 z12), by rw [ht]; exact hP9, va_K.moved hW.alike hK9, hD9⟩, hS.F ht⟩) hS.2.2 dX12_come_39
set_option maxHeartbeats 4000000 in
set_option maxRecDepth 100000 in
theorem k_X12_feed (l : Launch) (dC : Nat → ClassId) (dI : Nat → Nat → Nat) (ad : Nat → Nat) (h0 h1 h2 h3 h4 h5 h6 h7 h8 h9 h10 h11 h12 h13 h14 h15 h16 : Nat) (p0 p1 p2 p3 p4 : Int32) (w0 : ClassId) (sz : Nat) : Met l yX12_feed wsX12_feed ({ frames := 1, cells := 0, slots := 0, locals := 22 }) (va_Pc [.ref h0, .int p0, .int p1, .int p2, .int p3, .int p4] (CP (dC, dI) [(h1, .inl (w0, 940, .inl (fun _ => 0))), (h0, .inr (11, [.int 0, .ref h1, .int 0, .int 0, .int 0, .int 0, .int 0, .int 0, .int 0, .int 0, .int 0, .int 0, .long 0, .int 0, .ref h2, .ref h3, .ref h4, .ref h5, .ref h6, .ref h7, .ref h8, .ref h9, .ref h10, .int 0, .int 0, .int 0, .int 0, .int (-1), .int (-1), .long 0, .long 0, .ref h11, .ref h12, .int 0, .int (-1), .int 0, .ref h13, .int 0, .ref h14, .ref h15, .int 0, .int 0, .ref h16, .int 0, .int 0, .int 0, .int 0]))] [(w0, .int)] sz ad)) (va_Qi (fun (r : Int32) (_ : Unit) => r = 20) (fun (_ : Unit) (t : State) => CQ (dC, dI) [] [] (va_A [(h1, .inl (w0, 940, .inl (fun _ => 0))), (h0, .inr (11, [.int 0, .ref h1, .int 0, .int 0, .int 0, .int 0, .int 0, .int 0, .int 0, .int 0, .int 0, .int 0, .long 0, .int 0, .ref h2, .ref h3, .ref h4, .ref h5, .ref h6, .ref h7, .ref h8, .ref h9, .ref h10, .int 0, .int 0, .int 0, .int 0, .int (-1), .int (-1), .long 0, .long 0, .ref h11, .ref h12, .int 0, .int (-1), .int 0, .ref h13, .int 0, .ref h14, .ref h15, .int 0, .int 0, .ref h16, .int 0, .int 0, .int 0, .int 0]))] sz) t) (va_A [(h1, .inl (w0, 940, .inl (fun _ => 0))), (h0, .inr (11, [.int 0, .ref h1, .int 0, .int 0, .int 0, .int 0, .int 0, .int 0, .int 0, .int 0, .int 0, .int 0, .long 0, .int 0, .ref h2, .ref h3, .ref h4, .ref h5, .ref h6, .ref h7, .ref h8, .ref h9, .ref h10, .int 0, .int 0, .int 0, .int 0, .int (-1), .int (-1), .long 0, .long 0, .ref h11, .ref h12, .int 0, .int (-1), .int 0, .ref h13, .int 0, .ref h14, .ref h15, .int 0, .int 0, .ref h16, .int 0, .int 0, .int 0, .int 0]))] sz)) 0 0 (va_A [(h1, .inl (w0, 940, .inl (fun _ => 0))), (h0, .inr (11, [.int 0, .ref h1, .int 0, .int 0, .int 0, .int 0, .int 0, .int 0, .int 0, .int 0, .int 0, .int 0, .long 0, .int 0, .ref h2, .ref h3, .ref h4, .ref h5, .ref h6, .ref h7, .ref h8, .ref h9, .ref h10, .int 0, .int 0, .int 0, .int 0, .int (-1), .int (-1), .long 0, .long 0, .ref h11, .ref h12, .int 0, .int (-1), .int 0, .ref h13, .int 0, .ref h14, .ref h15, .int 0, .int 0, .ref h16, .int 0, .int 0, .int 0, .int 0]))] sz) := by
  refine Met.ofW (cc := cX12_feed) (maxL := 6) (ret := (some .int)) (by decide) rfl ?_
  intro p e s m args below meth c s₁ B hml hv
  obtain ⟨rfl, hsz, hP, hK, hD0, hE⟩ := hv
  have hx := B.exec
  have hb := B.bytes
  have hr := B.returns
  have hts := atoms_spec (ws := wsX12_feed) B.pre
  have hown : s.vm.findClass RX12 = some m.cls := findClass_of_methodNamed B.named
  have hlocks := B.notSynchronized
  subst hsz
  have hD := hD0.self (sz := s.heap.size)
  generalize hAe : va_A [(h1, .inl (w0, 940, .inl (fun _ => 0))), (h0, .inr (11, [.int 0, .ref h1, .int 0, .int 0, .int 0, .int 0, .int 0, .int 0, .int 0, .int 0, .int 0, .int 0, .long 0, .int 0, .ref h2, .ref h3, .ref h4, .ref h5, .ref h6, .ref h7, .ref h8, .ref h9, .ref h10, .int 0, .int 0, .int 0, .int 0, .int (-1), .int (-1), .long 0, .long 0, .ref h11, .ref h12, .int 0, .int (-1), .int 0, .ref h13, .int 0, .ref h14, .ref h15, .int 0, .int 0, .ref h16, .int 0, .int 0, .int 0, .int 0]))] s.heap.size = A at hD hE ⊢
  have hA : ∀ q : Nat, s.heap.size ≤ q → A q := fun q h => by rw [← hAe]; exact Or.inr h
  have hS : va_S A s.heap s.heap [] := va_S.rf
  have hl := lv_entry ([.ref h0, .int p0, .int p1, .int p2, .int p3, .int p4]) (n := 6) (Nat.le_of_ble_eq_true rfl)
  rw [lg_entry_eq]
  generalize (lg_sl ([.ref h0, .int p0, .int p1, .int p2, .int p3, .int p4]) ++ List.replicate (6 - (lg_sl ([.ref h0, .int p0, .int p1, .int p2, .int p3, .int p4])).length) Slot.unset).toArray = ls at hl ⊢
  have hl : lv_has ls 6 [(0, .ref h0), (1, .int p0), (2, .int p1), (3, .int p2), (4, .int p3), (5, .int p4)] := hl
  refine lv_aload_n hx hb dX12_feed_0 rfl (lv_at hl 0 rfl) ?_
  refine lv_iconst (v := 0) hx hb dX12_feed_1 (by decide) ?_
  refine va_put (D := (dC, dI)) (ci := 11) (v := .int 0) (ty := .int) (C := RX12) (T := TX12) (N := 47) hx hb hts ii_X12_feed_X12 tyX12 tyX12_ok nmX12 hown hK hP hD hS 1 rfl rfl 0 (by decide) (hts _ mm_X12_feed_1) (fun _ h9 => h9) rfl (by decide +kernel) rfl rfl (Nat.le_of_ble_eq_true rfl) dX12_feed_2 (fun H locs hP hD hS => ?_)
  have hP : va_P (dC, dI) vwCl [(h1, .inl (w0, 940, .inl (fun _ => 0))), (h0, .inr (11, [.int 0, .ref h1, .int 0, .int 0, .int 0, .int 0, .int 0, .int 0, .int 0, .int 0, .int 0, .int 0, .long 0, .int 0, .ref h2, .ref h3, .ref h4, .ref h5, .ref h6, .ref h7, .ref h8, .ref h9, .ref h10, .int 0, .int 0, .int 0, .int 0, .int (-1), .int (-1), .long 0, .long 0, .ref h11, .ref h12, .int 0, .int (-1), .int 0, .ref h13, .int 0, .ref h14, .ref h15, .int 0, .int 0, .ref h16, .int 0, .int 0, .int 0, .int 0]))] H := hP
  have hD : va_D A [(h1, .inl (w0, 940, .inl (fun _ => 0))), (h0, .inr (11, [.int 0, .ref h1, .int 0, .int 0, .int 0, .int 0, .int 0, .int 0, .int 0, .int 0, .int 0, .int 0, .long 0, .int 0, .ref h2, .ref h3, .ref h4, .ref h5, .ref h6, .ref h7, .ref h8, .ref h9, .ref h10, .int 0, .int 0, .int 0, .int 0, .int (-1), .int (-1), .long 0, .long 0, .ref h11, .ref h12, .int 0, .int (-1), .int 0, .ref h13, .int 0, .ref h14, .ref h15, .int 0, .int 0, .ref h16, .int 0, .int 0, .int 0, .int 0]))] := hD
  refine lv_aload_n hx hb dX12_feed_5 rfl (lv_at hl 0 rfl) ?_
  refine va_get (D := (dC, dI)) (ci := 11) (v := .int 0) (C := RX12) (T := TX12) (N := 47) hx hb hts ii_X12_feed_X12 hown hK hP 1 rfl rfl 2 (by decide) (hts _ mm_X12_feed_2) (fun _ h9 => h9) rfl dX12_feed_6 ?_
  refine lv_bipush (v := 20) hx hb dX12_feed_9 (by decide) ?_
  refine lv_iadd hx hb dX12_feed_11 ?_
  refine zz_top (v := 20) (by decide) ?_
  refine lv_sipush (v := 940) hx hb dX12_feed_12 (by decide) ?_
  refine lv_icmp_le (tgt := 20) hx hb dX12_feed_15 (by decide) (fun _ => ?_) (fun c1 => absurd (by decide) c1)
  refine lv_aload_n hx hb dX12_feed_20 rfl (lv_at hl 0 rfl) ?_
  refine lv_iload_n hx hb dX12_feed_21 rfl (lv_at hl 1 rfl) ?_
  have hPc := hP.sub (ws' := [(h1, .inl (w0, 940, .inl (fun _ => 0))), (h0, .inr (11, [.int 0, .ref h1, .int 0, .int 0, .int 0, .int 0, .int 0, .int 0, .int 0, .int 0, .int 0, .int 0, .long 0, .int 0, .ref h2, .ref h3, .ref h4, .ref h5, .ref h6, .ref h7, .ref h8, .ref h9, .ref h10, .int 0, .int 0, .int 0, .int 0, .int (-1), .int (-1), .long 0, .long 0, .ref h11, .ref h12, .int 0, .int (-1), .int 0, .ref h13, .int 0, .ref h14, .ref h15, .int 0, .int 0, .ref h16, .int 0, .int 0, .int 0, .int 0]))]) [0, 1] rfl
  have hDc := hD.sub (ws' := [(h1, .inl (w0, 940, .inl (fun _ => 0))), (h0, .inr (11, [.int 0, .ref h1, .int 0, .int 0, .int 0, .int 0, .int 0, .int 0, .int 0, .int 0, .int 0, .int 0, .long 0, .int 0, .ref h2, .ref h3, .ref h4, .ref h5, .ref h6, .ref h7, .ref h8, .ref h9, .ref h10, .int 0, .int 0, .int 0, .int 0, .int (-1), .int (-1), .long 0, .long 0, .ref h11, .ref h12, .int 0, .int (-1), .int 0, .ref h13, .int 0, .ref h14, .ref h15, .int 0, .int 0, .ref h16, .int 0, .int 0, .int 0, .int 0]))]) [0, 1] (by decide) rfl
  have hKc := hK.sub (tys' := [(w0, .int)]) [0] rfl
  have hFc := va_free (wc := [(h1, .inl (w0, 940, .inl (fun _ => 0))), (h0, .inr (11, [.int 0, .ref h1, .int 0, .int 0, .int 0, .int 0, .int 0, .int 0, .int 0, .int 0, .int 0, .int 0, .long 0, .int 0, .ref h2, .ref h3, .ref h4, .ref h5, .ref h6, .ref h7, .ref h8, .ref h9, .ref h10, .int 0, .int 0, .int 0, .int 0, .int (-1), .int (-1), .long 0, .long 0, .ref h11, .ref h12, .int 0, .int (-1), .int 0, .ref h13, .int 0, .ref h14, .ref h15, .int 0, .int 0, .ref h16, .int 0, .int 0, .int 0, .int 0]))]) hD hS hA [0, 1] rfl
  refine va_callv (va_runV (As := [.int p0]) (rest := []) ⟨hx, hb, hml, hown, hts⟩ (k_X12_come l dC dI ad h0 h1 h2 h3 h4 h5 h6 h7 h8 h9 h10 h11 h12 h13 h14 h15 h16 p0 w0 H.size) (cwV 1 hts gX12_feed_X12_come rfl rfl rfl (by decide +kernel) ⟨Nat.le_of_ble_eq_true rfl, Nat.le_of_ble_eq_true rfl⟩) ⟨fun a U g mk q => ⟨q.1, CP.blind q.2⟩, va_recv hKc hPc (ci := 11) (q0 := 1) rfl rfl, fun U hU hW => ⟨rfl, CP.of hPc hKc hDc hE hS hFc hU hW⟩⟩ rfl rfl hl.1 rfl (lv_room (Nat.le_of_ble_eq_true rfl)) dX12_feed_22 ⟨Nat.le_of_ble_eq_true rfl, Nat.le_of_ble_eq_true rfl⟩) hS (fun q _ h => hFc q h) hFc (fun u t H1 locs ht hvm hw hB hz1 hk1 hS => ?_)
  obtain ⟨f2, hP1, hK1, hD1⟩ := hB
  rw [ht] at hP1
  obtain ⟨hP, hD⟩ := va_join (wr := []) (w1 := [(h1, .inl (w0, 940, .inl f2)), (h0, .inr (11, [.int 0, .ref h1, .int 4, .int 0, .int 0, .int 0, .int 0, .int 0, .int 0, .int 0, .int 0, .int 0, .long 0, .int 0, .ref h2, .ref h3, .ref h4, .ref h5, .ref h6, .ref h7, .ref h8, .ref h9, .ref h10, .int 0, .int 0, .int 0, .int 0, .int (-1), .int (-1), .long 0, .long 0, .ref h11, .ref h12, .int 0, .int (-1), .int 0, .ref h13, .int 0, .ref h14, .ref h15, .int 0, .int 0, .ref h16, .int 0, .int 0, .int 0, .int 0]))]) hP hD [0, 1] [] rfl rfl (by decide) (by decide) hk1 hFc hP1 hD1
  generalize H1 = H at hP hS ⊢
  clear hPc hDc hKc hFc hP1 hD1 hK1 hk1 hz1
  have hP : va_P (dC, dI) vwCl [(h1, .inl (w0, 940, .inl f2)), (h0, .inr (11, [.int 0, .ref h1, .int 4, .int 0, .int 0, .int 0, .int 0, .int 0, .int 0, .int 0, .int 0, .int 0, .long 0, .int 0, .ref h2, .ref h3, .ref h4, .ref h5, .ref h6, .ref h7, .ref h8, .ref h9, .ref h10, .int 0, .int 0, .int 0, .int 0, .int (-1), .int (-1), .long 0, .long 0, .ref h11, .ref h12, .int 0, .int (-1), .int 0, .ref h13, .int 0, .ref h14, .ref h15, .int 0, .int 0, .ref h16, .int 0, .int 0, .int 0, .int 0]))] H := hP
  have hD : va_D A [(h1, .inl (w0, 940, .inl f2)), (h0, .inr (11, [.int 0, .ref h1, .int 4, .int 0, .int 0, .int 0, .int 0, .int 0, .int 0, .int 0, .int 0, .int 0, .long 0, .int 0, .ref h2, .ref h3, .ref h4, .ref h5, .ref h6, .ref h7, .ref h8, .ref h9, .ref h10, .int 0, .int 0, .int 0, .int 0, .int (-1), .int (-1), .long 0, .long 0, .ref h11, .ref h12, .int 0, .int (-1), .int 0, .ref h13, .int 0, .ref h14, .ref h15, .int 0, .int 0, .ref h16, .int 0, .int 0, .int 0, .int 0]))] := hD
  refine lv_aload_n hx hb dX12_feed_25 rfl (lv_at hl 0 rfl) ?_
  refine lv_iload_n hx hb dX12_feed_26 rfl (lv_at hl 2 rfl) ?_
  have hPc := hP.sub (ws' := [(h1, .inl (w0, 940, .inl f2)), (h0, .inr (11, [.int 0, .ref h1, .int 4, .int 0, .int 0, .int 0, .int 0, .int 0, .int 0, .int 0, .int 0, .int 0, .long 0, .int 0, .ref h2, .ref h3, .ref h4, .ref h5, .ref h6, .ref h7, .ref h8, .ref h9, .ref h10, .int 0, .int 0, .int 0, .int 0, .int (-1), .int (-1), .long 0, .long 0, .ref h11, .ref h12, .int 0, .int (-1), .int 0, .ref h13, .int 0, .ref h14, .ref h15, .int 0, .int 0, .ref h16, .int 0, .int 0, .int 0, .int 0]))]) [0, 1] rfl
  have hDc := hD.sub (ws' := [(h1, .inl (w0, 940, .inl f2)), (h0, .inr (11, [.int 0, .ref h1, .int 4, .int 0, .int 0, .int 0, .int 0, .int 0, .int 0, .int 0, .int 0, .int 0, .long 0, .int 0, .ref h2, .ref h3, .ref h4, .ref h5, .ref h6, .ref h7, .ref h8, .ref h9, .ref h10, .int 0, .int 0, .int 0, .int 0, .int (-1), .int (-1), .long 0, .long 0, .ref h11, .ref h12, .int 0, .int (-1), .int 0, .ref h13, .int 0, .ref h14, .ref h15, .int 0, .int 0, .ref h16, .int 0, .int 0, .int 0, .int 0]))]) [0, 1] (by decide) rfl
  have hKc := hK.sub (tys' := [(w0, .int)]) [0] rfl
  have hFc := va_free (wc := [(h1, .inl (w0, 940, .inl f2)), (h0, .inr (11, [.int 0, .ref h1, .int 4, .int 0, .int 0, .int 0, .int 0, .int 0, .int 0, .int 0, .int 0, .int 0, .long 0, .int 0, .ref h2, .ref h3, .ref h4, .ref h5, .ref h6, .ref h7, .ref h8, .ref h9, .ref h10, .int 0, .int 0, .int 0, .int 0, .int (-1), .int (-1), .long 0, .long 0, .ref h11, .ref h12, .int 0, .int (-1), .int 0, .ref h13, .int 0, .ref h14, .ref h15, .int 0, .int 0, .ref h16, .int 0, .int 0, .int 0, .int 0]))]) hD hS hA [0, 1] rfl
  refine va_callv (va_runV (As := [.int p1]) (rest := []) ⟨hx, hb, hml, hown, hts⟩ (k_X12_come_1 l dC dI ad h0 h1 h2 h3 h4 h5 h6 h7 h8 h9 h10 h11 h12 h13 h14 h15 h16 p1 f2 w0 H.size) (cwV 1 hts gX12_feed_X12_come rfl rfl rfl (by decide +kernel) ⟨Nat.le_of_ble_eq_true rfl, Nat.le_of_ble_eq_true rfl⟩) ⟨fun a U g mk q => ⟨q.1, CP.blind q.2⟩, va_recv hKc hPc (ci := 11) (q0 := 1) rfl rfl, fun U hU hW => ⟨rfl, CP.of hPc hKc hDc hE hS hFc hU hW⟩⟩ rfl rfl hl.1 rfl (lv_room (Nat.le_of_ble_eq_true rfl)) dX12_feed_27 ⟨Nat.le_of_ble_eq_true rfl, Nat.le_of_ble_eq_true rfl⟩) hS (fun q _ h => hFc q h) hFc (fun u t H1 locs ht hvm hw hB hz1 hk1 hS => ?_)
  obtain ⟨f3, hP1, hK1, hD1⟩ := hB
  rw [ht] at hP1
  obtain ⟨hP, hD⟩ := va_join (wr := []) (w1 := [(h1, .inl (w0, 940, .inl f3)), (h0, .inr (11, [.int 0, .ref h1, .int 8, .int 0, .int 0, .int 0, .int 0, .int 0, .int 0, .int 0, .int 0, .int 0, .long 0, .int 0, .ref h2, .ref h3, .ref h4, .ref h5, .ref h6, .ref h7, .ref h8, .ref h9, .ref h10, .int 0, .int 0, .int 0, .int 0, .int (-1), .int (-1), .long 0, .long 0, .ref h11, .ref h12, .int 0, .int (-1), .int 0, .ref h13, .int 0, .ref h14, .ref h15, .int 0, .int 0, .ref h16, .int 0, .int 0, .int 0, .int 0]))]) hP hD [0, 1] [] rfl rfl (by decide) (by decide) hk1 hFc hP1 hD1
  generalize H1 = H at hP hS ⊢
  clear hPc hDc hKc hFc hP1 hD1 hK1 hk1 hz1
  have hP : va_P (dC, dI) vwCl [(h1, .inl (w0, 940, .inl f3)), (h0, .inr (11, [.int 0, .ref h1, .int 8, .int 0, .int 0, .int 0, .int 0, .int 0, .int 0, .int 0, .int 0, .int 0, .long 0, .int 0, .ref h2, .ref h3, .ref h4, .ref h5, .ref h6, .ref h7, .ref h8, .ref h9, .ref h10, .int 0, .int 0, .int 0, .int 0, .int (-1), .int (-1), .long 0, .long 0, .ref h11, .ref h12, .int 0, .int (-1), .int 0, .ref h13, .int 0, .ref h14, .ref h15, .int 0, .int 0, .ref h16, .int 0, .int 0, .int 0, .int 0]))] H := hP
  have hD : va_D A [(h1, .inl (w0, 940, .inl f3)), (h0, .inr (11, [.int 0, .ref h1, .int 8, .int 0, .int 0, .int 0, .int 0, .int 0, .int 0, .int 0, .int 0, .int 0, .long 0, .int 0, .ref h2, .ref h3, .ref h4, .ref h5, .ref h6, .ref h7, .ref h8, .ref h9, .ref h10, .int 0, .int 0, .int 0, .int 0, .int (-1), .int (-1), .long 0, .long 0, .ref h11, .ref h12, .int 0, .int (-1), .int 0, .ref h13, .int 0, .ref h14, .ref h15, .int 0, .int 0, .ref h16, .int 0, .int 0, .int 0, .int 0]))] := hD
  refine lv_aload_n hx hb dX12_feed_30 rfl (lv_at hl 0 rfl) ?_
  refine lv_iload_n hx hb dX12_feed_31 rfl (lv_at hl 3 rfl) ?_
  have hPc := hP.sub (ws' := [(h1, .inl (w0, 940, .inl f3)), (h0, .inr (11, [.int 0, .ref h1, .int 8, .int 0, .int 0, .int 0, .int 0, .int 0, .int 0, .int 0, .int 0, .int 0, .long 0, .int 0, .ref h2, .ref h3, .ref h4, .ref h5, .ref h6, .ref h7, .ref h8, .ref h9, .ref h10, .int 0, .int 0, .int 0, .int 0, .int (-1), .int (-1), .long 0, .long 0, .ref h11, .ref h12, .int 0, .int (-1), .int 0, .ref h13, .int 0, .ref h14, .ref h15, .int 0, .int 0, .ref h16, .int 0, .int 0, .int 0, .int 0]))]) [0, 1] rfl
  have hDc := hD.sub (ws' := [(h1, .inl (w0, 940, .inl f3)), (h0, .inr (11, [.int 0, .ref h1, .int 8, .int 0, .int 0, .int 0, .int 0, .int 0, .int 0, .int 0, .int 0, .int 0, .long 0, .int 0, .ref h2, .ref h3, .ref h4, .ref h5, .ref h6, .ref h7, .ref h8, .ref h9, .ref h10, .int 0, .int 0, .int 0, .int 0, .int (-1), .int (-1), .long 0, .long 0, .ref h11, .ref h12, .int 0, .int (-1), .int 0, .ref h13, .int 0, .ref h14, .ref h15, .int 0, .int 0, .ref h16, .int 0, .int 0, .int 0, .int 0]))]) [0, 1] (by decide) rfl
  have hKc := hK.sub (tys' := [(w0, .int)]) [0] rfl
  have hFc := va_free (wc := [(h1, .inl (w0, 940, .inl f3)), (h0, .inr (11, [.int 0, .ref h1, .int 8, .int 0, .int 0, .int 0, .int 0, .int 0, .int 0, .int 0, .int 0, .int 0, .long 0, .int 0, .ref h2, .ref h3, .ref h4, .ref h5, .ref h6, .ref h7, .ref h8, .ref h9, .ref h10, .int 0, .int 0, .int 0, .int 0, .int (-1), .int (-1), .long 0, .long 0, .ref h11, .ref h12, .int 0, .int (-1), .int 0, .ref h13, .int 0, .ref h14, .ref h15, .int 0, .int 0, .ref h16, .int 0, .int 0, .int 0, .int 0]))]) hD hS hA [0, 1] rfl
  refine va_callv (va_runV (As := [.int p2]) (rest := []) ⟨hx, hb, hml, hown, hts⟩ (k_X12_come_2 l dC dI ad h0 h1 h2 h3 h4 h5 h6 h7 h8 h9 h10 h11 h12 h13 h14 h15 h16 p2 f3 w0 H.size) (cwV 1 hts gX12_feed_X12_come rfl rfl rfl (by decide +kernel) ⟨Nat.le_of_ble_eq_true rfl, Nat.le_of_ble_eq_true rfl⟩) ⟨fun a U g mk q => ⟨q.1, CP.blind q.2⟩, va_recv hKc hPc (ci := 11) (q0 := 1) rfl rfl, fun U hU hW => ⟨rfl, CP.of hPc hKc hDc hE hS hFc hU hW⟩⟩ rfl rfl hl.1 rfl (lv_room (Nat.le_of_ble_eq_true rfl)) dX12_feed_32 ⟨Nat.le_of_ble_eq_true rfl, Nat.le_of_ble_eq_true rfl⟩) hS (fun q _ h => hFc q h) hFc (fun u t H1 locs ht hvm hw hB hz1 hk1 hS => ?_)
  obtain ⟨f4, hP1, hK1, hD1⟩ := hB
  rw [ht] at hP1
  obtain ⟨hP, hD⟩ := va_join (wr := []) (w1 := [(h1, .inl (w0, 940, .inl f4)), (h0, .inr (11, [.int 0, .ref h1, .int 12, .int 0, .int 0, .int 0, .int 0, .int 0, .int 0, .int 0, .int 0, .int 0, .long 0, .int 0, .ref h2, .ref h3, .ref h4, .ref h5, .ref h6, .ref h7, .ref h8, .ref h9, .ref h10, .int 0, .int 0, .int 0, .int 0, .int (-1), .int (-1), .long 0, .long 0, .ref h11, .ref h12, .int 0, .int (-1), .int 0, .ref h13, .int 0, .ref h14, .ref h15, .int 0, .int 0, .ref h16, .int 0, .int 0, .int 0, .int 0]))]) hP hD [0, 1] [] rfl rfl (by decide) (by decide) hk1 hFc hP1 hD1
  generalize H1 = H at hP hS ⊢
  clear hPc hDc hKc hFc hP1 hD1 hK1 hk1 hz1
  have hP : va_P (dC, dI) vwCl [(h1, .inl (w0, 940, .inl f4)), (h0, .inr (11, [.int 0, .ref h1, .int 12, .int 0, .int 0, .int 0, .int 0, .int 0, .int 0, .int 0, .int 0, .int 0, .long 0, .int 0, .ref h2, .ref h3, .ref h4, .ref h5, .ref h6, .ref h7, .ref h8, .ref h9, .ref h10, .int 0, .int 0, .int 0, .int 0, .int (-1), .int (-1), .long 0, .long 0, .ref h11, .ref h12, .int 0, .int (-1), .int 0, .ref h13, .int 0, .ref h14, .ref h15, .int 0, .int 0, .ref h16, .int 0, .int 0, .int 0, .int 0]))] H := hP
  have hD : va_D A [(h1, .inl (w0, 940, .inl f4)), (h0, .inr (11, [.int 0, .ref h1, .int 12, .int 0, .int 0, .int 0, .int 0, .int 0, .int 0, .int 0, .int 0, .int 0, .long 0, .int 0, .ref h2, .ref h3, .ref h4, .ref h5, .ref h6, .ref h7, .ref h8, .ref h9, .ref h10, .int 0, .int 0, .int 0, .int 0, .int (-1), .int (-1), .long 0, .long 0, .ref h11, .ref h12, .int 0, .int (-1), .int 0, .ref h13, .int 0, .ref h14, .ref h15, .int 0, .int 0, .ref h16, .int 0, .int 0, .int 0, .int 0]))] := hD
  refine lv_aload_n hx hb dX12_feed_35 rfl (lv_at hl 0 rfl) ?_
  refine lv_iload hx hb dX12_feed_36 (lv_at hl 4 rfl) ?_
  have hPc := hP.sub (ws' := [(h1, .inl (w0, 940, .inl f4)), (h0, .inr (11, [.int 0, .ref h1, .int 12, .int 0, .int 0, .int 0, .int 0, .int 0, .int 0, .int 0, .int 0, .int 0, .long 0, .int 0, .ref h2, .ref h3, .ref h4, .ref h5, .ref h6, .ref h7, .ref h8, .ref h9, .ref h10, .int 0, .int 0, .int 0, .int 0, .int (-1), .int (-1), .long 0, .long 0, .ref h11, .ref h12, .int 0, .int (-1), .int 0, .ref h13, .int 0, .ref h14, .ref h15, .int 0, .int 0, .ref h16, .int 0, .int 0, .int 0, .int 0]))]) [0, 1] rfl
  have hDc := hD.sub (ws' := [(h1, .inl (w0, 940, .inl f4)), (h0, .inr (11, [.int 0, .ref h1, .int 12, .int 0, .int 0, .int 0, .int 0, .int 0, .int 0, .int 0, .int 0, .int 0, .long 0, .int 0, .ref h2, .ref h3, .ref h4, .ref h5, .ref h6, .ref h7, .ref h8, .ref h9, .ref h10, .int 0, .int 0, .int 0, .int 0, .int (-1), .int (-1), .long 0, .long 0, .ref h11, .ref h12, .int 0, .int (-1), .int 0, .ref h13, .int 0, .ref h14, .ref h15, .int 0, .int 0, .ref h16, .int 0, .int 0, .int 0, .int 0]))]) [0, 1] (by decide) rfl
  have hKc := hK.sub (tys' := [(w0, .int)]) [0] rfl
  have hFc := va_free (wc := [(h1, .inl (w0, 940, .inl f4)), (h0, .inr (11, [.int 0, .ref h1, .int 12, .int 0, .int 0, .int 0, .int 0, .int 0, .int 0, .int 0, .int 0, .int 0, .long 0, .int 0, .ref h2, .ref h3, .ref h4, .ref h5, .ref h6, .ref h7, .ref h8, .ref h9, .ref h10, .int 0, .int 0, .int 0, .int 0, .int (-1), .int (-1), .long 0, .long 0, .ref h11, .ref h12, .int 0, .int (-1), .int 0, .ref h13, .int 0, .ref h14, .ref h15, .int 0, .int 0, .ref h16, .int 0, .int 0, .int 0, .int 0]))]) hD hS hA [0, 1] rfl
  refine va_callv (va_runV (As := [.int p3]) (rest := []) ⟨hx, hb, hml, hown, hts⟩ (k_X12_come_3 l dC dI ad h0 h1 h2 h3 h4 h5 h6 h7 h8 h9 h10 h11 h12 h13 h14 h15 h16 p3 f4 w0 H.size) (cwV 1 hts gX12_feed_X12_come rfl rfl rfl (by decide +kernel) ⟨Nat.le_of_ble_eq_true rfl, Nat.le_of_ble_eq_true rfl⟩) ⟨fun a U g mk q => ⟨q.1, CP.blind q.2⟩, va_recv hKc hPc (ci := 11) (q0 := 1) rfl rfl, fun U hU hW => ⟨rfl, CP.of hPc hKc hDc hE hS hFc hU hW⟩⟩ rfl rfl hl.1 rfl (lv_room (Nat.le_of_ble_eq_true rfl)) dX12_feed_38 ⟨Nat.le_of_ble_eq_true rfl, Nat.le_of_ble_eq_true rfl⟩) hS (fun q _ h => hFc q h) hFc (fun u t H1 locs ht hvm hw hB hz1 hk1 hS => ?_)
  obtain ⟨f5, hP1, hK1, hD1⟩ := hB
  rw [ht] at hP1
  obtain ⟨hP, hD⟩ := va_join (wr := []) (w1 := [(h1, .inl (w0, 940, .inl f5)), (h0, .inr (11, [.int 0, .ref h1, .int 16, .int 0, .int 0, .int 0, .int 0, .int 0, .int 0, .int 0, .int 0, .int 0, .long 0, .int 0, .ref h2, .ref h3, .ref h4, .ref h5, .ref h6, .ref h7, .ref h8, .ref h9, .ref h10, .int 0, .int 0, .int 0, .int 0, .int (-1), .int (-1), .long 0, .long 0, .ref h11, .ref h12, .int 0, .int (-1), .int 0, .ref h13, .int 0, .ref h14, .ref h15, .int 0, .int 0, .ref h16, .int 0, .int 0, .int 0, .int 0]))]) hP hD [0, 1] [] rfl rfl (by decide) (by decide) hk1 hFc hP1 hD1
  generalize H1 = H at hP hS ⊢
  clear hPc hDc hKc hFc hP1 hD1 hK1 hk1 hz1
  have hP : va_P (dC, dI) vwCl [(h1, .inl (w0, 940, .inl f5)), (h0, .inr (11, [.int 0, .ref h1, .int 16, .int 0, .int 0, .int 0, .int 0, .int 0, .int 0, .int 0, .int 0, .int 0, .long 0, .int 0, .ref h2, .ref h3, .ref h4, .ref h5, .ref h6, .ref h7, .ref h8, .ref h9, .ref h10, .int 0, .int 0, .int 0, .int 0, .int (-1), .int (-1), .long 0, .long 0, .ref h11, .ref h12, .int 0, .int (-1), .int 0, .ref h13, .int 0, .ref h14, .ref h15, .int 0, .int 0, .ref h16, .int 0, .int 0, .int 0, .int 0]))] H := hP
  have hD : va_D A [(h1, .inl (w0, 940, .inl f5)), (h0, .inr (11, [.int 0, .ref h1, .int 16, .int 0, .int 0, .int 0, .int 0, .int 0, .int 0, .int 0, .int 0, .int 0, .long 0, .int 0, .ref h2, .ref h3, .ref h4, .ref h5, .ref h6, .ref h7, .ref h8, .ref h9, .ref h10, .int 0, .int 0, .int 0, .int 0, .int (-1), .int (-1), .long 0, .long 0, .ref h11, .ref h12, .int 0, .int (-1), .int 0, .ref h13, .int 0, .ref h14, .ref h15, .int 0, .int 0, .ref h16, .int 0, .int 0, .int 0, .int 0]))] := hD
  refine lv_aload_n hx hb dX12_feed_41 rfl (lv_at hl 0 rfl) ?_
  refine lv_iload hx hb dX12_feed_42 (lv_at hl 5 rfl) ?_
  have hPc := hP.sub (ws' := [(h1, .inl (w0, 940, .inl f5)), (h0, .inr (11, [.int 0, .ref h1, .int 16, .int 0, .int 0, .int 0, .int 0, .int 0, .int 0, .int 0, .int 0, .int 0, .long 0, .int 0, .ref h2, .ref h3, .ref h4, .ref h5, .ref h6, .ref h7, .ref h8, .ref h9, .ref h10, .int 0, .int 0, .int 0, .int 0, .int (-1), .int (-1), .long 0, .long 0, .ref h11, .ref h12, .int 0, .int (-1), .int 0, .ref h13, .int 0, .ref h14, .ref h15, .int 0, .int 0, .ref h16, .int 0, .int 0, .int 0, .int 0]))]) [0, 1] rfl
  have hDc := hD.sub (ws' := [(h1, .inl (w0, 940, .inl f5)), (h0, .inr (11, [.int 0, .ref h1, .int 16, .int 0, .int 0, .int 0, .int 0, .int 0, .int 0, .int 0, .int 0, .int 0, .long 0, .int 0, .ref h2, .ref h3, .ref h4, .ref h5, .ref h6, .ref h7, .ref h8, .ref h9, .ref h10, .int 0, .int 0, .int 0, .int 0, .int (-1), .int (-1), .long 0, .long 0, .ref h11, .ref h12, .int 0, .int (-1), .int 0, .ref h13, .int 0, .ref h14, .ref h15, .int 0, .int 0, .ref h16, .int 0, .int 0, .int 0, .int 0]))]) [0, 1] (by decide) rfl
  have hKc := hK.sub (tys' := [(w0, .int)]) [0] rfl
  have hFc := va_free (wc := [(h1, .inl (w0, 940, .inl f5)), (h0, .inr (11, [.int 0, .ref h1, .int 16, .int 0, .int 0, .int 0, .int 0, .int 0, .int 0, .int 0, .int 0, .int 0, .long 0, .int 0, .ref h2, .ref h3, .ref h4, .ref h5, .ref h6, .ref h7, .ref h8, .ref h9, .ref h10, .int 0, .int 0, .int 0, .int 0, .int (-1), .int (-1), .long 0, .long 0, .ref h11, .ref h12, .int 0, .int (-1), .int 0, .ref h13, .int 0, .ref h14, .ref h15, .int 0, .int 0, .ref h16, .int 0, .int 0, .int 0, .int 0]))]) hD hS hA [0, 1] rfl
  refine va_callv (va_runV (As := [.int p4]) (rest := []) ⟨hx, hb, hml, hown, hts⟩ (k_X12_come_4 l dC dI ad h0 h1 h2 h3 h4 h5 h6 h7 h8 h9 h10 h11 h12 h13 h14 h15 h16 p4 f5 w0 H.size) (cwV 1 hts gX12_feed_X12_come rfl rfl rfl (by decide +kernel) ⟨Nat.le_of_ble_eq_true rfl, Nat.le_of_ble_eq_true rfl⟩) ⟨fun a U g mk q => ⟨q.1, CP.blind q.2⟩, va_recv hKc hPc (ci := 11) (q0 := 1) rfl rfl, fun U hU hW => ⟨rfl, CP.of hPc hKc hDc hE hS hFc hU hW⟩⟩ rfl rfl hl.1 rfl (lv_room (Nat.le_of_ble_eq_true rfl)) dX12_feed_44 ⟨Nat.le_of_ble_eq_true rfl, Nat.le_of_ble_eq_true rfl⟩) hS (fun q _ h => hFc q h) hFc (fun u t H1 locs ht hvm hw hB hz1 hk1 hS => ?_)
  obtain ⟨f6, hP1, hK1, hD1⟩ := hB
  rw [ht] at hP1
  obtain ⟨hP, hD⟩ := va_join (wr := []) (w1 := [(h1, .inl (w0, 940, .inl f6)), (h0, .inr (11, [.int 0, .ref h1, .int 20, .int 0, .int 0, .int 0, .int 0, .int 0, .int 0, .int 0, .int 0, .int 0, .long 0, .int 0, .ref h2, .ref h3, .ref h4, .ref h5, .ref h6, .ref h7, .ref h8, .ref h9, .ref h10, .int 0, .int 0, .int 0, .int 0, .int (-1), .int (-1), .long 0, .long 0, .ref h11, .ref h12, .int 0, .int (-1), .int 0, .ref h13, .int 0, .ref h14, .ref h15, .int 0, .int 0, .ref h16, .int 0, .int 0, .int 0, .int 0]))]) hP hD [0, 1] [] rfl rfl (by decide) (by decide) hk1 hFc hP1 hD1
  generalize H1 = H at hP hS ⊢
  clear hPc hDc hKc hFc hP1 hD1 hK1 hk1 hz1
  have hP : va_P (dC, dI) vwCl [(h1, .inl (w0, 940, .inl f6)), (h0, .inr (11, [.int 0, .ref h1, .int 20, .int 0, .int 0, .int 0, .int 0, .int 0, .int 0, .int 0, .int 0, .int 0, .long 0, .int 0, .ref h2, .ref h3, .ref h4, .ref h5, .ref h6, .ref h7, .ref h8, .ref h9, .ref h10, .int 0, .int 0, .int 0, .int 0, .int (-1), .int (-1), .long 0, .long 0, .ref h11, .ref h12, .int 0, .int (-1), .int 0, .ref h13, .int 0, .ref h14, .ref h15, .int 0, .int 0, .ref h16, .int 0, .int 0, .int 0, .int 0]))] H := hP
  have hD : va_D A [(h1, .inl (w0, 940, .inl f6)), (h0, .inr (11, [.int 0, .ref h1, .int 20, .int 0, .int 0, .int 0, .int 0, .int 0, .int 0, .int 0, .int 0, .int 0, .long 0, .int 0, .ref h2, .ref h3, .ref h4, .ref h5, .ref h6, .ref h7, .ref h8, .ref h9, .ref h10, .int 0, .int 0, .int 0, .int 0, .int (-1), .int (-1), .long 0, .long 0, .ref h11, .ref h12, .int 0, .int (-1), .int 0, .ref h13, .int 0, .ref h14, .ref h15, .int 0, .int 0, .ref h16, .int 0, .int 0, .int 0, .int 0]))] := hD
  refine lv_aload_n hx hb dX12_feed_47 rfl (lv_at hl 0 rfl) ?_
  refine va_get (D := (dC, dI)) (ci := 11) (v := .int 20) (C := RX12) (T := TX12) (N := 47) hx hb hts ii_X12_feed_X12 hown hK hP 1 rfl rfl 2 (by decide) (hts _ mm_X12_feed_2) (fun _ h9 => h9) rfl dX12_feed_48 ?_
  have hP9 := hP.sub (ws' := []) [] rfl
  have hD9 := hD.sub (ws' := []) [] (by decide) rfl
  have hK9 := hK.sub (tys' := []) [] rfl
  refine W.widen (k := 0) (n := 0) (Nat.le_of_ble_eq_true rfl) (Nat.le_of_ble_eq_true rfl) ?_
  exact W.iret (v := 20) hx hb hr (fun t ht hW => ⟨⟨20, (), rfl, rfl, by rw [ht]; exact hP9, va_K.moved hW.alike hK9, hD9⟩, hS.F ht⟩) hS.2.2 dX12_feed_51
set_option maxHeartbeats 4000000 in
set_option maxRecDepth 100000 in
theorem k_X12_end (l : Launch) (dC : Nat → ClassId) (dI : Nat → Nat → Nat) (ad : Nat → Nat) (h0 h1 h2 h3 h4 h5 h6 h7 h8 h9 h10 h11 h12 h13 h14 h15 h16 : Nat) (sz : Nat) : Met l yX12_end wsX12_end ({ frames := 0, cells := 0, slots := 0, locals := 0 }) (va_Pc [.ref h0, .int 0] (CP (dC, dI) [(h0, .inr (11, [.int 0, .ref h1, .int 0, .int 0, .int 0, .int 0, .int 0, .int 0, .int 0, .int 0, .int 0, .int 0, .long 0, .int 0, .ref h2, .ref h3, .ref h4, .ref h5, .ref h6, .ref h7, .ref h8, .ref h9, .ref h10, .int 0, .int 0, .int 0, .int 0, .int (-1), .int (-1), .long 0, .long 0, .ref h11, .ref h12, .int 0, .int (-1), .int 0, .ref h13, .int 0, .ref h14, .ref h15, .int 0, .int 0, .ref h16, .int 0, .int 0, .int 0, .int 0]))] [] sz ad)) (va_Qi (fun (r : Int32) (_ : Unit) => r = 1) (fun (_ : Unit) (t : State) => CQ (dC, dI) [] [] (va_A [(h0, .inr (11, [.int 0, .ref h1, .int 0, .int 0, .int 0, .int 0, .int 0, .int 0, .int 0, .int 0, .int 0, .int 0, .long 0, .int 0, .ref h2, .ref h3, .ref h4, .ref h5, .ref h6, .ref h7, .ref h8, .ref h9, .ref h10, .int 0, .int 0, .int 0, .int 0, .int (-1), .int (-1), .long 0, .long 0, .ref h11, .ref h12, .int 0, .int (-1), .int 0, .ref h13, .int 0, .ref h14, .ref h15, .int 0, .int 0, .ref h16, .int 0, .int 0, .int 0, .int 0]))] sz) t) (va_A [(h0, .inr (11, [.int 0, .ref h1, .int 0, .int 0, .int 0, .int 0, .int 0, .int 0, .int 0, .int 0, .int 0, .int 0, .long 0, .int 0, .ref h2, .ref h3, .ref h4, .ref h5, .ref h6, .ref h7, .ref h8, .ref h9, .ref h10, .int 0, .int 0, .int 0, .int 0, .int (-1), .int (-1), .long 0, .long 0, .ref h11, .ref h12, .int 0, .int (-1), .int 0, .ref h13, .int 0, .ref h14, .ref h15, .int 0, .int 0, .ref h16, .int 0, .int 0, .int 0, .int 0]))] sz)) 0 0 (va_A [(h0, .inr (11, [.int 0, .ref h1, .int 0, .int 0, .int 0, .int 0, .int 0, .int 0, .int 0, .int 0, .int 0, .int 0, .long 0, .int 0, .ref h2, .ref h3, .ref h4, .ref h5, .ref h6, .ref h7, .ref h8, .ref h9, .ref h10, .int 0, .int 0, .int 0, .int 0, .int (-1), .int (-1), .long 0, .long 0, .ref h11, .ref h12, .int 0, .int (-1), .int 0, .ref h13, .int 0, .ref h14, .ref h15, .int 0, .int 0, .ref h16, .int 0, .int 0, .int 0, .int 0]))] sz) := by
  refine Met.ofW (cc := cX12_end) (maxL := 2) (ret := (some .boolean)) (by decide) rfl ?_
  intro p e s m args below meth c s₁ B hml hv
  obtain ⟨rfl, hsz, hP, hK, hD0, hE⟩ := hv
  have hx := B.exec
  have hb := B.bytes
  have hr := B.returns
  have hts := atoms_spec (ws := wsX12_end) B.pre
  have hown : s.vm.findClass RX12 = some m.cls := findClass_of_methodNamed B.named
  have hlocks := B.notSynchronized
  subst hsz
  have hD := hD0.self (sz := s.heap.size)
  generalize hAe : va_A [(h0, .inr (11, [.int 0, .ref h1, .int 0, .int 0, .int 0, .int 0, .int 0, .int 0, .int 0, .int 0, .int 0, .int 0, .long 0, .int 0, .ref h2, .ref h3, .ref h4, .ref h5, .ref h6, .ref h7, .ref h8, .ref h9, .ref h10, .int 0, .int 0, .int 0, .int 0, .int (-1), .int (-1), .long 0, .long 0, .ref h11, .ref h12, .int 0, .int (-1), .int 0, .ref h13, .int 0, .ref h14, .ref h15, .int 0, .int 0, .ref h16, .int 0, .int 0, .int 0, .int 0]))] s.heap.size = A at hD hE ⊢
  have hA : ∀ q : Nat, s.heap.size ≤ q → A q := fun q h => by rw [← hAe]; exact Or.inr h
  have hS : va_S A s.heap s.heap [] := va_S.rf
  have hl := lv_entry ([.ref h0, .int 0]) (n := 2) (Nat.le_of_ble_eq_true rfl)
  rw [lg_entry_eq]
  generalize (lg_sl ([.ref h0, .int 0]) ++ List.replicate (2 - (lg_sl ([.ref h0, .int 0])).length) Slot.unset).toArray = ls at hl ⊢
  have hl : lv_has ls 2 [(0, .ref h0), (1, .int 0)] := hl
  refine lv_aload_n hx hb dX12_end_0 rfl (lv_at hl 0 rfl) ?_
  refine lv_iconst (v := 0) hx hb dX12_end_1 (by decide) ?_
  refine va_put (D := (dC, dI)) (ci := 11) (v := .int 0) (ty := .int) (C := RX12) (T := TX12) (N := 47) hx hb hts ii_X12_end_X12 tyX12 tyX12_ok nmX12 hown hK hP hD hS 0 rfl rfl 0 (by decide) (hts _ mm_X12_end_1) (fun _ h9 => h9) rfl (by decide +kernel) rfl rfl (Nat.le_of_ble_eq_true rfl) dX12_end_2 (fun H locs hP hD hS => ?_)
  have hP : va_P (dC, dI) vwCl [(h0, .inr (11, [.int 0, .ref h1, .int 0, .int 0, .int 0, .int 0, .int 0, .int 0, .int 0, .int 0, .int 0, .int 0, .long 0, .int 0, .ref h2, .ref h3, .ref h4, .ref h5, .ref h6, .ref h7, .ref h8, .ref h9, .ref h10, .int 0, .int 0, .int 0, .int 0, .int (-1), .int (-1), .long 0, .long 0, .ref h11, .ref h12, .int 0, .int (-1), .int 0, .ref h13, .int 0, .ref h14, .ref h15, .int 0, .int 0, .ref h16, .int 0, .int 0, .int 0, .int 0]))] H := hP
  have hD : va_D A [(h0, .inr (11, [.int 0, .ref h1, .int 0, .int 0, .int 0, .int 0, .int 0, .int 0, .int 0, .int 0, .int 0, .int 0, .long 0, .int 0, .ref h2, .ref h3, .ref h4, .ref h5, .ref h6, .ref h7, .ref h8, .ref h9, .ref h10, .int 0, .int 0, .int 0, .int 0, .int (-1), .int (-1), .long 0, .long 0, .ref h11, .ref h12, .int 0, .int (-1), .int 0, .ref h13, .int 0, .ref h14, .ref h15, .int 0, .int 0, .ref h16, .int 0, .int 0, .int 0, .int 0]))] := hD
  refine lv_iload_n hx hb dX12_end_5 rfl (lv_at hl 1 rfl) ?_
  refine lv_if_lt (tgt := 17) hx hb dX12_end_6 (by decide) (fun c1 => absurd c1 (by decide)) (fun _ => ?_)
  refine lv_iload_n hx hb dX12_end_9 rfl (lv_at hl 1 rfl) ?_
  refine lv_aload_n hx hb dX12_end_10 rfl (lv_at hl 0 rfl) ?_
  refine va_get (D := (dC, dI)) (ci := 11) (v := .int 0) (C := RX12) (T := TX12) (N := 47) hx hb hts ii_X12_end_X12 hown hK hP 0 rfl rfl 2 (by decide) (hts _ mm_X12_end_2) (fun _ h9 => h9) rfl dX12_end_11 ?_
  refine lv_icmp_le (tgt := 19) hx hb dX12_end_14 (by decide) (fun _ => ?_) (fun c2 => absurd (by decide) c2)
  refine lv_aload_n hx hb dX12_end_19 rfl (lv_at hl 0 rfl) ?_
  refine lv_iload_n hx hb dX12_end_20 rfl (lv_at hl 1 rfl) ?_
  refine va_put (D := (dC, dI)) (ci := 11) (v := .int 0) (ty := .int) (C := RX12) (T := TX12) (N := 47) hx hb hts ii_X12_end_X12 tyX12 tyX12_ok nmX12 hown hK hP hD hS 0 rfl rfl 2 (by decide) (hts _ mm_X12_end_2) (fun _ h9 => h9) rfl (by decide +kernel) rfl rfl (Nat.le_of_ble_eq_true rfl) dX12_end_21 (fun H locs hP hD hS => ?_)
  have hP : va_P (dC, dI) vwCl [(h0, .inr (11, [.int 0, .ref h1, .int 0, .int 0, .int 0, .int 0, .int 0, .int 0, .int 0, .int 0, .int 0, .int 0, .long 0, .int 0, .ref h2, .ref h3, .ref h4, .ref h5, .ref h6, .ref h7, .ref h8, .ref h9, .ref h10, .int 0, .int 0, .int 0, .int 0, .int (-1), .int (-1), .long 0, .long 0, .ref h11, .ref h12, .int 0, .int (-1), .int 0, .ref h13, .int 0, .ref h14, .ref h15, .int 0, .int 0, .ref h16, .int 0, .int 0, .int 0, .int 0]))] H := hP
  have hD : va_D A [(h0, .inr (11, [.int 0, .ref h1, .int 0, .int 0, .int 0, .int 0, .int 0, .int 0, .int 0, .int 0, .int 0, .int 0, .long 0, .int 0, .ref h2, .ref h3, .ref h4, .ref h5, .ref h6, .ref h7, .ref h8, .ref h9, .ref h10, .int 0, .int 0, .int 0, .int 0, .int (-1), .int (-1), .long 0, .long 0, .ref h11, .ref h12, .int 0, .int (-1), .int 0, .ref h13, .int 0, .ref h14, .ref h15, .int 0, .int 0, .ref h16, .int 0, .int 0, .int 0, .int 0]))] := hD
  refine lv_iconst (v := 1) hx hb dX12_end_24 (by decide) ?_
  have hP9 := hP.sub (ws' := []) [] rfl
  have hD9 := hD.sub (ws' := []) [] (by decide) rfl
  have hK9 := hK.sub (tys' := []) [] rfl
  refine W.widen (k := 0) (n := 0) (Nat.le_of_ble_eq_true rfl) (Nat.le_of_ble_eq_true rfl) ?_
  exact W.zret (v := 1) hx hb hr rfl (fun t ht hW => ⟨⟨1, (), rfl, rfl, by rw [ht]; exact hP9, va_K.moved hW.alike hK9, hD9⟩, hS.F ht⟩) hS.2.2 dX12_end_25
set_option maxHeartbeats 4000000 in
set_option maxRecDepth 100000 in
theorem k_X12_end_1 (l : Launch) (dC : Nat → ClassId) (dI : Nat → Nat → Nat) (ad : Nat → Nat) (h0 h1 h2 h3 h4 h5 h6 h7 h8 h9 h10 h11 h12 h13 h14 h15 h16 : Nat) (p0 : Int32) (sz : Nat) (e0_0 : p0 < 0) : Met l yX12_end wsX12_end ({ frames := 0, cells := 0, slots := 0, locals := 0 }) (va_Pc [.ref h0, .int p0] (CP (dC, dI) [(h0, .inr (11, [.int 0, .ref h1, .int 0, .int 0, .int 0, .int 0, .int 0, .int 0, .int 0, .int 0, .int 0, .int 0, .long 0, .int 0, .ref h2, .ref h3, .ref h4, .ref h5, .ref h6, .ref h7, .ref h8, .ref h9, .ref h10, .int 0, .int 0, .int 0, .int 0, .int (-1), .int (-1), .long 0, .long 0, .ref h11, .ref h12, .int 0, .int (-1), .int 0, .ref h13, .int 0, .ref h14, .ref h15, .int 0, .int 0, .ref h16, .int 0, .int 0, .int 0, .int 0]))] [] sz ad)) (va_Qi (fun (r : Int32) (_ : Unit) => r = 0) (fun (_ : Unit) (t : State) => CQ (dC, dI) [] [] (va_A [(h0, .inr (11, [.int 0, .ref h1, .int 0, .int 0, .int 0, .int 0, .int 0, .int 0, .int 0, .int 0, .int 0, .int 0, .long 0, .int 0, .ref h2, .ref h3, .ref h4, .ref h5, .ref h6, .ref h7, .ref h8, .ref h9, .ref h10, .int 0, .int 0, .int 0, .int 0, .int (-1), .int (-1), .long 0, .long 0, .ref h11, .ref h12, .int 0, .int (-1), .int 0, .ref h13, .int 0, .ref h14, .ref h15, .int 0, .int 0, .ref h16, .int 0, .int 0, .int 0, .int 0]))] sz) t) (va_A [(h0, .inr (11, [.int 0, .ref h1, .int 0, .int 0, .int 0, .int 0, .int 0, .int 0, .int 0, .int 0, .int 0, .int 0, .long 0, .int 0, .ref h2, .ref h3, .ref h4, .ref h5, .ref h6, .ref h7, .ref h8, .ref h9, .ref h10, .int 0, .int 0, .int 0, .int 0, .int (-1), .int (-1), .long 0, .long 0, .ref h11, .ref h12, .int 0, .int (-1), .int 0, .ref h13, .int 0, .ref h14, .ref h15, .int 0, .int 0, .ref h16, .int 0, .int 0, .int 0, .int 0]))] sz)) 0 0 (va_A [(h0, .inr (11, [.int 0, .ref h1, .int 0, .int 0, .int 0, .int 0, .int 0, .int 0, .int 0, .int 0, .int 0, .int 0, .long 0, .int 0, .ref h2, .ref h3, .ref h4, .ref h5, .ref h6, .ref h7, .ref h8, .ref h9, .ref h10, .int 0, .int 0, .int 0, .int 0, .int (-1), .int (-1), .long 0, .long 0, .ref h11, .ref h12, .int 0, .int (-1), .int 0, .ref h13, .int 0, .ref h14, .ref h15, .int 0, .int 0, .ref h16, .int 0, .int 0, .int 0, .int 0]))] sz) := by
  refine Met.ofW (cc := cX12_end) (maxL := 2) (ret := (some .boolean)) (by decide) rfl ?_
  intro p e s m args below meth c s₁ B hml hv
  obtain ⟨rfl, hsz, hP, hK, hD0, hE⟩ := hv
  have hx := B.exec
  have hb := B.bytes
  have hr := B.returns
  have hts := atoms_spec (ws := wsX12_end) B.pre
  have hown : s.vm.findClass RX12 = some m.cls := findClass_of_methodNamed B.named
  have hlocks := B.notSynchronized
  subst hsz
  have hD := hD0.self (sz := s.heap.size)
  generalize hAe : va_A [(h0, .inr (11, [.int 0, .ref h1, .int 0, .int 0, .int 0, .int 0, .int 0, .int 0, .int 0, .int 0, .int 0, .int 0, .long 0, .int 0, .ref h2, .ref h3, .ref h4, .ref h5, .ref h6, .ref h7, .ref h8, .ref h9, .ref h10, .int 0, .int 0, .int 0, .int 0, .int (-1), .int (-1), .long 0, .long 0, .ref h11, .ref h12, .int 0, .int (-1), .int 0, .ref h13, .int 0, .ref h14, .ref h15, .int 0, .int 0, .ref h16, .int 0, .int 0, .int 0, .int 0]))] s.heap.size = A at hD hE ⊢
  have hA : ∀ q : Nat, s.heap.size ≤ q → A q := fun q h => by rw [← hAe]; exact Or.inr h
  have hS : va_S A s.heap s.heap [] := va_S.rf
  have hl := lv_entry ([.ref h0, .int p0]) (n := 2) (Nat.le_of_ble_eq_true rfl)
  rw [lg_entry_eq]
  generalize (lg_sl ([.ref h0, .int p0]) ++ List.replicate (2 - (lg_sl ([.ref h0, .int p0])).length) Slot.unset).toArray = ls at hl ⊢
  have hl : lv_has ls 2 [(0, .ref h0), (1, .int p0)] := hl
  refine lv_aload_n hx hb dX12_end_0 rfl (lv_at hl 0 rfl) ?_
  refine lv_iconst (v := 0) hx hb dX12_end_1 (by decide) ?_
  refine va_put (D := (dC, dI)) (ci := 11) (v := .int 0) (ty := .int) (C := RX12) (T := TX12) (N := 47) hx hb hts ii_X12_end_X12 tyX12 tyX12_ok nmX12 hown hK hP hD hS 0 rfl rfl 0 (by decide) (hts _ mm_X12_end_1) (fun _ h9 => h9) rfl (by decide +kernel) rfl rfl (Nat.le_of_ble_eq_true rfl) dX12_end_2 (fun H locs hP hD hS => ?_)
  have hP : va_P (dC, dI) vwCl [(h0, .inr (11, [.int 0, .ref h1, .int 0, .int 0, .int 0, .int 0, .int 0, .int 0, .int 0, .int 0, .int 0, .int 0, .long 0, .int 0, .ref h2, .ref h3, .ref h4, .ref h5, .ref h6, .ref h7, .ref h8, .ref h9, .ref h10, .int 0, .int 0, .int 0, .int 0, .int (-1), .int (-1), .long 0, .long 0, .ref h11, .ref h12, .int 0, .int (-1), .int 0, .ref h13, .int 0, .ref h14, .ref h15, .int 0, .int 0, .ref h16, .int 0, .int 0, .int 0, .int 0]))] H := hP
  have hD : va_D A [(h0, .inr (11, [.int 0, .ref h1, .int 0, .int 0, .int 0, .int 0, .int 0, .int 0, .int 0, .int 0, .int 0, .int 0, .long 0, .int 0, .ref h2, .ref h3, .ref h4, .ref h5, .ref h6, .ref h7, .ref h8, .ref h9, .ref h10, .int 0, .int 0, .int 0, .int 0, .int (-1), .int (-1), .long 0, .long 0, .ref h11, .ref h12, .int 0, .int (-1), .int 0, .ref h13, .int 0, .ref h14, .ref h15, .int 0, .int 0, .ref h16, .int 0, .int 0, .int 0, .int 0]))] := hD
  refine lv_iload_n hx hb dX12_end_5 rfl (lv_at hl 1 rfl) ?_
  refine lv_if_lt (tgt := 17) hx hb dX12_end_6 (by decide) (fun _ => ?_) (fun c1 => ?_)
  rotate_left
  · exfalso; clear hP hD hK hS hE; simp only [Int32.lt_iff_toInt_lt, Int32.le_iff_toInt_le, ← Int32.toInt_inj, Int32.reduceToInt] at e0_0 c1; omega
  refine lv_iconst (v := 0) hx hb dX12_end_17 (by decide) ?_
  have hP9 := hP.sub (ws' := []) [] rfl
  have hD9 := hD.sub (ws' := []) [] (by decide) rfl
  have hK9 := hK.sub (tys' := []) [] rfl
  refine W.widen (k := 0) (n := 0) (Nat.le_of_ble_eq_true rfl) (Nat.le_of_ble_eq_true rfl) ?_
  exact W.zret (v := 0) hx hb hr rfl (fun t ht hW => ⟨⟨0, (), rfl, rfl, by rw [ht]; exact hP9, va_K.moved hW.alike hK9, hD9⟩, hS.F ht⟩) hS.2.2 dX12_end_18
set_option maxHeartbeats 4000000 in
set_option maxRecDepth 100000 in
theorem k_X12_end_2 (l : Launch) (dC : Nat → ClassId) (dI : Nat → Nat → Nat) (ad : Nat → Nat) (h0 h1 h2 h3 h4 h5 h6 h7 h8 h9 h10 h11 h12 h13 h14 h15 h16 : Nat) (p0 : Int32) (sz : Nat) (e0_0 : 0 < p0) : Met l yX12_end wsX12_end ({ frames := 0, cells := 0, slots := 0, locals := 0 }) (va_Pc [.ref h0, .int p0] (CP (dC, dI) [(h0, .inr (11, [.int 0, .ref h1, .int 0, .int 0, .int 0, .int 0, .int 0, .int 0, .int 0, .int 0, .int 0, .int 0, .long 0, .int 0, .ref h2, .ref h3, .ref h4, .ref h5, .ref h6, .ref h7, .ref h8, .ref h9, .ref h10, .int 0, .int 0, .int 0, .int 0, .int (-1), .int (-1), .long 0, .long 0, .ref h11, .ref h12, .int 0, .int (-1), .int 0, .ref h13, .int 0, .ref h14, .ref h15, .int 0, .int 0, .ref h16, .int 0, .int 0, .int 0, .int 0]))] [] sz ad)) (va_Qi (fun (r : Int32) (_ : Unit) => r = 0) (fun (_ : Unit) (t : State) => CQ (dC, dI) [] [] (va_A [(h0, .inr (11, [.int 0, .ref h1, .int 0, .int 0, .int 0, .int 0, .int 0, .int 0, .int 0, .int 0, .int 0, .int 0, .long 0, .int 0, .ref h2, .ref h3, .ref h4, .ref h5, .ref h6, .ref h7, .ref h8, .ref h9, .ref h10, .int 0, .int 0, .int 0, .int 0, .int (-1), .int (-1), .long 0, .long 0, .ref h11, .ref h12, .int 0, .int (-1), .int 0, .ref h13, .int 0, .ref h14, .ref h15, .int 0, .int 0, .ref h16, .int 0, .int 0, .int 0, .int 0]))] sz) t) (va_A [(h0, .inr (11, [.int 0, .ref h1, .int 0, .int 0, .int 0, .int 0, .int 0, .int 0, .int 0, .int 0, .int 0, .int 0, .long 0, .int 0, .ref h2, .ref h3, .ref h4, .ref h5, .ref h6, .ref h7, .ref h8, .ref h9, .ref h10, .int 0, .int 0, .int 0, .int 0, .int (-1), .int (-1), .long 0, .long 0, .ref h11, .ref h12, .int 0, .int (-1), .int 0, .ref h13, .int 0, .ref h14, .ref h15, .int 0, .int 0, .ref h16, .int 0, .int 0, .int 0, .int 0]))] sz)) 0 0 (va_A [(h0, .inr (11, [.int 0, .ref h1, .int 0, .int 0, .int 0, .int 0, .int 0, .int 0, .int 0, .int 0, .int 0, .int 0, .long 0, .int 0, .ref h2, .ref h3, .ref h4, .ref h5, .ref h6, .ref h7, .ref h8, .ref h9, .ref h10, .int 0, .int 0, .int 0, .int 0, .int (-1), .int (-1), .long 0, .long 0, .ref h11, .ref h12, .int 0, .int (-1), .int 0, .ref h13, .int 0, .ref h14, .ref h15, .int 0, .int 0, .ref h16, .int 0, .int 0, .int 0, .int 0]))] sz) := by
  refine Met.ofW (cc := cX12_end) (maxL := 2) (ret := (some .boolean)) (by decide) rfl ?_
  intro p e s m args below meth c s₁ B hml hv
  obtain ⟨rfl, hsz, hP, hK, hD0, hE⟩ := hv
  have hx := B.exec
  have hb := B.bytes
  have hr := B.returns
  have hts := atoms_spec (ws := wsX12_end) B.pre
  have hown : s.vm.findClass RX12 = some m.cls := findClass_of_methodNamed B.named
  have hlocks := B.notSynchronized
  subst hsz
  have hD := hD0.self (sz := s.heap.size)
  generalize hAe : va_A [(h0, .inr (11, [.int 0, .ref h1, .int 0, .int 0, .int 0, .int 0, .int 0, .int 0, .int 0, .int 0, .int 0, .int 0, .long 0, .int 0, .ref h2, .ref h3, .ref h4, .ref h5, .ref h6, .ref h7, .ref h8, .ref h9, .ref h10, .int 0, .int 0, .int 0, .int 0, .int (-1), .int (-1), .long 0, .long 0, .ref h11, .ref h12, .int 0, .int (-1), .int 0, .ref h13, .int 0, .ref h14, .ref h15, .int 0, .int 0, .ref h16, .int 0, .int 0, .int 0, .int 0]))] s.heap.size = A at hD hE ⊢
  have hA : ∀ q : Nat, s.heap.size ≤ q → A q := fun q h => by rw [← hAe]; exact Or.inr h
  have hS : va_S A s.heap s.heap [] := va_S.rf
  have hl := lv_entry ([.ref h0, .int p0]) (n := 2) (Nat.le_of_ble_eq_true rfl)
  rw [lg_entry_eq]
  generalize (lg_sl ([.ref h0, .int p0]) ++ List.replicate (2 - (lg_sl ([.ref h0, .int p0])).length) Slot.unset).toArray = ls at hl ⊢
  have hl : lv_has ls 2 [(0, .ref h0), (1, .int p0)] := hl
  refine lv_aload_n hx hb dX12_end_0 rfl (lv_at hl 0 rfl) ?_
  refine lv_iconst (v := 0) hx hb dX12_end_1 (by decide) ?_
  refine va_put (D := (dC, dI)) (ci := 11) (v := .int 0) (ty := .int) (C := RX12) (T := TX12) (N := 47) hx hb hts ii_X12_end_X12 tyX12 tyX12_ok nmX12 hown hK hP hD hS 0 rfl rfl 0 (by decide) (hts _ mm_X12_end_1) (fun _ h9 => h9) rfl (by decide +kernel) rfl rfl (Nat.le_of_ble_eq_true rfl) dX12_end_2 (fun H locs hP hD hS => ?_)
  have hP : va_P (dC, dI) vwCl [(h0, .inr (11, [.int 0, .ref h1, .int 0, .int 0, .int 0, .int 0, .int 0, .int 0, .int 0, .int 0, .int 0, .int 0, .long 0, .int 0, .ref h2, .ref h3, .ref h4, .ref h5, .ref h6, .ref h7, .ref h8, .ref h9, .ref h10, .int 0, .int 0, .int 0, .int 0, .int (-1), .int (-1), .long 0, .long 0, .ref h11, .ref h12, .int 0, .int (-1), .int 0, .ref h13, .int 0, .ref h14, .ref h15, .int 0, .int 0, .ref h16, .int 0, .int 0, .int 0, .int 0]))] H := hP
  have hD : va_D A [(h0, .inr (11, [.int 0, .ref h1, .int 0, .int 0, .int 0, .int 0, .int 0, .int 0, .int 0, .int 0, .int 0, .int 0, .long 0, .int 0, .ref h2, .ref h3, .ref h4, .ref h5, .ref h6, .ref h7, .ref h8, .ref h9, .ref h10, .int 0, .int 0, .int 0, .int 0, .int (-1), .int (-1), .long 0, .long 0, .ref h11, .ref h12, .int 0, .int (-1), .int 0, .ref h13, .int 0, .ref h14, .ref h15, .int 0, .int 0, .ref h16, .int 0, .int 0, .int 0, .int 0]))] := hD
  refine lv_iload_n hx hb dX12_end_5 rfl (lv_at hl 1 rfl) ?_
  refine lv_if_lt (tgt := 17) hx hb dX12_end_6 (by decide) (fun c1 => ?_) (fun _ => ?_)
  · exfalso; clear hP hD hK hS hE; simp only [Int32.lt_iff_toInt_lt, Int32.le_iff_toInt_le, ← Int32.toInt_inj, Int32.reduceToInt] at e0_0 c1; omega
  refine lv_iload_n hx hb dX12_end_9 rfl (lv_at hl 1 rfl) ?_
  refine lv_aload_n hx hb dX12_end_10 rfl (lv_at hl 0 rfl) ?_
  refine va_get (D := (dC, dI)) (ci := 11) (v := .int 0) (C := RX12) (T := TX12) (N := 47) hx hb hts ii_X12_end_X12 hown hK hP 0 rfl rfl 2 (by decide) (hts _ mm_X12_end_2) (fun _ h9 => h9) rfl dX12_end_11 ?_
  refine lv_icmp_le (tgt := 19) hx hb dX12_end_14 (by decide) (fun c2 => ?_) (fun _ => ?_)
  · exfalso; clear hP hD hK hS hE; simp only [Int32.lt_iff_toInt_lt, Int32.le_iff_toInt_le, ← Int32.toInt_inj, Int32.reduceToInt] at e0_0 c2; omega
  refine lv_iconst (v := 0) hx hb dX12_end_17 (by decide) ?_
  have hP9 := hP.sub (ws' := []) [] rfl
  have hD9 := hD.sub (ws' := []) [] (by decide) rfl
  have hK9 := hK.sub (tys' := []) [] rfl
  refine W.widen (k := 0) (n := 0) (Nat.le_of_ble_eq_true rfl) (Nat.le_of_ble_eq_true rfl) ?_
  exact W.zret (v := 0) hx hb hr rfl (fun t ht hW => ⟨⟨0, (), rfl, rfl, by rw [ht]; exact hP9, va_K.moved hW.alike hK9, hD9⟩, hS.F ht⟩) hS.2.2 dX12_end_18
set_option maxHeartbeats 4000000 in
set_option maxRecDepth 100000 in
theorem k_X12_take (l : Launch) (dC : Nat → ClassId) (dI : Nat → Nat → Nat) (ad : Nat → Nat) (h0 h1 h2 h3 h4 h5 h6 h7 h8 h9 h10 h11 h12 h13 h14 h15 h16 : Nat) (sz : Nat) : Met l yX12_take wsX12_take ({ frames := 0, cells := 0, slots := 0, locals := 0 }) (va_Pc [.ref h0] (CP (dC, dI) [(h0, .inr (11, [.int 0, .ref h1, .int 0, .int 0, .int 0, .int 0, .int 0, .int 0, .int 0, .int 0, .int 0, .int 0, .long 0, .int 0, .ref h2, .ref h3, .ref h4, .ref h5, .ref h6, .ref h7, .ref h8, .ref h9, .ref h10, .int 0, .int 0, .int 0, .int 0, .int (-1), .int (-1), .long 0, .long 0, .ref h11, .ref h12, .int 0, .int (-1), .int 0, .ref h13, .int 0, .ref h14, .ref h15, .int 0, .int 0, .ref h16, .int 0, .int 0, .int 0, .int 0]))] [] sz ad)) (va_Qi (fun (r : Int32) (_ : Unit) => r = 0) (fun (_ : Unit) (t : State) => CQ (dC, dI) [(h0, .inr (11, [.int 0, .ref h1, .int 0, .int 0, .int 0, .int 0, .int 0, .int 0, .int 0, .int 0, .int 0, .int 0, .long 0, .int 0, .ref h2, .ref h3, .ref h4, .ref h5, .ref h6, .ref h7, .ref h8, .ref h9, .ref h10, .int 0, .int 0, .int 0, .int 0, .int (-1), .int (-1), .long 0, .long 0, .ref h11, .ref h12, .int 0, .int (-1), .int 0, .ref h13, .int 0, .ref h14, .ref h15, .int 0, .int 0, .ref h16, .int 0, .int 0, .int 0, .int 0]))] [] (va_A [(h0, .inr (11, [.int 0, .ref h1, .int 0, .int 0, .int 0, .int 0, .int 0, .int 0, .int 0, .int 0, .int 0, .int 0, .long 0, .int 0, .ref h2, .ref h3, .ref h4, .ref h5, .ref h6, .ref h7, .ref h8, .ref h9, .ref h10, .int 0, .int 0, .int 0, .int 0, .int (-1), .int (-1), .long 0, .long 0, .ref h11, .ref h12, .int 0, .int (-1), .int 0, .ref h13, .int 0, .ref h14, .ref h15, .int 0, .int 0, .ref h16, .int 0, .int 0, .int 0, .int 0]))] sz) t) (va_A [(h0, .inr (11, [.int 0, .ref h1, .int 0, .int 0, .int 0, .int 0, .int 0, .int 0, .int 0, .int 0, .int 0, .int 0, .long 0, .int 0, .ref h2, .ref h3, .ref h4, .ref h5, .ref h6, .ref h7, .ref h8, .ref h9, .ref h10, .int 0, .int 0, .int 0, .int 0, .int (-1), .int (-1), .long 0, .long 0, .ref h11, .ref h12, .int 0, .int (-1), .int 0, .ref h13, .int 0, .ref h14, .ref h15, .int 0, .int 0, .ref h16, .int 0, .int 0, .int 0, .int 0]))] sz)) 0 0 (va_A [(h0, .inr (11, [.int 0, .ref h1, .int 0, .int 0, .int 0, .int 0, .int 0, .int 0, .int 0, .int 0, .int 0, .int 0, .long 0, .int 0, .ref h2, .ref h3, .ref h4, .ref h5, .ref h6, .ref h7, .ref h8, .ref h9, .ref h10, .int 0, .int 0, .int 0, .int 0, .int (-1), .int (-1), .long 0, .long 0, .ref h11, .ref h12, .int 0, .int (-1), .int 0, .ref h13, .int 0, .ref h14, .ref h15, .int 0, .int 0, .ref h16, .int 0, .int 0, .int 0, .int 0]))] sz) := by
  refine Met.ofW (cc := cX12_take) (maxL := 2) (ret := (some .int)) (by decide) rfl ?_
  intro p e s m args below meth c s₁ B hml hv
  obtain ⟨rfl, hsz, hP, hK, hD0, hE⟩ := hv
  have hx := B.exec
  have hb := B.bytes
  have hr := B.returns
  have hts := atoms_spec (ws := wsX12_take) B.pre
  have hown : s.vm.findClass RX12 = some m.cls := findClass_of_methodNamed B.named
  have hlocks := B.notSynchronized
  subst hsz
  have hD := hD0.self (sz := s.heap.size)
  generalize hAe : va_A [(h0, .inr (11, [.int 0, .ref h1, .int 0, .int 0, .int 0, .int 0, .int 0, .int 0, .int 0, .int 0, .int 0, .int 0, .long 0, .int 0, .ref h2, .ref h3, .ref h4, .ref h5, .ref h6, .ref h7, .ref h8, .ref h9, .ref h10, .int 0, .int 0, .int 0, .int 0, .int (-1), .int (-1), .long 0, .long 0, .ref h11, .ref h12, .int 0, .int (-1), .int 0, .ref h13, .int 0, .ref h14, .ref h15, .int 0, .int 0, .ref h16, .int 0, .int 0, .int 0, .int 0]))] s.heap.size = A at hD hE ⊢
  have hA : ∀ q : Nat, s.heap.size ≤ q → A q := fun q h => by rw [← hAe]; exact Or.inr h
  have hS : va_S A s.heap s.heap [] := va_S.rf
  have hl := lv_entry ([.ref h0]) (n := 2) (Nat.le_of_ble_eq_true rfl)
  rw [lg_entry_eq]
  generalize (lg_sl ([.ref h0]) ++ List.replicate (2 - (lg_sl ([.ref h0])).length) Slot.unset).toArray = ls at hl ⊢
  have hl : lv_has ls 2 [(0, .ref h0)] := hl
  refine lv_aload_n hx hb dX12_take_0 rfl (lv_at hl 0 rfl) ?_
  refine va_get (D := (dC, dI)) (ci := 11) (v := .int 0) (C := RX12) (T := TX12) (N := 47) hx hb hts ii_X12_take_X12 hown hK hP 0 rfl rfl 2 (by decide) (hts _ mm_X12_take_1) (fun _ h9 => h9) rfl dX12_take_1 ?_
  refine lv_istore_n (lv' := [(1, .int 0), (0, .ref h0)]) hx hb dX12_take_4 rfl hl (by decide) rfl (fun ls hl => ?_)
  refine lv_aload_n hx hb dX12_take_5 rfl (lv_at hl 1 rfl) ?_
  refine lv_iconst (v := 0) hx hb dX12_take_6 (by decide) ?_
  refine va_put (D := (dC, dI)) (ci := 11) (v := .int 0) (ty := .int) (C := RX12) (T := TX12) (N := 47) hx hb hts ii_X12_take_X12 tyX12 tyX12_ok nmX12 hown hK hP hD hS 0 rfl rfl 2 (by decide) (hts _ mm_X12_take_1) (fun _ h9 => h9) rfl (by decide +kernel) rfl rfl (Nat.le_of_ble_eq_true rfl) dX12_take_7 (fun H locs hP hD hS => ?_)
  have hP : va_P (dC, dI) vwCl [(h0, .inr (11, [.int 0, .ref h1, .int 0, .int 0, .int 0, .int 0, .int 0, .int 0, .int 0, .int 0, .int 0, .int 0, .long 0, .int 0, .ref h2, .ref h3, .ref h4, .ref h5, .ref h6, .ref h7, .ref h8, .ref h9, .ref h10, .int 0, .int 0, .int 0, .int 0, .int (-1), .int (-1), .long 0, .long 0, .ref h11, .ref h12, .int 0, .int (-1), .int 0, .ref h13, .int 0, .ref h14, .ref h15, .int 0, .int 0, .ref h16, .int 0, .int 0, .int 0, .int 0]))] H := hP
  have hD : va_D A [(h0, .inr (11, [.int 0, .ref h1, .int 0, .int 0, .int 0, .int 0, .int 0, .int 0, .int 0, .int 0, .int 0, .int 0, .long 0, .int 0, .ref h2, .ref h3, .ref h4, .ref h5, .ref h6, .ref h7, .ref h8, .ref h9, .ref h10, .int 0, .int 0, .int 0, .int 0, .int (-1), .int (-1), .long 0, .long 0, .ref h11, .ref h12, .int 0, .int (-1), .int 0, .ref h13, .int 0, .ref h14, .ref h15, .int 0, .int 0, .ref h16, .int 0, .int 0, .int 0, .int 0]))] := hD
  refine lv_iload_n hx hb dX12_take_10 rfl (lv_at hl 0 rfl) ?_
  have hP9 := hP.sub (ws' := [(h0, .inr (11, [.int 0, .ref h1, .int 0, .int 0, .int 0, .int 0, .int 0, .int 0, .int 0, .int 0, .int 0, .int 0, .long 0, .int 0, .ref h2, .ref h3, .ref h4, .ref h5, .ref h6, .ref h7, .ref h8, .ref h9, .ref h10, .int 0, .int 0, .int 0, .int 0, .int (-1), .int (-1), .long 0, .long 0, .ref h11, .ref h12, .int 0, .int (-1), .int 0, .ref h13, .int 0, .ref h14, .ref h15, .int 0, .int 0, .ref h16, .int 0, .int 0, .int 0, .int 0]))]) [0] rfl
  have hD9 := hD.sub (ws' := [(h0, .inr (11, [.int 0, .ref h1, .int 0, .int 0, .int 0, .int 0, .int 0, .int 0, .int 0, .int 0, .int 0, .int 0, .long 0, .int 0, .ref h2, .ref h3, .ref h4, .ref h5, .ref h6, .ref h7, .ref h8, .ref h9, .ref h10, .int 0, .int 0, .int 0, .int 0, .int (-1), .int (-1), .long 0, .long 0, .ref h11, .ref h12, .int 0, .int (-1), .int 0, .ref h13, .int 0, .ref h14, .ref h15, .int 0, .int 0, .ref h16, .int 0, .int 0, .int 0, .int 0]))]) [0] (by decide) rfl
  have hK9 := hK.sub (tys' := []) [] rfl
  refine W.widen (k := 0) (n := 0) (Nat.le_of_ble_eq_true rfl) (Nat.le_of_ble_eq_true rfl) ?_
  exact W.iret (v := 0) hx hb hr (fun t ht hW => ⟨⟨0, (), rfl, rfl, by rw [ht]; exact hP9, va_K.moved hW.alike hK9, hD9⟩, hS.F ht⟩) hS.2.2 dX12_take_11
set_option maxHeartbeats 4000000 in
set_option maxRecDepth 100000 in
theorem k_X12_go (l : Launch) (dC : Nat → ClassId) (dI : Nat → Nat → Nat) (ad : Nat → Nat) (h0 h1 h2 h3 h4 h5 h6 h7 h8 h9 h10 h11 h12 h13 h14 h15 h16 : Nat) (sz : Nat) : Met l yX12_go wsX12_go ({ frames := 0, cells := 0, slots := 0, locals := 0 }) (va_Pc [.ref h0] (CP (dC, dI) [(h0, .inr (11, [.int 0, .ref h1, .int 0, .int 0, .int 900, .int 0, .int 0, .int 0, .int 0, .int 0, .int 0, .int 0, .long 0, .int 0, .ref h2, .ref h3, .ref h4, .ref h5, .ref h6, .ref h7, .ref h8, .ref h9, .ref h10, .int 0, .int 0, .int 0, .int 0, .int (-1), .int (-1), .long 0, .long 0, .ref h11, .ref h12, .int 0, .int (-1), .int 0, .ref h13, .int 0, .ref h14, .ref h15, .int 0, .int 0, .ref h16, .int 0, .int 0, .int 0, .int 0]))] [] sz ad)) (va_Qv (fun _ : Unit => True) (fun (_ : Unit) (t : State) => CQ (dC, dI) [(h0, .inr (11, [.int 0, .ref h1, .int 0, .int 0, .int 900, .int 0, .int 0, .int 0, .int 0, .int 0, .int 0, .int 0, .long 0, .int 0, .ref h2, .ref h3, .ref h4, .ref h5, .ref h6, .ref h7, .ref h8, .ref h9, .ref h10, .int 0, .int 0, .int 0, .int 0, .int (-1), .int (-1), .long 0, .long 0, .ref h11, .ref h12, .int 0, .int (-1), .int 0, .ref h13, .int 0, .ref h14, .ref h15, .int 0, .int 0, .ref h16, .int 0, .int 0, .int 0, .int 0]))] [] (va_A [(h0, .inr (11, [.int 0, .ref h1, .int 0, .int 0, .int 900, .int 0, .int 0, .int 0, .int 0, .int 0, .int 0, .int 0, .long 0, .int 0, .ref h2, .ref h3, .ref h4, .ref h5, .ref h6, .ref h7, .ref h8, .ref h9, .ref h10, .int 0, .int 0, .int 0, .int 0, .int (-1), .int (-1), .long 0, .long 0, .ref h11, .ref h12, .int 0, .int (-1), .int 0, .ref h13, .int 0, .ref h14, .ref h15, .int 0, .int 0, .ref h16, .int 0, .int 0, .int 0, .int 0]))] sz) t) (va_A [(h0, .inr (11, [.int 0, .ref h1, .int 0, .int 0, .int 900, .int 0, .int 0, .int 0, .int 0, .int 0, .int 0, .int 0, .long 0, .int 0, .ref h2, .ref h3, .ref h4, .ref h5, .ref h6, .ref h7, .ref h8, .ref h9, .ref h10, .int 0, .int 0, .int 0, .int 0, .int (-1), .int (-1), .long 0, .long 0, .ref h11, .ref h12, .int 0, .int (-1), .int 0, .ref h13, .int 0, .ref h14, .ref h15, .int 0, .int 0, .ref h16, .int 0, .int 0, .int 0, .int 0]))] sz)) 0 0 (va_A [(h0, .inr (11, [.int 0, .ref h1, .int 0, .int 0, .int 900, .int 0, .int 0, .int 0, .int 0, .int 0, .int 0, .int 0, .long 0, .int 0, .ref h2, .ref h3, .ref h4, .ref h5, .ref h6, .ref h7, .ref h8, .ref h9, .ref h10, .int 0, .int 0, .int 0, .int 0, .int (-1), .int (-1), .long 0, .long 0, .ref h11, .ref h12, .int 0, .int (-1), .int 0, .ref h13, .int 0, .ref h14, .ref h15, .int 0, .int 0, .ref h16, .int 0, .int 0, .int 0, .int 0]))] sz) := by
  refine Met.ofW (cc := cX12_go) (maxL := 5) (ret := none) (by decide) rfl ?_
  intro p e s m args below meth c s₁ B hml hv
  obtain ⟨rfl, hsz, hP, hK, hD0, hE⟩ := hv
  have hx := B.exec
  have hb := B.bytes
  have hr := B.returns
  have hts := atoms_spec (ws := wsX12_go) B.pre
  have hown : s.vm.findClass RX12 = some m.cls := findClass_of_methodNamed B.named
  have hlocks := B.notSynchronized
  subst hsz
  have hD := hD0.self (sz := s.heap.size)
  generalize hAe : va_A [(h0, .inr (11, [.int 0, .ref h1, .int 0, .int 0, .int 900, .int 0, .int 0, .int 0, .int 0, .int 0, .int 0, .int 0, .long 0, .int 0, .ref h2, .ref h3, .ref h4, .ref h5, .ref h6, .ref h7, .ref h8, .ref h9, .ref h10, .int 0, .int 0, .int 0, .int 0, .int (-1), .int (-1), .long 0, .long 0, .ref h11, .ref h12, .int 0, .int (-1), .int 0, .ref h13, .int 0, .ref h14, .ref h15, .int 0, .int 0, .ref h16, .int 0, .int 0, .int 0, .int 0]))] s.heap.size = A at hD hE ⊢
  have hA : ∀ q : Nat, s.heap.size ≤ q → A q := fun q h => by rw [← hAe]; exact Or.inr h
  have hS : va_S A s.heap s.heap [] := va_S.rf
  have hl := lv_entry ([.ref h0]) (n := 5) (Nat.le_of_ble_eq_true rfl)
  rw [lg_entry_eq]
  generalize (lg_sl ([.ref h0]) ++ List.replicate (5 - (lg_sl ([.ref h0])).length) Slot.unset).toArray = ls at hl ⊢
  have hl : lv_has ls 5 [(0, .ref h0)] := hl
  refine lv_aload_n hx hb dX12_go_0 rfl (lv_at hl 0 rfl) ?_
  refine va_get (D := (dC, dI)) (ci := 11) (v := .int 0) (C := RX12) (T := TX12) (N := 47) hx hb hts ii_X12_go_X12 hown hK hP 0 rfl rfl 5 (by decide) (hts _ mm_X12_go_1) (fun _ h9 => h9) rfl dX12_go_1 ?_
  refine lv_aload_n hx hb dX12_go_4 rfl (lv_at hl 0 rfl) ?_
  refine va_get (D := (dC, dI)) (ci := 11) (v := .int 0) (C := RX12) (T := TX12) (N := 47) hx hb hts ii_X12_go_X12 hown hK hP 0 rfl rfl 3 (by decide) (hts _ mm_X12_go_2) (fun _ h9 => h9) rfl dX12_go_5 ?_
  refine lv_icmp_ge (tgt := 52) hx hb dX12_go_8 (by decide) (fun _ => ?_) (fun c1 => absurd (by decide) c1)
  refine lv_aload_n hx hb dX12_go_52 rfl (lv_at hl 0 rfl) ?_
  refine lv_aload_n hx hb dX12_go_53 rfl (lv_at hl 0 rfl) ?_
  refine va_get (D := (dC, dI)) (ci := 11) (v := .int 0) (C := RX12) (T := TX12) (N := 47) hx hb hts ii_X12_go_X12 hown hK hP 0 rfl rfl 5 (by decide) (hts _ mm_X12_go_1) (fun _ h9 => h9) rfl dX12_go_54 ?_
  refine va_put (D := (dC, dI)) (ci := 11) (v := .int 0) (ty := .int) (C := RX12) (T := TX12) (N := 47) hx hb hts ii_X12_go_X12 tyX12 tyX12_ok nmX12 hown hK hP hD hS 0 rfl rfl 6 (by decide) (hts _ mm_X12_go_4) (fun _ h9 => h9) rfl (by decide +kernel) rfl rfl (Nat.le_of_ble_eq_true rfl) dX12_go_57 (fun H locs hP hD hS => ?_)
  have hP : va_P (dC, dI) vwCl [(h0, .inr (11, [.int 0, .ref h1, .int 0, .int 0, .int 900, .int 0, .int 0, .int 0, .int 0, .int 0, .int 0, .int 0, .long 0, .int 0, .ref h2, .ref h3, .ref h4, .ref h5, .ref h6, .ref h7, .ref h8, .ref h9, .ref h10, .int 0, .int 0, .int 0, .int 0, .int (-1), .int (-1), .long 0, .long 0, .ref h11, .ref h12, .int 0, .int (-1), .int 0, .ref h13, .int 0, .ref h14, .ref h15, .int 0, .int 0, .ref h16, .int 0, .int 0, .int 0, .int 0]))] H := hP
  have hD : va_D A [(h0, .inr (11, [.int 0, .ref h1, .int 0, .int 0, .int 900, .int 0, .int 0, .int 0, .int 0, .int 0, .int 0, .int 0, .long 0, .int 0, .ref h2, .ref h3, .ref h4, .ref h5, .ref h6, .ref h7, .ref h8, .ref h9, .ref h10, .int 0, .int 0, .int 0, .int 0, .int (-1), .int (-1), .long 0, .long 0, .ref h11, .ref h12, .int 0, .int (-1), .int 0, .ref h13, .int 0, .ref h14, .ref h15, .int 0, .int 0, .ref h16, .int 0, .int 0, .int 0, .int 0]))] := hD
  refine lv_aload_n hx hb dX12_go_60 rfl (lv_at hl 0 rfl) ?_
  refine va_get (D := (dC, dI)) (ci := 11) (v := .int 0) (C := RX12) (T := TX12) (N := 47) hx hb hts ii_X12_go_X12 hown hK hP 0 rfl rfl 3 (by decide) (hts _ mm_X12_go_2) (fun _ h9 => h9) rfl dX12_go_61 ?_
  refine lv_aload_n hx hb dX12_go_64 rfl (lv_at hl 0 rfl) ?_
  refine va_get (D := (dC, dI)) (ci := 11) (v := .int 900) (C := RX12) (T := TX12) (N := 47) hx hb hts ii_X12_go_X12 hown hK hP 0 rfl rfl 4 (by decide) (hts _ mm_X12_go_5) (fun _ h9 => h9) rfl dX12_go_65 ?_
  refine lv_icmp_le (tgt := 96) hx hb dX12_go_68 (by decide) (fun _ => ?_) (fun c2 => absurd (by decide) c2)
  refine lv_aload_n hx hb dX12_go_96 rfl (lv_at hl 0 rfl) ?_
  refine va_get (D := (dC, dI)) (ci := 11) (v := .int 0) (C := RX12) (T := TX12) (N := 47) hx hb hts ii_X12_go_X12 hown hK hP 0 rfl rfl 5 (by decide) (hts _ mm_X12_go_1) (fun _ h9 => h9) rfl dX12_go_97 ?_
  refine lv_aload_n hx hb dX12_go_100 rfl (lv_at hl 0 rfl) ?_
  refine va_get (D := (dC, dI)) (ci := 11) (v := .int 0) (C := RX12) (T := TX12) (N := 47) hx hb hts ii_X12_go_X12 hown hK hP 0 rfl rfl 3 (by decide) (hts _ mm_X12_go_2) (fun _ h9 => h9) rfl dX12_go_101 ?_
  refine lv_icmp_lt (tgt := 113) hx hb dX12_go_104 (by decide) (fun c3 => absurd c3 (by decide)) (fun _ => ?_)
  refine lv_aload_n hx hb dX12_go_107 rfl (lv_at hl 0 rfl) ?_
  refine lv_iconst (v := 0) hx hb dX12_go_108 (by decide) ?_
  refine va_put (D := (dC, dI)) (ci := 11) (v := .int 0) (ty := .int) (C := RX12) (T := TX12) (N := 47) hx hb hts ii_X12_go_X12 tyX12 tyX12_ok nmX12 hown hK hP hD hS 0 rfl rfl 7 (by decide) (hts _ mm_X12_go_6) (fun _ h9 => h9) rfl (by decide +kernel) rfl rfl (Nat.le_of_ble_eq_true rfl) dX12_go_109 (fun H locs hP hD hS => ?_)
  have hP : va_P (dC, dI) vwCl [(h0, .inr (11, [.int 0, .ref h1, .int 0, .int 0, .int 900, .int 0, .int 0, .int 0, .int 0, .int 0, .int 0, .int 0, .long 0, .int 0, .ref h2, .ref h3, .ref h4, .ref h5, .ref h6, .ref h7, .ref h8, .ref h9, .ref h10, .int 0, .int 0, .int 0, .int 0, .int (-1), .int (-1), .long 0, .long 0, .ref h11, .ref h12, .int 0, .int (-1), .int 0, .ref h13, .int 0, .ref h14, .ref h15, .int 0, .int 0, .ref h16, .int 0, .int 0, .int 0, .int 0]))] H := hP
  have hD : va_D A [(h0, .inr (11, [.int 0, .ref h1, .int 0, .int 0, .int 900, .int 0, .int 0, .int 0, .int 0, .int 0, .int 0, .int 0, .long 0, .int 0, .ref h2, .ref h3, .ref h4, .ref h5, .ref h6, .ref h7, .ref h8, .ref h9, .ref h10, .int 0, .int 0, .int 0, .int 0, .int (-1), .int (-1), .long 0, .long 0, .ref h11, .ref h12, .int 0, .int (-1), .int 0, .ref h13, .int 0, .ref h14, .ref h15, .int 0, .int 0, .ref h16, .int 0, .int 0, .int 0, .int 0]))] := hD
  have hP9 := hP.sub (ws' := [(h0, .inr (11, [.int 0, .ref h1, .int 0, .int 0, .int 900, .int 0, .int 0, .int 0, .int 0, .int 0, .int 0, .int 0, .long 0, .int 0, .ref h2, .ref h3, .ref h4, .ref h5, .ref h6, .ref h7, .ref h8, .ref h9, .ref h10, .int 0, .int 0, .int 0, .int 0, .int (-1), .int (-1), .long 0, .long 0, .ref h11, .ref h12, .int 0, .int (-1), .int 0, .ref h13, .int 0, .ref h14, .ref h15, .int 0, .int 0, .ref h16, .int 0, .int 0, .int 0, .int 0]))]) [0] rfl
  have hD9 := hD.sub (ws' := [(h0, .inr (11, [.int 0, .ref h1, .int 0, .int 0, .int 900, .int 0, .int 0, .int 0, .int 0, .int 0, .int 0, .int 0, .long 0, .int 0, .ref h2, .ref h3, .ref h4, .ref h5, .ref h6, .ref h7, .ref h8, .ref h9, .ref h10, .int 0, .int 0, .int 0, .int 0, .int (-1), .int (-1), .long 0, .long 0, .ref h11, .ref h12, .int 0, .int (-1), .int 0, .ref h13, .int 0, .ref h14, .ref h15, .int 0, .int 0, .ref h16, .int 0, .int 0, .int 0, .int 0]))]) [0] (by decide) rfl
  have hK9 := hK.sub (tys' := []) [] rfl
  refine W.widen (k := 0) (n := 0) (Nat.le_of_ble_eq_true rfl) (Nat.le_of_ble_eq_true rfl) ?_
  exact W.vret hx hb hr (fun t ht hW => ⟨⟨(), rfl, trivial, by rw [ht]; exact hP9, va_K.moved hW.alike hK9, hD9⟩, hS.F ht⟩) hS.2.2 dX12_go_112
set_option maxHeartbeats 4000000 in
set_option maxRecDepth 100000 in
theorem k_X12_begin (l : Launch) (dC : Nat → ClassId) (dI : Nat → Nat → Nat) (ad : Nat → Nat) (h0 h1 h2 h3 h4 h5 h6 h7 h8 h9 h10 h11 h12 h13 h14 h15 h16 : Nat) (sz : Nat) : Met l yX12_begin wsX12_begin ({ frames := 1, cells := 0, slots := 0, locals := 24 }) (va_Pc [.ref h0, .int 900] (CP (dC, dI) [(h0, .inr (11, [.int 0, .ref h1, .int 0, .int 0, .int 0, .int 0, .int 0, .int 0, .int 0, .int 0, .int 0, .int 0, .long 0, .int 0, .ref h2, .ref h3, .ref h4, .ref h5, .ref h6, .ref h7, .ref h8, .ref h9, .ref h10, .int 0, .int 0, .int 0, .int 0, .int (-1), .int (-1), .long 0, .long 0, .ref h11, .ref h12, .int 0, .int (-1), .int 0, .ref h13, .int 0, .ref h14, .ref h15, .int 0, .int 0, .ref h16, .int 0, .int 0, .int 0, .int 0]))] [] sz ad)) (va_Qv (fun _ : Unit => True) (fun (_ : Unit) (t : State) => CQ (dC, dI) [(h0, .inr (11, [.int 0, .ref h1, .int 0, .int 0, .int 900, .int 0, .int 0, .int 0, .int 0, .int 0, .int 0, .int 0, .long 0, .int 0, .ref h2, .ref h3, .ref h4, .ref h5, .ref h6, .ref h7, .ref h8, .ref h9, .ref h10, .int 0, .int 0, .int 0, .int 0, .int (-1), .int (-1), .long 0, .long 0, .ref h11, .ref h12, .int 0, .int (-1), .int 0, .ref h13, .int 0, .ref h14, .ref h15, .int 0, .int 0, .ref h16, .int 0, .int 0, .int 0, .int 0]))] [] (va_A [(h0, .inr (11, [.int 0, .ref h1, .int 0, .int 0, .int 0, .int 0, .int 0, .int 0, .int 0, .int 0, .int 0, .int 0, .long 0, .int 0, .ref h2, .ref h3, .ref h4, .ref h5, .ref h6, .ref h7, .ref h8, .ref h9, .ref h10, .int 0, .int 0, .int 0, .int 0, .int (-1), .int (-1), .long 0, .long 0, .ref h11, .ref h12, .int 0, .int (-1), .int 0, .ref h13, .int 0, .ref h14, .ref h15, .int 0, .int 0, .ref h16, .int 0, .int 0, .int 0, .int 0]))] sz) t) (va_A [(h0, .inr (11, [.int 0, .ref h1, .int 0, .int 0, .int 0, .int 0, .int 0, .int 0, .int 0, .int 0, .int 0, .int 0, .long 0, .int 0, .ref h2, .ref h3, .ref h4, .ref h5, .ref h6, .ref h7, .ref h8, .ref h9, .ref h10, .int 0, .int 0, .int 0, .int 0, .int (-1), .int (-1), .long 0, .long 0, .ref h11, .ref h12, .int 0, .int (-1), .int 0, .ref h13, .int 0, .ref h14, .ref h15, .int 0, .int 0, .ref h16, .int 0, .int 0, .int 0, .int 0]))] sz)) 0 0 (va_A [(h0, .inr (11, [.int 0, .ref h1, .int 0, .int 0, .int 0, .int 0, .int 0, .int 0, .int 0, .int 0, .int 0, .int 0, .long 0, .int 0, .ref h2, .ref h3, .ref h4, .ref h5, .ref h6, .ref h7, .ref h8, .ref h9, .ref h10, .int 0, .int 0, .int 0, .int 0, .int (-1), .int (-1), .long 0, .long 0, .ref h11, .ref h12, .int 0, .int (-1), .int 0, .ref h13, .int 0, .ref h14, .ref h15, .int 0, .int 0, .ref h16, .int 0, .int 0, .int 0, .int 0]))] sz) := by
  refine Met.ofW (cc := cX12_begin) (maxL := 2) (ret := none) (by decide) rfl ?_
  intro p e s m args below meth c s₁ B hml hv
  obtain ⟨rfl, hsz, hP, hK, hD0, hE⟩ := hv
  have hx := B.exec
  have hb := B.bytes
  have hr := B.returns
  have hts := atoms_spec (ws := wsX12_begin) B.pre
  have hown : s.vm.findClass RX12 = some m.cls := findClass_of_methodNamed B.named
  have hlocks := B.notSynchronized
  subst hsz
  have hD := hD0.self (sz := s.heap.size)
  generalize hAe : va_A [(h0, .inr (11, [.int 0, .ref h1, .int 0, .int 0, .int 0, .int 0, .int 0, .int 0, .int 0, .int 0, .int 0, .int 0, .long 0, .int 0, .ref h2, .ref h3, .ref h4, .ref h5, .ref h6, .ref h7, .ref h8, .ref h9, .ref h10, .int 0, .int 0, .int 0, .int 0, .int (-1), .int (-1), .long 0, .long 0, .ref h11, .ref h12, .int 0, .int (-1), .int 0, .ref h13, .int 0, .ref h14, .ref h15, .int 0, .int 0, .ref h16, .int 0, .int 0, .int 0, .int 0]))] s.heap.size = A at hD hE ⊢
  have hA : ∀ q : Nat, s.heap.size ≤ q → A q := fun q h => by rw [← hAe]; exact Or.inr h
  have hS : va_S A s.heap s.heap [] := va_S.rf
  have hl := lv_entry ([.ref h0, .int 900]) (n := 2) (Nat.le_of_ble_eq_true rfl)
  rw [lg_entry_eq]
  generalize (lg_sl ([.ref h0, .int 900]) ++ List.replicate (2 - (lg_sl ([.ref h0, .int 900])).length) Slot.unset).toArray = ls at hl ⊢
  have hl : lv_has ls 2 [(0, .ref h0), (1, .int 900)] := hl
  refine lv_aload_n hx hb dX12_begin_0 rfl (lv_at hl 0 rfl) ?_
  refine lv_iconst (v := 0) hx hb dX12_begin_1 (by decide) ?_
  refine va_put (D := (dC, dI)) (ci := 11) (v := .int 0) (ty := .int) (C := RX12) (T := TX12) (N := 47) hx hb hts ii_X12_begin_X12 tyX12 tyX12_ok nmX12 hown hK hP hD hS 0 rfl rfl 0 (by decide) (hts _ mm_X12_begin_1) (fun _ h9 => h9) rfl (by decide +kernel) rfl rfl (Nat.le_of_ble_eq_true rfl) dX12_begin_2 (fun H locs hP hD hS => ?_)
  have hP : va_P (dC, dI) vwCl [(h0, .inr (11, [.int 0, .ref h1, .int 0, .int 0, .int 0, .int 0, .int 0, .int 0, .int 0, .int 0, .int 0, .int 0, .long 0, .int 0, .ref h2, .ref h3, .ref h4, .ref h5, .ref h6, .ref h7, .ref h8, .ref h9, .ref h10, .int 0, .int 0, .int 0, .int 0, .int (-1), .int (-1), .long 0, .long 0, .ref h11, .ref h12, .int 0, .int (-1), .int 0, .ref h13, .int 0, .ref h14, .ref h15, .int 0, .int 0, .ref h16, .int 0, .int 0, .int 0, .int 0]))] H := hP
  have hD : va_D A [(h0, .inr (11, [.int 0, .ref h1, .int 0, .int 0, .int 0, .int 0, .int 0, .int 0, .int 0, .int 0, .int 0, .int 0, .long 0, .int 0, .ref h2, .ref h3, .ref h4, .ref h5, .ref h6, .ref h7, .ref h8, .ref h9, .ref h10, .int 0, .int 0, .int 0, .int 0, .int (-1), .int (-1), .long 0, .long 0, .ref h11, .ref h12, .int 0, .int (-1), .int 0, .ref h13, .int 0, .ref h14, .ref h15, .int 0, .int 0, .ref h16, .int 0, .int 0, .int 0, .int 0]))] := hD
  refine lv_aload_n hx hb dX12_begin_5 rfl (lv_at hl 0 rfl) ?_
  refine lv_aload_n hx hb dX12_begin_6 rfl (lv_at hl 0 rfl) ?_
  have hPc := hP.sub (ws' := [(h0, .inr (11, [.int 0, .ref h1, .int 0, .int 0, .int 0, .int 0, .int 0, .int 0, .int 0, .int 0, .int 0, .int 0, .long 0, .int 0, .ref h2, .ref h3, .ref h4, .ref h5, .ref h6, .ref h7, .ref h8, .ref h9, .ref h10, .int 0, .int 0, .int 0, .int 0, .int (-1), .int (-1), .long 0, .long 0, .ref h11, .ref h12, .int 0, .int (-1), .int 0, .ref h13, .int 0, .ref h14, .ref h15, .int 0, .int 0, .ref h16, .int 0, .int 0, .int 0, .int 0]))]) [0] rfl
  have hDc := hD.sub (ws' := [(h0, .inr (11, [.int 0, .ref h1, .int 0, .int 0, .int 0, .int 0, .int 0, .int 0, .int 0, .int 0, .int 0, .int 0, .long 0, .int 0, .ref h2, .ref h3, .ref h4, .ref h5, .ref h6, .ref h7, .ref h8, .ref h9, .ref h10, .int 0, .int 0, .int 0, .int 0, .int (-1), .int (-1), .long 0, .long 0, .ref h11, .ref h12, .int 0, .int (-1), .int 0, .ref h13, .int 0, .ref h14, .ref h15, .int 0, .int 0, .ref h16, .int 0, .int 0, .int 0, .int 0]))]) [0] (by decide) rfl
  have hKc := hK.sub (tys' := []) [] rfl
  have hFc := va_free (wc := [(h0, .inr (11, [.int 0, .ref h1, .int 0, .int 0, .int 0, .int 0, .int 0, .int 0, .int 0, .int 0, .int 0, .int 0, .long 0, .int 0, .ref h2, .ref h3, .ref h4, .ref h5, .ref h6, .ref h7, .ref h8, .ref h9, .ref h10, .int 0, .int 0, .int 0, .int 0, .int (-1), .int (-1), .long 0, .long 0, .ref h11, .ref h12, .int 0, .int (-1), .int 0, .ref h13, .int 0, .ref h14, .ref h15, .int 0, .int 0, .ref h16, .int 0, .int 0, .int 0, .int 0]))]) hD hS hA [0] rfl
  refine va_calli (va_runV (As := []) (rest := [.ref h0]) ⟨hx, hb, hml, hown, hts⟩ (k_X12_take l dC dI ad h0 h1 h2 h3 h4 h5 h6 h7 h8 h9 h10 h11 h12 h13 h14 h15 h16 H.size) (cwV 0 hts gX12_begin_X12_take rfl rfl rfl (by decide +kernel) ⟨Nat.le_of_ble_eq_true rfl, Nat.le_of_ble_eq_true rfl⟩) ⟨fun a U g mk q => ⟨q.1, CP.blind q.2⟩, va_recv hKc hPc (ci := 11) (q0 := 0) rfl rfl, fun U hU hW => ⟨rfl, CP.of hPc hKc hDc hE hS hFc hU hW⟩⟩ rfl rfl hl.1 rfl (lv_room (Nat.le_of_ble_eq_true rfl)) dX12_begin_7 ⟨Nat.le_of_ble_eq_true rfl, Nat.le_of_ble_eq_true rfl⟩) hS (fun q _ h => hFc q h) hFc (fun r1 u t H1 locs ht hvm hw hB hz1 hk1 hS => ?_)
  obtain ⟨hP1, hK1, hD1⟩ := hB
  rw [ht] at hP1
  obtain ⟨hP, hD⟩ := va_join (wr := []) (w1 := [(h0, .inr (11, [.int 0, .ref h1, .int 0, .int 0, .int 0, .int 0, .int 0, .int 0, .int 0, .int 0, .int 0, .int 0, .long 0, .int 0, .ref h2, .ref h3, .ref h4, .ref h5, .ref h6, .ref h7, .ref h8, .ref h9, .ref h10, .int 0, .int 0, .int 0, .int 0, .int (-1), .int (-1), .long 0, .long 0, .ref h11, .ref h12, .int 0, .int (-1), .int 0, .ref h13, .int 0, .ref h14, .ref h15, .int 0, .int 0, .ref h16, .int 0, .int 0, .int 0, .int 0]))]) hP hD [0] [] rfl rfl (by decide) (by decide) hk1 hFc hP1 hD1
  generalize H1 = H at hP hS ⊢
  clear hPc hDc hKc hFc hP1 hD1 hK1 hk1 hz1
  have hP : va_P (dC, dI) vwCl [(h0, .inr (11, [.int 0, .ref h1, .int 0, .int 0, .int 0, .int 0, .int 0, .int 0, .int 0, .int 0, .int 0, .int 0, .long 0, .int 0, .ref h2, .ref h3, .ref h4, .ref h5, .ref h6, .ref h7, .ref h8, .ref h9, .ref h10, .int 0, .int 0, .int 0, .int 0, .int (-1), .int (-1), .long 0, .long 0, .ref h11, .ref h12, .int 0, .int (-1), .int 0, .ref h13, .int 0, .ref h14, .ref h15, .int 0, .int 0, .ref h16, .int 0, .int 0, .int 0, .int 0]))] H := hP
  have hD : va_D A [(h0, .inr (11, [.int 0, .ref h1, .int 0, .int 0, .int 0, .int 0, .int 0, .int 0, .int 0, .int 0, .int 0, .int 0, .long 0, .int 0, .ref h2, .ref h3, .ref h4, .ref h5, .ref h6, .ref h7, .ref h8, .ref h9, .ref h10, .int 0, .int 0, .int 0, .int 0, .int (-1), .int (-1), .long 0, .long 0, .ref h11, .ref h12, .int 0, .int (-1), .int 0, .ref h13, .int 0, .ref h14, .ref h15, .int 0, .int 0, .ref h16, .int 0, .int 0, .int 0, .int 0]))] := hD
  refine zz_top (v := 0) hw ?_
  refine va_put (D := (dC, dI)) (ci := 11) (v := .int 0) (ty := .int) (C := RX12) (T := TX12) (N := 47) hx hb hts ii_X12_begin_X12 tyX12 tyX12_ok nmX12 hown hK hP hD hS 0 rfl rfl 3 (by decide) (hts _ mm_X12_begin_2) (fun _ h9 => h9) rfl (by decide +kernel) rfl rfl (Nat.le_of_ble_eq_true rfl) dX12_begin_10 (fun H locs hP hD hS => ?_)
  have hP : va_P (dC, dI) vwCl [(h0, .inr (11, [.int 0, .ref h1, .int 0, .int 0, .int 0, .int 0, .int 0, .int 0, .int 0, .int 0, .int 0, .int 0, .long 0, .int 0, .ref h2, .ref h3, .ref h4, .ref h5, .ref h6, .ref h7, .ref h8, .ref h9, .ref h10, .int 0, .int 0, .int 0, .int 0, .int (-1), .int (-1), .long 0, .long 0, .ref h11, .ref h12, .int 0, .int (-1), .int 0, .ref h13, .int 0, .ref h14, .ref h15, .int 0, .int 0, .ref h16, .int 0, .int 0, .int 0, .int 0]))] H := hP
  have hD : va_D A [(h0, .inr (11, [.int 0, .ref h1, .int 0, .int 0, .int 0, .int 0, .int 0, .int 0, .int 0, .int 0, .int 0, .int 0, .long 0, .int 0, .ref h2, .ref h3, .ref h4, .ref h5, .ref h6, .ref h7, .ref h8, .ref h9, .ref h10, .int 0, .int 0, .int 0, .int 0, .int (-1), .int (-1), .long 0, .long 0, .ref h11, .ref h12, .int 0, .int (-1), .int 0, .ref h13, .int 0, .ref h14, .ref h15, .int 0, .int 0, .ref h16, .int 0, .int 0, .int 0, .int 0]))] := hD
  refine lv_aload_n hx hb dX12_begin_13 rfl (lv_at hl 0 rfl) ?_
  refine lv_iload_n hx hb dX12_begin_14 rfl (lv_at hl 1 rfl) ?_
  refine va_put (D := (dC, dI)) (ci := 11) (v := .int 900) (ty := .int) (C := RX12) (T := TX12) (N := 47) hx hb hts ii_X12_begin_X12 tyX12 tyX12_ok nmX12 hown hK hP hD hS 0 rfl rfl 4 (by decide) (hts _ mm_X12_begin_3) (fun _ h9 => h9) rfl (by decide +kernel) rfl rfl (Nat.le_of_ble_eq_true rfl) dX12_begin_15 (fun H locs hP hD hS => ?_)
  have hP : va_P (dC, dI) vwCl [(h0, .inr (11, [.int 0, .ref h1, .int 0, .int 0, .int 900, .int 0, .int 0, .int 0, .int 0, .int 0, .int 0, .int 0, .long 0, .int 0, .ref h2, .ref h3, .ref h4, .ref h5, .ref h6, .ref h7, .ref h8, .ref h9, .ref h10, .int 0, .int 0, .int 0, .int 0, .int (-1), .int (-1), .long 0, .long 0, .ref h11, .ref h12, .int 0, .int (-1), .int 0, .ref h13, .int 0, .ref h14, .ref h15, .int 0, .int 0, .ref h16, .int 0, .int 0, .int 0, .int 0]))] H := hP
  have hD : va_D A [(h0, .inr (11, [.int 0, .ref h1, .int 0, .int 0, .int 900, .int 0, .int 0, .int 0, .int 0, .int 0, .int 0, .int 0, .long 0, .int 0, .ref h2, .ref h3, .ref h4, .ref h5, .ref h6, .ref h7, .ref h8, .ref h9, .ref h10, .int 0, .int 0, .int 0, .int 0, .int (-1), .int (-1), .long 0, .long 0, .ref h11, .ref h12, .int 0, .int (-1), .int 0, .ref h13, .int 0, .ref h14, .ref h15, .int 0, .int 0, .ref h16, .int 0, .int 0, .int 0, .int 0]))] := hD
  refine lv_aload_n hx hb dX12_begin_18 rfl (lv_at hl 0 rfl) ?_
  refine lv_iconst (v := 0) hx hb dX12_begin_19 (by decide) ?_
  refine va_put (D := (dC, dI)) (ci := 11) (v := .int 0) (ty := .int) (C := RX12) (T := TX12) (N := 47) hx hb hts ii_X12_begin_X12 tyX12 tyX12_ok nmX12 hown hK hP hD hS 0 rfl rfl 10 (by decide) (hts _ mm_X12_begin_4) (fun _ h9 => h9) rfl (by decide +kernel) rfl rfl (Nat.le_of_ble_eq_true rfl) dX12_begin_20 (fun H locs hP hD hS => ?_)
  have hP : va_P (dC, dI) vwCl [(h0, .inr (11, [.int 0, .ref h1, .int 0, .int 0, .int 900, .int 0, .int 0, .int 0, .int 0, .int 0, .int 0, .int 0, .long 0, .int 0, .ref h2, .ref h3, .ref h4, .ref h5, .ref h6, .ref h7, .ref h8, .ref h9, .ref h10, .int 0, .int 0, .int 0, .int 0, .int (-1), .int (-1), .long 0, .long 0, .ref h11, .ref h12, .int 0, .int (-1), .int 0, .ref h13, .int 0, .ref h14, .ref h15, .int 0, .int 0, .ref h16, .int 0, .int 0, .int 0, .int 0]))] H := hP
  have hD : va_D A [(h0, .inr (11, [.int 0, .ref h1, .int 0, .int 0, .int 900, .int 0, .int 0, .int 0, .int 0, .int 0, .int 0, .int 0, .long 0, .int 0, .ref h2, .ref h3, .ref h4, .ref h5, .ref h6, .ref h7, .ref h8, .ref h9, .ref h10, .int 0, .int 0, .int 0, .int 0, .int (-1), .int (-1), .long 0, .long 0, .ref h11, .ref h12, .int 0, .int (-1), .int 0, .ref h13, .int 0, .ref h14, .ref h15, .int 0, .int 0, .ref h16, .int 0, .int 0, .int 0, .int 0]))] := hD
  refine lv_aload_n hx hb dX12_begin_23 rfl (lv_at hl 0 rfl) ?_
  refine lv_iconst (v := 0) hx hb dX12_begin_24 (by decide) ?_
  refine va_put (D := (dC, dI)) (ci := 11) (v := .int 0) (ty := .int) (C := RX12) (T := TX12) (N := 47) hx hb hts ii_X12_begin_X12 tyX12 tyX12_ok nmX12 hown hK hP hD hS 0 rfl rfl 5 (by decide) (hts _ mm_X12_begin_5) (fun _ h9 => h9) rfl (by decide +kernel) rfl rfl (Nat.le_of_ble_eq_true rfl) dX12_begin_25 (fun H locs hP hD hS => ?_)
  have hP : va_P (dC, dI) vwCl [(h0, .inr (11, [.int 0, .ref h1, .int 0, .int 0, .int 900, .int 0, .int 0, .int 0, .int 0, .int 0, .int 0, .int 0, .long 0, .int 0, .ref h2, .ref h3, .ref h4, .ref h5, .ref h6, .ref h7, .ref h8, .ref h9, .ref h10, .int 0, .int 0, .int 0, .int 0, .int (-1), .int (-1), .long 0, .long 0, .ref h11, .ref h12, .int 0, .int (-1), .int 0, .ref h13, .int 0, .ref h14, .ref h15, .int 0, .int 0, .ref h16, .int 0, .int 0, .int 0, .int 0]))] H := hP
  have hD : va_D A [(h0, .inr (11, [.int 0, .ref h1, .int 0, .int 0, .int 900, .int 0, .int 0, .int 0, .int 0, .int 0, .int 0, .int 0, .long 0, .int 0, .ref h2, .ref h3, .ref h4, .ref h5, .ref h6, .ref h7, .ref h8, .ref h9, .ref h10, .int 0, .int 0, .int 0, .int 0, .int (-1), .int (-1), .long 0, .long 0, .ref h11, .ref h12, .int 0, .int (-1), .int 0, .ref h13, .int 0, .ref h14, .ref h15, .int 0, .int 0, .ref h16, .int 0, .int 0, .int 0, .int 0]))] := hD
  refine lv_aload_n hx hb dX12_begin_28 rfl (lv_at hl 0 rfl) ?_
  have hPc := hP.sub (ws' := [(h0, .inr (11, [.int 0, .ref h1, .int 0, .int 0, .int 900, .int 0, .int 0, .int 0, .int 0, .int 0, .int 0, .int 0, .long 0, .int 0, .ref h2, .ref h3, .ref h4, .ref h5, .ref h6, .ref h7, .ref h8, .ref h9, .ref h10, .int 0, .int 0, .int 0, .int 0, .int (-1), .int (-1), .long 0, .long 0, .ref h11, .ref h12, .int 0, .int (-1), .int 0, .ref h13, .int 0, .ref h14, .ref h15, .int 0, .int 0, .ref h16, .int 0, .int 0, .int 0, .int 0]))]) [0] rfl
  have hDc := hD.sub (ws' := [(h0, .inr (11, [.int 0, .ref h1, .int 0, .int 0, .int 900, .int 0, .int 0, .int 0, .int 0, .int 0, .int 0, .int 0, .long 0, .int 0, .ref h2, .ref h3, .ref h4, .ref h5, .ref h6, .ref h7, .ref h8, .ref h9, .ref h10, .int 0, .int 0, .int 0, .int 0, .int (-1), .int (-1), .long 0, .long 0, .ref h11, .ref h12, .int 0, .int (-1), .int 0, .ref h13, .int 0, .ref h14, .ref h15, .int 0, .int 0, .ref h16, .int 0, .int 0, .int 0, .int 0]))]) [0] (by decide) rfl
  have hKc := hK.sub (tys' := []) [] rfl
  have hFc := va_free (wc := [(h0, .inr (11, [.int 0, .ref h1, .int 0, .int 0, .int 900, .int 0, .int 0, .int 0, .int 0, .int 0, .int 0, .int 0, .long 0, .int 0, .ref h2, .ref h3, .ref h4, .ref h5, .ref h6, .ref h7, .ref h8, .ref h9, .ref h10, .int 0, .int 0, .int 0, .int 0, .int (-1), .int (-1), .long 0, .long 0, .ref h11, .ref h12, .int 0, .int (-1), .int 0, .ref h13, .int 0, .ref h14, .ref h15, .int 0, .int 0, .ref h16, .int 0, .int 0, .int 0, .int 0]))]) hD hS hA [0] rfl
  refine va_callv (va_runV (As := []) (rest := []) ⟨hx, hb, hml, hown, hts⟩ (k_X12_go l dC dI ad h0 h1 h2 h3 h4 h5 h6 h7 h8 h9 h10 h11 h12 h13 h14 h15 h16 H.size) (cwV 0 hts gX12_begin_X12_go rfl rfl rfl (by decide +kernel) ⟨Nat.le_of_ble_eq_true rfl, Nat.le_of_ble_eq_true rfl⟩) ⟨fun a U g mk q => ⟨q.1, CP.blind q.2⟩, va_recv hKc hPc (ci := 11) (q0 := 0) rfl rfl, fun U hU hW => ⟨rfl, CP.of hPc hKc hDc hE hS hFc hU hW⟩⟩ rfl rfl hl.1 rfl (lv_room (Nat.le_of_ble_eq_true rfl)) dX12_begin_29 ⟨Nat.le_of_ble_eq_true rfl, Nat.le_of_ble_eq_true rfl⟩) hS (fun q _ h => hFc q h) hFc (fun u t H1 locs ht hvm hw hB hz1 hk1 hS => ?_)
  obtain ⟨hP1, hK1, hD1⟩ := hB
  rw [ht] at hP1
  obtain ⟨hP, hD⟩ := va_join (wr := []) (w1 := [(h0, .inr (11, [.int 0, .ref h1, .int 0, .int 0, .int 900, .int 0, .int 0, .int 0, .int 0, .int 0, .int 0, .int 0, .long 0, .int 0, .ref h2, .ref h3, .ref h4, .ref h5, .ref h6, .ref h7, .ref h8, .ref h9, .ref h10, .int 0, .int 0, .int 0, .int 0, .int (-1), .int (-1), .long 0, .long 0, .ref h11, .ref h12, .int 0, .int (-1), .int 0, .ref h13, .int 0, .ref h14, .ref h15, .int 0, .int 0, .ref h16, .int 0, .int 0, .int 0, .int 0]))]) hP hD [0] [] rfl rfl (by decide) (by decide) hk1 hFc hP1 hD1
  generalize H1 = H at hP hS ⊢
  clear hPc hDc hKc hFc hP1 hD1 hK1 hk1 hz1
  have hP : va_P (dC, dI) vwCl [(h0, .inr (11, [.int 0, .ref h1, .int 0, .int 0, .int 900, .int 0, .int 0, .int 0, .int 0, .int 0, .int 0, .int 0, .long 0, .int 0, .ref h2, .ref h3, .ref h4, .ref h5, .ref h6, .ref h7, .ref h8, .ref h9, .ref h10, .int 0, .int 0, .int 0, .int 0, .int (-1), .int (-1), .long 0, .long 0, .ref h11, .ref h12, .int 0, .int (-1), .int 0, .ref h13, .int 0, .ref h14, .ref h15, .int 0, .int 0, .ref h16, .int 0, .int 0, .int 0, .int 0]))] H := hP
  have hD : va_D A [(h0, .inr (11, [.int 0, .ref h1, .int 0, .int 0, .int 900, .int 0, .int 0, .int 0, .int 0, .int 0, .int 0, .int 0, .long 0, .int 0, .ref h2, .ref h3, .ref h4, .ref h5, .ref h6, .ref h7, .ref h8, .ref h9, .ref h10, .int 0, .int 0, .int 0, .int 0, .int (-1), .int (-1), .long 0, .long 0, .ref h11, .ref h12, .int 0, .int (-1), .int 0, .ref h13, .int 0, .ref h14, .ref h15, .int 0, .int 0, .ref h16, .int 0, .int 0, .int 0, .int 0]))] := hD
  have hP9 := hP.sub (ws' := [(h0, .inr (11, [.int 0, .ref h1, .int 0, .int 0, .int 900, .int 0, .int 0, .int 0, .int 0, .int 0, .int 0, .int 0, .long 0, .int 0, .ref h2, .ref h3, .ref h4, .ref h5, .ref h6, .ref h7, .ref h8, .ref h9, .ref h10, .int 0, .int 0, .int 0, .int 0, .int (-1), .int (-1), .long 0, .long 0, .ref h11, .ref h12, .int 0, .int (-1), .int 0, .ref h13, .int 0, .ref h14, .ref h15, .int 0, .int 0, .ref h16, .int 0, .int 0, .int 0, .int 0]))]) [0] rfl
  have hD9 := hD.sub (ws' := [(h0, .inr (11, [.int 0, .ref h1, .int 0, .int 0, .int 900, .int 0, .int 0, .int 0, .int 0, .int 0, .int 0, .int 0, .long 0, .int 0, .ref h2, .ref h3, .ref h4, .ref h5, .ref h6, .ref h7, .ref h8, .ref h9, .ref h10, .int 0, .int 0, .int 0, .int 0, .int (-1), .int (-1), .long 0, .long 0, .ref h11, .ref h12, .int 0, .int (-1), .int 0, .ref h13, .int 0, .ref h14, .ref h15, .int 0, .int 0, .ref h16, .int 0, .int 0, .int 0, .int 0]))]) [0] (by decide) rfl
  have hK9 := hK.sub (tys' := []) [] rfl
  refine W.widen (k := 0) (n := 0) (Nat.le_of_ble_eq_true rfl) (Nat.le_of_ble_eq_true rfl) ?_
  exact W.vret hx hb hr (fun t ht hW => ⟨⟨(), rfl, trivial, by rw [ht]; exact hP9, va_K.moved hW.alike hK9, hD9⟩, hS.F ht⟩) hS.2.2 dX12_begin_32
