set_option maxHeartbeats 4000000 in
set_option maxRecDepth 100000 in
theorem k_X8_append (l : Launch) (dC : Nat → ClassId) (dI : Nat → Nat → Nat) (ad : Nat → Nat) (h0 h1 : Nat) (p0 : Int32) (w0 : ClassId) (sz : Nat) : Met l yX8_append wsX8_append ({ frames := 0, cells := 0, slots := 0, locals := 0 }) (va_Pc [.ref h0, .int p0] (CP (dC, dI) [(h0, .inr (9, [.ref h1, .int 0, .int 0, .int 0, .int 0, .int 0, .int 0, .ref (ad 25), .long 0, .int 0, .long 0, .int 0, .int 0, .int 0, .int 0])), (h1, .inl (w0, 940, .inl (fun _ => 0)))] [(w0, .byte)] sz ad)) (va_Qv (fun _ : Unit => True) (fun (_ : Unit) (t : State) => ∃ (F0 : Nat → Int32), CQ (dC, dI) [(h0, .inr (9, [.ref h1, .int 4, .int 0, .int 0, .int 0, .int 0, .int 0, .ref (ad 25), .long 0, .int 0, .long 0, .int 0, .int 0, .int 0, .int 0])), (h1, .inl (w0, 940, .inl F0))] [] (va_A [(h0, .inr (9, [.ref h1, .int 0, .int 0, .int 0, .int 0, .int 0, .int 0, .ref (ad 25), .long 0, .int 0, .long 0, .int 0, .int 0, .int 0, .int 0])), (h1, .inl (w0, 940, .inl (fun _ => 0)))] sz) t) (va_A [(h0, .inr (9, [.ref h1, .int 0, .int 0, .int 0, .int 0, .int 0, .int 0, .ref (ad 25), .long 0, .int 0, .long 0, .int 0, .int 0, .int 0, .int 0])), (h1, .inl (w0, 940, .inl (fun _ => 0)))] sz)) 0 0 (va_A [(h0, .inr (9, [.ref h1, .int 0, .int 0, .int 0, .int 0, .int 0, .int 0, .ref (ad 25), .long 0, .int 0, .long 0, .int 0, .int 0, .int 0, .int 0])), (h1, .inl (w0, 940, .inl (fun _ => 0)))] sz) := by
  refine Met.ofW (cc := cX8_append) (maxL := 3) (ret := none) (by decide) rfl ?_
  intro p e s m args below meth c s₁ B hml hv
  obtain ⟨rfl, hsz, hP, hK, hD0, hE⟩ := hv
  have hx := B.exec
  have hb := B.bytes
  have hr := B.returns
  have hts := atoms_spec (ws := wsX8_append) B.pre
  have hown : s.vm.findClass RX8 = some m.cls := findClass_of_methodNamed B.named
  have hlocks := B.notSynchronized
  subst hsz
  have hD := hD0.self (sz := s.heap.size)
  generalize hAe : va_A [(h0, .inr (9, [.ref h1, .int 0, .int 0, .int 0, .int 0, .int 0, .int 0, .ref (ad 25), .long 0, .int 0, .long 0, .int 0, .int 0, .int 0, .int 0])), (h1, .inl (w0, 940, .inl (fun _ => 0)))] s.heap.size = A at hD hE ⊢
  have hA : ∀ q : Nat, s.heap.size ≤ q → A q := fun q h => by rw [← hAe]; exact Or.inr h
  have hS : va_S A s.heap s.heap [] := va_S.rf
  have hl := lv_entry ([.ref h0, .int p0]) (n := 3) (Nat.le_of_ble_eq_true rfl)
  rw [lg_entry_eq]
  generalize (lg_sl ([.ref h0, .int p0]) ++ List.replicate (3 - (lg_sl ([.ref h0, .int p0])).length) Slot.unset).toArray = ls at hl ⊢
  have hl : lv_has ls 3 [(0, .ref h0), (1, .int p0)] := hl
  refine lv_bipush (v := 24) hx hb dX8_append_0 (by decide) ?_
  refine lv_istore_n (lv' := [(2, .int 24), (0, .ref h0), (1, .int p0)]) hx hb dX8_append_2 rfl hl (by decide) rfl (fun ls hl => ?_)
  refine lv_iload_n hx hb dX8_append_3 rfl (lv_at hl 0 rfl) ?_
  refine lv_if_lt (tgt := 46) hx hb dX8_append_4 (by decide) (fun c1 => absurd c1 (by decide)) (fun _ => ?_)
  refine lv_aload_n hx hb dX8_append_7 rfl (lv_at hl 1 rfl) ?_
  refine va_get (D := (dC, dI)) (ci := 9) (v := .int 0) (C := RX8) (T := TX8) (N := 15) hx hb hts ii_X8_append_X8 hown hK hP 0 rfl rfl 1 (by decide) (hts _ mm_X8_append_1) (fun _ h9 => h9) rfl dX8_append_8 ?_
  refine lv_sipush (v := 940) hx hb dX8_append_11 (by decide) ?_
  refine lv_icmp_ge (tgt := 46) hx hb dX8_append_14 (by decide) (fun c2 => absurd c2 (by decide)) (fun _ => ?_)
  refine lv_aload_n hx hb dX8_append_17 rfl (lv_at hl 1 rfl) ?_
  refine va_get (D := (dC, dI)) (ci := 9) (v := .ref h1) (C := RX8) (T := TX8) (N := 15) hx hb hts ii_X8_append_X8 hown hK hP 0 rfl rfl 0 (by decide) (hts _ mm_X8_append_2) (fun _ h9 => h9) rfl dX8_append_18 ?_
  refine lv_aload_n hx hb dX8_append_21 rfl (lv_at hl 1 rfl) ?_
  refine va_get (D := (dC, dI)) (ci := 9) (v := .int 0) (C := RX8) (T := TX8) (N := 15) hx hb hts ii_X8_append_X8 hown hK hP 0 rfl rfl 1 (by decide) (hts _ mm_X8_append_1) (fun _ h9 => h9) rfl dX8_append_22 ?_
  refine lv_iload_n hx hb dX8_append_25 rfl (lv_at hl 2 rfl) ?_
  refine lv_iload_n hx hb dX8_append_26 rfl (lv_at hl 0 rfl) ?_
  refine lv_iushr hx hb dX8_append_27 rfl ?_
  refine lv_topi (fun z3 ez3 => ?_)
  refine lv_i2b hx hb dX8_append_28 rfl ?_
  refine lv_topi (fun z4 ez4 => ?_)
  obtain ⟨z5, ez5⟩ : ∃ y : Int32, y = vp_nar .byte z4 := ⟨_, rfl⟩
  refine va_bast hx hb hK hP hD hS 1 0 rfl rfl (i := 0) (zz_in (by decide)) dX8_append_29 (fun H locs hP hD hS => ?_)
  rw [← ez5] at hP hD
  have hP : va_P (dC, dI) vwCl [(h0, .inr (9, [.ref h1, .int 0, .int 0, .int 0, .int 0, .int 0, .int 0, .ref (ad 25), .long 0, .int 0, .long 0, .int 0, .int 0, .int 0, .int 0])), (h1, .inl (w0, 940, .inl (upd (fun _ => 0) 0 z5)))] H := hP
  have hD : va_D A [(h0, .inr (9, [.ref h1, .int 0, .int 0, .int 0, .int 0, .int 0, .int 0, .ref (ad 25), .long 0, .int 0, .long 0, .int 0, .int 0, .int 0, .int 0])), (h1, .inl (w0, 940, .inl (upd (fun _ => 0) 0 z5)))] := hD
  refine lv_aload_n hx hb dX8_append_30 rfl (lv_at hl 1 rfl) ?_
  refine lv_dup hx hb dX8_append_31 rfl ?_
  refine va_get (D := (dC, dI)) (ci := 9) (v := .int 0) (C := RX8) (T := TX8) (N := 15) hx hb hts ii_X8_append_X8 hown hK hP 0 rfl rfl 1 (by decide) (hts _ mm_X8_append_1) (fun _ h9 => h9) rfl dX8_append_32 ?_
  refine lv_iconst (v := 1) hx hb dX8_append_35 (by decide) ?_
  refine lv_iadd hx hb dX8_append_36 ?_
  refine zz_top (v := 1) (by decide) ?_
  refine va_put (D := (dC, dI)) (ci := 9) (v := .int 1) (ty := .int) (C := RX8) (T := TX8) (N := 15) hx hb hts ii_X8_append_X8 tyX8 tyX8_ok nmX8 hown hK hP hD hS 0 rfl rfl 1 (by decide) (hts _ mm_X8_append_1) (fun _ h9 => h9) rfl (by decide +kernel) rfl rfl (Nat.le_of_ble_eq_true rfl) dX8_append_37 (fun H locs hP hD hS => ?_)
  have hP : va_P (dC, dI) vwCl [(h0, .inr (9, [.ref h1, .int 1, .int 0, .int 0, .int 0, .int 0, .int 0, .ref (ad 25), .long 0, .int 0, .long 0, .int 0, .int 0, .int 0, .int 0])), (h1, .inl (w0, 940, .inl (upd (fun _ => 0) 0 z5)))] H := hP
  have hD : va_D A [(h0, .inr (9, [.ref h1, .int 1, .int 0, .int 0, .int 0, .int 0, .int 0, .ref (ad 25), .long 0, .int 0, .long 0, .int 0, .int 0, .int 0, .int 0])), (h1, .inl (w0, 940, .inl (upd (fun _ => 0) 0 z5)))] := hD
  refine lv_iinc (v := 16) (lv' := [(2, .int 16), (0, .ref h0), (1, .int p0)]) hx hb dX8_append_40 hl (k := 0) rfl (by decide) (by decide) rfl (fun ls hl => ?_)
  refine lv_goto (tgt := 3) hx hb dX8_append_43 (by decide) ?_
  refine lv_iload_n hx hb dX8_append_3 rfl (lv_at hl 0 rfl) ?_
  refine lv_if_lt (tgt := 46) hx hb dX8_append_4 (by decide) (fun c6 => absurd c6 (by decide)) (fun _ => ?_)
  refine lv_aload_n hx hb dX8_append_7 rfl (lv_at hl 1 rfl) ?_
  refine va_get (D := (dC, dI)) (ci := 9) (v := .int 1) (C := RX8) (T := TX8) (N := 15) hx hb hts ii_X8_append_X8 hown hK hP 0 rfl rfl 1 (by decide) (hts _ mm_X8_append_1) (fun _ h9 => h9) rfl dX8_append_8 ?_
  refine lv_sipush (v := 940) hx hb dX8_append_11 (by decide) ?_
  refine lv_icmp_ge (tgt := 46) hx hb dX8_append_14 (by decide) (fun c7 => absurd c7 (by decide)) (fun _ => ?_)
  refine lv_aload_n hx hb dX8_append_17 rfl (lv_at hl 1 rfl) ?_
  refine va_get (D := (dC, dI)) (ci := 9) (v := .ref h1) (C := RX8) (T := TX8) (N := 15) hx hb hts ii_X8_append_X8 hown hK hP 0 rfl rfl 0 (by decide) (hts _ mm_X8_append_2) (fun _ h9 => h9) rfl dX8_append_18 ?_
  refine lv_aload_n hx hb dX8_append_21 rfl (lv_at hl 1 rfl) ?_
  refine va_get (D := (dC, dI)) (ci := 9) (v := .int 1) (C := RX8) (T := TX8) (N := 15) hx hb hts ii_X8_append_X8 hown hK hP 0 rfl rfl 1 (by decide) (hts _ mm_X8_append_1) (fun _ h9 => h9) rfl dX8_append_22 ?_
  refine lv_iload_n hx hb dX8_append_25 rfl (lv_at hl 2 rfl) ?_
  refine lv_iload_n hx hb dX8_append_26 rfl (lv_at hl 0 rfl) ?_
  refine lv_iushr hx hb dX8_append_27 rfl ?_
  refine lv_topi (fun z8 ez8 => ?_)
  refine lv_i2b hx hb dX8_append_28 rfl ?_
  refine lv_topi (fun z9 ez9 => ?_)
  obtain ⟨z10, ez10⟩ : ∃ y : Int32, y = vp_nar .byte z9 := ⟨_, rfl⟩
  refine va_bast hx hb hK hP hD hS 1 0 rfl rfl (i := 1) (zz_in (by decide)) dX8_append_29 (fun H locs hP hD hS => ?_)
  rw [← ez10] at hP hD
  have hP : va_P (dC, dI) vwCl [(h0, .inr (9, [.ref h1, .int 1, .int 0, .int 0, .int 0, .int 0, .int 0, .ref (ad 25), .long 0, .int 0, .long 0, .int 0, .int 0, .int 0, .int 0])), (h1, .inl (w0, 940, .inl (upd (upd (fun _ => 0) 0 z5) 1 z10)))] H := hP
  have hD : va_D A [(h0, .inr (9, [.ref h1, .int 1, .int 0, .int 0, .int 0, .int 0, .int 0, .ref (ad 25), .long 0, .int 0, .long 0, .int 0, .int 0, .int 0, .int 0])), (h1, .inl (w0, 940, .inl (upd (upd (fun _ => 0) 0 z5) 1 z10)))] := hD
  refine lv_aload_n hx hb dX8_append_30 rfl (lv_at hl 1 rfl) ?_
  refine lv_dup hx hb dX8_append_31 rfl ?_
  refine va_get (D := (dC, dI)) (ci := 9) (v := .int 1) (C := RX8) (T := TX8) (N := 15) hx hb hts ii_X8_append_X8 hown hK hP 0 rfl rfl 1 (by decide) (hts _ mm_X8_append_1) (fun _ h9 => h9) rfl dX8_append_32 ?_
  refine lv_iconst (v := 1) hx hb dX8_append_35 (by decide) ?_
  refine lv_iadd hx hb dX8_append_36 ?_
  refine zz_top (v := 2) (by decide) ?_
  refine va_put (D := (dC, dI)) (ci := 9) (v := .int 2) (ty := .int) (C := RX8) (T := TX8) (N := 15) hx hb hts ii_X8_append_X8 tyX8 tyX8_ok nmX8 hown hK hP hD hS 0 rfl rfl 1 (by decide) (hts _ mm_X8_append_1) (fun _ h9 => h9) rfl (by decide +kernel) rfl rfl (Nat.le_of_ble_eq_true rfl) dX8_append_37 (fun H locs hP hD hS => ?_)
  have hP : va_P (dC, dI) vwCl [(h0, .inr (9, [.ref h1, .int 2, .int 0, .int 0, .int 0, .int 0, .int 0, .ref (ad 25), .long 0, .int 0, .long 0, .int 0, .int 0, .int 0, .int 0])), (h1, .inl (w0, 940, .inl (upd (upd (fun _ => 0) 0 z5) 1 z10)))] H := hP
  have hD : va_D A [(h0, .inr (9, [.ref h1, .int 2, .int 0, .int 0, .int 0, .int 0, .int 0, .ref (ad 25), .long 0, .int 0, .long 0, .int 0, .int 0, .int 0, .int 0])), (h1, .inl (w0, 940, .inl (upd (upd (fun _ => 0) 0 z5) 1 z10)))] := hD
  refine lv_iinc (v := 8) (lv' := [(2, .int 8), (0, .ref h0), (1, .int p0)]) hx hb dX8_append_40 hl (k := 0) rfl (by decide) (by decide) rfl (fun ls hl => ?_)
  refine lv_goto (tgt := 3) hx hb dX8_append_43 (by decide) ?_
  refine lv_iload_n hx hb dX8_append_3 rfl (lv_at hl 0 rfl) ?_
  refine lv_if_lt (tgt := 46) hx hb dX8_append_4 (by decide) (fun c11 => absurd c11 (by decide)) (fun _ => ?_)
  refine lv_aload_n hx hb dX8_append_7 rfl (lv_at hl 1 rfl) ?_
  refine va_get (D := (dC, dI)) (ci := 9) (v := .int 2) (C := RX8) (T := TX8) (N := 15) hx hb hts ii_X8_append_X8 hown hK hP 0 rfl rfl 1 (by decide) (hts _ mm_X8_append_1) (fun _ h9 => h9) rfl dX8_append_8 ?_
  refine lv_sipush (v := 940) hx hb dX8_append_11 (by decide) ?_
  refine lv_icmp_ge (tgt := 46) hx hb dX8_append_14 (by decide) (fun c12 => absurd c12 (by decide)) (fun _ => ?_)
  refine lv_aload_n hx hb dX8_append_17 rfl (lv_at hl 1 rfl) ?_
  refine va_get (D := (dC, dI)) (ci := 9) (v := .ref h1) (C := RX8) (T := TX8) (N := 15) hx hb hts ii_X8_append_X8 hown hK hP 0 rfl rfl 0 (by decide) (hts _ mm_X8_append_2) (fun _ h9 => h9) rfl dX8_append_18 ?_
  refine lv_aload_n hx hb dX8_append_21 rfl (lv_at hl 1 rfl) ?_
  refine va_get (D := (dC, dI)) (ci := 9) (v := .int 2) (C := RX8) (T := TX8) (N := 15) hx hb hts ii_X8_append_X8 hown hK hP 0 rfl rfl 1 (by decide) (hts _ mm_X8_append_1) (fun _ h9 => h9) rfl dX8_append_22 ?_
  refine lv_iload_n hx hb dX8_append_25 rfl (lv_at hl 2 rfl) ?_
  refine lv_iload_n hx hb dX8_append_26 rfl (lv_at hl 0 rfl) ?_
  refine lv_iushr hx hb dX8_append_27 rfl ?_
  refine lv_topi (fun z13 ez13 => ?_)
  refine lv_i2b hx hb dX8_append_28 rfl ?_
  refine lv_topi (fun z14 ez14 => ?_)
  obtain ⟨z15, ez15⟩ : ∃ y : Int32, y = vp_nar .byte z14 := ⟨_, rfl⟩
  refine va_bast hx hb hK hP hD hS 1 0 rfl rfl (i := 2) (zz_in (by decide)) dX8_append_29 (fun H locs hP hD hS => ?_)
  rw [← ez15] at hP hD
  have hP : va_P (dC, dI) vwCl [(h0, .inr (9, [.ref h1, .int 2, .int 0, .int 0, .int 0, .int 0, .int 0, .ref (ad 25), .long 0, .int 0, .long 0, .int 0, .int 0, .int 0, .int 0])), (h1, .inl (w0, 940, .inl (upd (upd (upd (fun _ => 0) 0 z5) 1 z10) 2 z15)))] H := hP
  have hD : va_D A [(h0, .inr (9, [.ref h1, .int 2, .int 0, .int 0, .int 0, .int 0, .int 0, .ref (ad 25), .long 0, .int 0, .long 0, .int 0, .int 0, .int 0, .int 0])), (h1, .inl (w0, 940, .inl (upd (upd (upd (fun _ => 0) 0 z5) 1 z10) 2 z15)))] := hD
  refine lv_aload_n hx hb dX8_append_30 rfl (lv_at hl 1 rfl) ?_
  refine lv_dup hx hb dX8_append_31 rfl ?_
  refine va_get (D := (dC, dI)) (ci := 9) (v := .int 2) (C := RX8) (T := TX8) (N := 15) hx hb hts ii_X8_append_X8 hown hK hP 0 rfl rfl 1 (by decide) (hts _ mm_X8_append_1) (fun _ h9 => h9) rfl dX8_append_32 ?_
  refine lv_iconst (v := 1) hx hb dX8_append_35 (by decide) ?_
  refine lv_iadd hx hb dX8_append_36 ?_
  refine zz_top (v := 3) (by decide) ?_
  refine va_put (D := (dC, dI)) (ci := 9) (v := .int 3) (ty := .int) (C := RX8) (T := TX8) (N := 15) hx hb hts ii_X8_append_X8 tyX8 tyX8_ok nmX8 hown hK hP hD hS 0 rfl rfl 1 (by decide) (hts _ mm_X8_append_1) (fun _ h9 => h9) rfl (by decide +kernel) rfl rfl (Nat.le_of_ble_eq_true rfl) dX8_append_37 (fun H locs hP hD hS => ?_)
  have hP : va_P (dC, dI) vwCl [(h0, .inr (9, [.ref h1, .int 3, .int 0, .int 0, .int 0, .int 0, .int 0, .ref (ad 25), .long 0, .int 0, .long 0, .int 0, .int 0, .int 0, .int 0])), (h1, .inl (w0, 940, .inl (upd (upd (upd (fun _ => 0) 0 z5) 1 z10) 2 z15)))] H := hP
  have hD : va_D A [(h0, .inr (9, [.ref h1, .int 3, .int 0, .int 0, .int 0, .int 0, .int 0, .ref (ad 25), .long 0, .int 0, .long 0, .int 0, .int 0, .int 0, .int 0])), (h1, .inl (w0, 940, .inl (upd (upd (upd (fun _ => 0) 0 z5) 1 z10) 2 z15)))] := hD
  refine lv_iinc (v := 0) (lv' := [(2, .int 0), (0, .ref h0), (1, .int p0)]) hx hb dX8_append_40 hl (k := 0) rfl (by decide) (by decide) rfl (fun ls hl => ?_)
  refine lv_goto (tgt := 3) hx hb dX8_append_43 (by decide) ?_
  refine lv_iload_n hx hb dX8_append_3 rfl (lv_at hl 0 rfl) ?_
  refine lv_if_lt (tgt := 46) hx hb dX8_append_4 (by decide) (fun c16 => absurd c16 (by decide)) (fun _ => ?_)
  refine lv_aload_n hx hb dX8_append_7 rfl (lv_at hl 1 rfl) ?_
  refine va_get (D := (dC, dI)) (ci := 9) (v := .int 3) (C := RX8) (T := TX8) (N := 15) hx hb hts ii_X8_append_X8 hown hK hP 0 rfl rfl 1 (by decide) (hts _ mm_X8_append_1) (fun _ h9 => h9) rfl dX8_append_8 ?_
  refine lv_sipush (v := 940) hx hb dX8_append_11 (by decide) ?_
  refine lv_icmp_ge (tgt := 46) hx hb dX8_append_14 (by decide) (fun c17 => absurd c17 (by decide)) (fun _ => ?_)
  refine lv_aload_n hx hb dX8_append_17 rfl (lv_at hl 1 rfl) ?_
  refine va_get (D := (dC, dI)) (ci := 9) (v := .ref h1) (C := RX8) (T := TX8) (N := 15) hx hb hts ii_X8_append_X8 hown hK hP 0 rfl rfl 0 (by decide) (hts _ mm_X8_append_2) (fun _ h9 => h9) rfl dX8_append_18 ?_
  refine lv_aload_n hx hb dX8_append_21 rfl (lv_at hl 1 rfl) ?_
  refine va_get (D := (dC, dI)) (ci := 9) (v := .int 3) (C := RX8) (T := TX8) (N := 15) hx hb hts ii_X8_append_X8 hown hK hP 0 rfl rfl 1 (by decide) (hts _ mm_X8_append_1) (fun _ h9 => h9) rfl dX8_append_22 ?_
  refine lv_iload_n hx hb dX8_append_25 rfl (lv_at hl 2 rfl) ?_
  refine lv_iload_n hx hb dX8_append_26 rfl (lv_at hl 0 rfl) ?_
  refine lv_iushr hx hb dX8_append_27 rfl ?_
  refine lv_topi (fun z18 ez18 => ?_)
  refine lv_i2b hx hb dX8_append_28 rfl ?_
  refine lv_topi (fun z19 ez19 => ?_)
  obtain ⟨z20, ez20⟩ : ∃ y : Int32, y = vp_nar .byte z19 := ⟨_, rfl⟩
  refine va_bast hx hb hK hP hD hS 1 0 rfl rfl (i := 3) (zz_in (by decide)) dX8_append_29 (fun H locs hP hD hS => ?_)
  rw [← ez20] at hP hD
  have hP : va_P (dC, dI) vwCl [(h0, .inr (9, [.ref h1, .int 3, .int 0, .int 0, .int 0, .int 0, .int 0, .ref (ad 25), .long 0, .int 0, .long 0, .int 0, .int 0, .int 0, .int 0])), (h1, .inl (w0, 940, .inl (upd (upd (upd (upd (fun _ => 0) 0 z5) 1 z10) 2 z15) 3 z20)))] H := hP
  have hD : va_D A [(h0, .inr (9, [.ref h1, .int 3, .int 0, .int 0, .int 0, .int 0, .int 0, .ref (ad 25), .long 0, .int 0, .long 0, .int 0, .int 0, .int 0, .int 0])), (h1, .inl (w0, 940, .inl (upd (upd (upd (upd (fun _ => 0) 0 z5) 1 z10) 2 z15) 3 z20)))] := hD
  refine lv_aload_n hx hb dX8_append_30 rfl (lv_at hl 1 rfl) ?_
  refine lv_dup hx hb dX8_append_31 rfl ?_
  refine va_get (D := (dC, dI)) (ci := 9) (v := .int 3) (C := RX8) (T := TX8) (N := 15) hx hb hts ii_X8_append_X8 hown hK hP 0 rfl rfl 1 (by decide) (hts _ mm_X8_append_1) (fun _ h9 => h9) rfl dX8_append_32 ?_
  refine lv_iconst (v := 1) hx hb dX8_append_35 (by decide) ?_
  refine lv_iadd hx hb dX8_append_36 ?_
  refine zz_top (v := 4) (by decide) ?_
  refine va_put (D := (dC, dI)) (ci := 9) (v := .int 4) (ty := .int) (C := RX8) (T := TX8) (N := 15) hx hb hts ii_X8_append_X8 tyX8 tyX8_ok nmX8 hown hK hP hD hS 0 rfl rfl 1 (by decide) (hts _ mm_X8_append_1) (fun _ h9 => h9) rfl (by decide +kernel) rfl rfl (Nat.le_of_ble_eq_true rfl) dX8_append_37 (fun H locs hP hD hS => ?_)
  have hP : va_P (dC, dI) vwCl [(h0, .inr (9, [.ref h1, .int 4, .int 0, .int 0, .int 0, .int 0, .int 0, .ref (ad 25), .long 0, .int 0, .long 0, .int 0, .int 0, .int 0, .int 0])), (h1, .inl (w0, 940, .inl (upd (upd (upd (upd (fun _ => 0) 0 z5) 1 z10) 2 z15) 3 z20)))] H := hP
  have hD : va_D A [(h0, .inr (9, [.ref h1, .int 4, .int 0, .int 0, .int 0, .int 0, .int 0, .ref (ad 25), .long 0, .int 0, .long 0, .int 0, .int 0, .int 0, .int 0])), (h1, .inl (w0, 940, .inl (upd (upd (upd (upd (fun _ => 0) 0 z5) 1 z10) 2 z15) 3 z20)))] := hD
  refine lv_iinc (v := (-8)) (lv' := [(2, .int (-8)), (0, .ref h0), (1, .int p0)]) hx hb dX8_append_40 hl (k := 0) rfl (by decide) (by decide) rfl (fun ls hl => ?_)
  refine lv_goto (tgt := 3) hx hb dX8_append_43 (by decide) ?_
  refine lv_iload_n hx hb dX8_append_3 rfl (lv_at hl 0 rfl) ?_
  refine lv_if_lt (tgt := 46) hx hb dX8_append_4 (by decide) (fun _ => ?_) (fun c21 => absurd (by decide) c21)
  have hP9 := hP.sub (ws' := [(h0, .inr (9, [.ref h1, .int 4, .int 0, .int 0, .int 0, .int 0, .int 0, .ref (ad 25), .long 0, .int 0, .long 0, .int 0, .int 0, .int 0, .int 0])), (h1, .inl (w0, 940, .inl (upd (upd (upd (upd (fun _ => 0) 0 z5) 1 z10) 2 z15) 3 z20)))]) [0, 1] rfl
  have hD9 := hD.sub (ws' := [(h0, .inr (9, [.ref h1, .int 4, .int 0, .int 0, .int 0, .int 0, .int 0, .ref (ad 25), .long 0, .int 0, .long 0, .int 0, .int 0, .int 0, .int 0])), (h1, .inl (w0, 940, .inl (upd (upd (upd (upd (fun _ => 0) 0 z5) 1 z10) 2 z15) 3 z20)))]) [0, 1] (by decide) rfl
  have hK9 := hK.sub (tys' := []) [] rfl
  refine W.widen (k := 0) (n := 0) (Nat.le_of_ble_eq_true rfl) (Nat.le_of_ble_eq_true rfl) ?_
  exact W.vret hx hb hr (fun t ht hW => ⟨⟨(), rfl, trivial, (upd (upd (upd (upd (fun _ => 0) 0 z5) 1 z10) 2 z15) 3 z20), by rw [ht]; exact hP9, va_K.moved hW.alike hK9, hD9⟩, hS.F ht⟩) hS.2.2 dX8_append_46
set_option maxHeartbeats 4000000 in
set_option maxRecDepth 100000 in
theorem k_X8_append_1 (l : Launch) (dC : Nat → ClassId) (dI : Nat → Nat → Nat) (ad : Nat → Nat) (h0 h1 : Nat) (p0 : Int32) (f0 : Nat → Int32) (w0 : ClassId) (sz : Nat) : Met l yX8_append wsX8_append ({ frames := 0, cells := 0, slots := 0, locals := 0 }) (va_Pc [.ref h0, .int p0] (CP (dC, dI) [(h0, .inr (9, [.ref h1, .int 4, .int 0, .int 0, .int 0, .int 0, .int 0, .ref (ad 25), .long 0, .int 0, .long 0, .int 0, .int 0, .int 0, .int 0])), (h1, .inl (w0, 940, .inl f0))] [(w0, .byte)] sz ad)) (va_Qv (fun _ : Unit => True) (fun (_ : Unit) (t : State) => ∃ (F0 : Nat → Int32), CQ (dC, dI) [(h0, .inr (9, [.ref h1, .int 8, .int 0, .int 0, .int 0, .int 0, .int 0, .ref (ad 25), .long 0, .int 0, .long 0, .int 0, .int 0, .int 0, .int 0])), (h1, .inl (w0, 940, .inl F0))] [] (va_A [(h0, .inr (9, [.ref h1, .int 4, .int 0, .int 0, .int 0, .int 0, .int 0, .ref (ad 25), .long 0, .int 0, .long 0, .int 0, .int 0, .int 0, .int 0])), (h1, .inl (w0, 940, .inl f0))] sz) t) (va_A [(h0, .inr (9, [.ref h1, .int 4, .int 0, .int 0, .int 0, .int 0, .int 0, .ref (ad 25), .long 0, .int 0, .long 0, .int 0, .int 0, .int 0, .int 0])), (h1, .inl (w0, 940, .inl f0))] sz)) 0 0 (va_A [(h0, .inr (9, [.ref h1, .int 4, .int 0, .int 0, .int 0, .int 0, .int 0, .ref (ad 25), .long 0, .int 0, .long 0, .int 0, .int 0, .int 0, .int 0])), (h1, .inl (w0, 940, .inl f0))] sz) := by
  refine Met.ofW (cc := cX8_append) (maxL := 3) (ret := none) (by decide) rfl ?_
  intro p e s m args below meth c s₁ B hml hv
  obtain ⟨rfl, hsz, hP, hK, hD0, hE⟩ := hv
  have hx := B.exec
  have hb := B.bytes
  have hr := B.returns
  have hts := atoms_spec (ws := wsX8_append) B.pre
  have hown : s.vm.findClass RX8 = some m.cls := findClass_of_methodNamed B.named
  have hlocks := B.notSynchronized
  subst hsz
  have hD := hD0.self (sz := s.heap.size)
  generalize hAe : va_A [(h0, .inr (9, [.ref h1, .int 4, .int 0, .int 0, .int 0, .int 0, .int 0, .ref (ad 25), .long 0, .int 0, .long 0, .int 0, .int 0, .int 0, .int 0])), (h1, .inl (w0, 940, .inl f0))] s.heap.size = A at hD hE ⊢
  have hA : ∀ q : Nat, s.heap.size ≤ q → A q := fun q h => by rw [← hAe]; exact Or.inr h
  have hS : va_S A s.heap s.heap [] := va_S.rf
  have hl := lv_entry ([.ref h0, .int p0]) (n := 3) (Nat.le_of_ble_eq_true rfl)
  rw [lg_entry_eq]
  generalize (lg_sl ([.ref h0, .int p0]) ++ List.replicate (3 - (lg_sl ([.ref h0, .int p0])).length) Slot.unset).toArray = ls at hl ⊢
  have hl : lv_has ls 3 [(0, .ref h0), (1, .int p0)] := hl
  refine lv_bipush (v := 24) hx hb dX8_append_0 (by decide) ?_
  refine lv_istore_n (lv' := [(2, .int 24), (0, .ref h0), (1, .int p0)]) hx hb dX8_append_2 rfl hl (by decide) rfl (fun ls hl => ?_)
  refine lv_iload_n hx hb dX8_append_3 rfl (lv_at hl 0 rfl) ?_
  refine lv_if_lt (tgt := 46) hx hb dX8_append_4 (by decide) (fun c1 => absurd c1 (by decide)) (fun _ => ?_)
  refine lv_aload_n hx hb dX8_append_7 rfl (lv_at hl 1 rfl) ?_
  refine va_get (D := (dC, dI)) (ci := 9) (v := .int 4) (C := RX8) (T := TX8) (N := 15) hx hb hts ii_X8_append_X8 hown hK hP 0 rfl rfl 1 (by decide) (hts _ mm_X8_append_1) (fun _ h9 => h9) rfl dX8_append_8 ?_
  refine lv_sipush (v := 940) hx hb dX8_append_11 (by decide) ?_
  refine lv_icmp_ge (tgt := 46) hx hb dX8_append_14 (by decide) (fun c2 => absurd c2 (by decide)) (fun _ => ?_)
  refine lv_aload_n hx hb dX8_append_17 rfl (lv_at hl 1 rfl) ?_
  refine va_get (D := (dC, dI)) (ci := 9) (v := .ref h1) (C := RX8) (T := TX8) (N := 15) hx hb hts ii_X8_append_X8 hown hK hP 0 rfl rfl 0 (by decide) (hts _ mm_X8_append_2) (fun _ h9 => h9) rfl dX8_append_18 ?_
  refine lv_aload_n hx hb dX8_append_21 rfl (lv_at hl 1 rfl) ?_
  refine va_get (D := (dC, dI)) (ci := 9) (v := .int 4) (C := RX8) (T := TX8) (N := 15) hx hb hts ii_X8_append_X8 hown hK hP 0 rfl rfl 1 (by decide) (hts _ mm_X8_append_1) (fun _ h9 => h9) rfl dX8_append_22 ?_
  refine lv_iload_n hx hb dX8_append_25 rfl (lv_at hl 2 rfl) ?_
  refine lv_iload_n hx hb dX8_append_26 rfl (lv_at hl 0 rfl) ?_
  refine lv_iushr hx hb dX8_append_27 rfl ?_
  refine lv_topi (fun z3 ez3 => ?_)
  refine lv_i2b hx hb dX8_append_28 rfl ?_
  refine lv_topi (fun z4 ez4 => ?_)
  obtain ⟨z5, ez5⟩ : ∃ y : Int32, y = vp_nar .byte z4 := ⟨_, rfl⟩
  refine va_bast hx hb hK hP hD hS 1 0 rfl rfl (i := 4) (zz_in (by decide)) dX8_append_29 (fun H locs hP hD hS => ?_)
  rw [← ez5] at hP hD
  have hP : va_P (dC, dI) vwCl [(h0, .inr (9, [.ref h1, .int 4, .int 0, .int 0, .int 0, .int 0, .int 0, .ref (ad 25), .long 0, .int 0, .long 0, .int 0, .int 0, .int 0, .int 0])), (h1, .inl (w0, 940, .inl (upd f0 4 z5)))] H := hP
  have hD : va_D A [(h0, .inr (9, [.ref h1, .int 4, .int 0, .int 0, .int 0, .int 0, .int 0, .ref (ad 25), .long 0, .int 0, .long 0, .int 0, .int 0, .int 0, .int 0])), (h1, .inl (w0, 940, .inl (upd f0 4 z5)))] := hD
  refine lv_aload_n hx hb dX8_append_30 rfl (lv_at hl 1 rfl) ?_
  refine lv_dup hx hb dX8_append_31 rfl ?_
  refine va_get (D := (dC, dI)) (ci := 9) (v := .int 4) (C := RX8) (T := TX8) (N := 15) hx hb hts ii_X8_append_X8 hown hK hP 0 rfl rfl 1 (by decide) (hts _ mm_X8_append_1) (fun _ h9 => h9) rfl dX8_append_32 ?_
  refine lv_iconst (v := 1) hx hb dX8_append_35 (by decide) ?_
  refine lv_iadd hx hb dX8_append_36 ?_
  refine zz_top (v := 5) (by decide) ?_
  refine va_put (D := (dC, dI)) (ci := 9) (v := .int 5) (ty := .int) (C := RX8) (T := TX8) (N := 15) hx hb hts ii_X8_append_X8 tyX8 tyX8_ok nmX8 hown hK hP hD hS 0 rfl rfl 1 (by decide) (hts _ mm_X8_append_1) (fun _ h9 => h9) rfl (by decide +kernel) rfl rfl (Nat.le_of_ble_eq_true rfl) dX8_append_37 (fun H locs hP hD hS => ?_)
  have hP : va_P (dC, dI) vwCl [(h0, .inr (9, [.ref h1, .int 5, .int 0, .int 0, .int 0, .int 0, .int 0, .ref (ad 25), .long 0, .int 0, .long 0, .int 0, .int 0, .int 0, .int 0])), (h1, .inl (w0, 940, .inl (upd f0 4 z5)))] H := hP
  have hD : va_D A [(h0, .inr (9, [.ref h1, .int 5, .int 0, .int 0, .int 0, .int 0, .int 0, .ref (ad 25), .long 0, .int 0, .long 0, .int 0, .int 0, .int 0, .int 0])), (h1, .inl (w0, 940, .inl (upd f0 4 z5)))] := hD
  refine lv_iinc (v := 16) (lv' := [(2, .int 16), (0, .ref h0), (1, .int p0)]) hx hb dX8_append_40 hl (k := 0) rfl (by decide) (by decide) rfl (fun ls hl => ?_)
  refine lv_goto (tgt := 3) hx hb dX8_append_43 (by decide) ?_
  refine lv_iload_n hx hb dX8_append_3 rfl (lv_at hl 0 rfl) ?_
  refine lv_if_lt (tgt := 46) hx hb dX8_append_4 (by decide) (fun c6 => absurd c6 (by decide)) (fun _ => ?_)
  refine lv_aload_n hx hb dX8_append_7 rfl (lv_at hl 1 rfl) ?_
  refine va_get (D := (dC, dI)) (ci := 9) (v := .int 5) (C := RX8) (T := TX8) (N := 15) hx hb hts ii_X8_append_X8 hown hK hP 0 rfl rfl 1 (by decide) (hts _ mm_X8_append_1) (fun _ h9 => h9) rfl dX8_append_8 ?_
  refine lv_sipush (v := 940) hx hb dX8_append_11 (by decide) ?_
  refine lv_icmp_ge (tgt := 46) hx hb dX8_append_14 (by decide) (fun c7 => absurd c7 (by decide)) (fun _ => ?_)
  refine lv_aload_n hx hb dX8_append_17 rfl (lv_at hl 1 rfl) ?_
  refine va_get (D := (dC, dI)) (ci := 9) (v := .ref h1) (C := RX8) (T := TX8) (N := 15) hx hb hts ii_X8_append_X8 hown hK hP 0 rfl rfl 0 (by decide) (hts _ mm_X8_append_2) (fun _ h9 => h9) rfl dX8_append_18 ?_
  refine lv_aload_n hx hb dX8_append_21 rfl (lv_at hl 1 rfl) ?_
  refine va_get (D := (dC, dI)) (ci := 9) (v := .int 5) (C := RX8) (T := TX8) (N := 15) hx hb hts ii_X8_append_X8 hown hK hP 0 rfl rfl 1 (by decide) (hts _ mm_X8_append_1) (fun _ h9 => h9) rfl dX8_append_22 ?_
  refine lv_iload_n hx hb dX8_append_25 rfl (lv_at hl 2 rfl) ?_
  refine lv_iload_n hx hb dX8_append_26 rfl (lv_at hl 0 rfl) ?_
  refine lv_iushr hx hb dX8_append_27 rfl ?_
  refine lv_topi (fun z8 ez8 => ?_)
  refine lv_i2b hx hb dX8_append_28 rfl ?_
  refine lv_topi (fun z9 ez9 => ?_)
  obtain ⟨z10, ez10⟩ : ∃ y : Int32, y = vp_nar .byte z9 := ⟨_, rfl⟩
  refine va_bast hx hb hK hP hD hS 1 0 rfl rfl (i := 5) (zz_in (by decide)) dX8_append_29 (fun H locs hP hD hS => ?_)
  rw [← ez10] at hP hD
  have hP : va_P (dC, dI) vwCl [(h0, .inr (9, [.ref h1, .int 5, .int 0, .int 0, .int 0, .int 0, .int 0, .ref (ad 25), .long 0, .int 0, .long 0, .int 0, .int 0, .int 0, .int 0])), (h1, .inl (w0, 940, .inl (upd (upd f0 4 z5) 5 z10)))] H := hP
  have hD : va_D A [(h0, .inr (9, [.ref h1, .int 5, .int 0, .int 0, .int 0, .int 0, .int 0, .ref (ad 25), .long 0, .int 0, .long 0, .int 0, .int 0, .int 0, .int 0])), (h1, .inl (w0, 940, .inl (upd (upd f0 4 z5) 5 z10)))] := hD
  refine lv_aload_n hx hb dX8_append_30 rfl (lv_at hl 1 rfl) ?_
  refine lv_dup hx hb dX8_append_31 rfl ?_
  refine va_get (D := (dC, dI)) (ci := 9) (v := .int 5) (C := RX8) (T := TX8) (N := 15) hx hb hts ii_X8_append_X8 hown hK hP 0 rfl rfl 1 (by decide) (hts _ mm_X8_append_1) (fun _ h9 => h9) rfl dX8_append_32 ?_
  refine lv_iconst (v := 1) hx hb dX8_append_35 (by decide) ?_
  refine lv_iadd hx hb dX8_append_36 ?_
  refine zz_top (v := 6) (by decide) ?_
  refine va_put (D := (dC, dI)) (ci := 9) (v := .int 6) (ty := .int) (C := RX8) (T := TX8) (N := 15) hx hb hts ii_X8_append_X8 tyX8 tyX8_ok nmX8 hown hK hP hD hS 0 rfl rfl 1 (by decide) (hts _ mm_X8_append_1) (fun _ h9 => h9) rfl (by decide +kernel) rfl rfl (Nat.le_of_ble_eq_true rfl) dX8_append_37 (fun H locs hP hD hS => ?_)
  have hP : va_P (dC, dI) vwCl [(h0, .inr (9, [.ref h1, .int 6, .int 0, .int 0, .int 0, .int 0, .int 0, .ref (ad 25), .long 0, .int 0, .long 0, .int 0, .int 0, .int 0, .int 0])), (h1, .inl (w0, 940, .inl (upd (upd f0 4 z5) 5 z10)))] H := hP
  have hD : va_D A [(h0, .inr (9, [.ref h1, .int 6, .int 0, .int 0, .int 0, .int 0, .int 0, .ref (ad 25), .long 0, .int 0, .long 0, .int 0, .int 0, .int 0, .int 0])), (h1, .inl (w0, 940, .inl (upd (upd f0 4 z5) 5 z10)))] := hD
  refine lv_iinc (v := 8) (lv' := [(2, .int 8), (0, .ref h0), (1, .int p0)]) hx hb dX8_append_40 hl (k := 0) rfl (by decide) (by decide) rfl (fun ls hl => ?_)
  refine lv_goto (tgt := 3) hx hb dX8_append_43 (by decide) ?_
  refine lv_iload_n hx hb dX8_append_3 rfl (lv_at hl 0 rfl) ?_
  refine lv_if_lt (tgt := 46) hx hb dX8_append_4 (by decide) (fun c11 => absurd c11 (by decide)) (fun _ => ?_)
  refine lv_aload_n hx hb dX8_append_7 rfl (lv_at hl 1 rfl) ?_
  refine va_get (D := (dC, dI)) (ci := 9) (v := .int 6) (C := RX8) (T := TX8) (N := 15) hx hb hts ii_X8_append_X8 hown hK hP 0 rfl rfl 1 (by decide) (hts _ mm_X8_append_1) (fun _ h9 => h9) rfl dX8_append_8 ?_
  refine lv_sipush (v := 940) hx hb dX8_append_11 (by decide) ?_
  refine lv_icmp_ge (tgt := 46) hx hb dX8_append_14 (by decide) (fun c12 => absurd c12 (by decide)) (fun _ => ?_)
  refine lv_aload_n hx hb dX8_append_17 rfl (lv_at hl 1 rfl) ?_
  refine va_get (D := (dC, dI)) (ci := 9) (v := .ref h1) (C := RX8) (T := TX8) (N := 15) hx hb hts ii_X8_append_X8 hown hK hP 0 rfl rfl 0 (by decide) (hts _ mm_X8_append_2) (fun _ h9 => h9) rfl dX8_append_18 ?_
  refine lv_aload_n hx hb dX8_append_21 rfl (lv_at hl 1 rfl) ?_
  refine va_get (D := (dC, dI)) (ci := 9) (v := .int 6) (C := RX8) (T := TX8) (N := 15) hx hb hts ii_X8_append_X8 hown hK hP 0 rfl rfl 1 (by decide) (hts _ mm_X8_append_1) (fun _ h9 => h9) rfl dX8_append_22 ?_
  refine lv_iload_n hx hb dX8_append_25 rfl (lv_at hl 2 rfl) ?_
  refine lv_iload_n hx hb dX8_append_26 rfl (lv_at hl 0 rfl) ?_
  refine lv_iushr hx hb dX8_append_27 rfl ?_
  refine lv_topi (fun z13 ez13 => ?_)
  refine lv_i2b hx hb dX8_append_28 rfl ?_
  refine lv_topi (fun z14 ez14 => ?_)
  obtain ⟨z15, ez15⟩ : ∃ y : Int32, y = vp_nar .byte z14 := ⟨_, rfl⟩
  refine va_bast hx hb hK hP hD hS 1 0 rfl rfl (i := 6) (zz_in (by decide)) dX8_append_29 (fun H locs hP hD hS => ?_)
  rw [← ez15] at hP hD
  have hP : va_P (dC, dI) vwCl [(h0, .inr (9, [.ref h1, .int 6, .int 0, .int 0, .int 0, .int 0, .int 0, .ref (ad 25), .long 0, .int 0, .long 0, .int 0, .int 0, .int 0, .int 0])), (h1, .inl (w0, 940, .inl (upd (upd (upd f0 4 z5) 5 z10) 6 z15)))] H := hP
  have hD : va_D A [(h0, .inr (9, [.ref h1, .int 6, .int 0, .int 0, .int 0, .int 0, .int 0, .ref (ad 25), .long 0, .int 0, .long 0, .int 0, .int 0, .int 0, .int 0])), (h1, .inl (w0, 940, .inl (upd (upd (upd f0 4 z5) 5 z10) 6 z15)))] := hD
  refine lv_aload_n hx hb dX8_append_30 rfl (lv_at hl 1 rfl) ?_
  refine lv_dup hx hb dX8_append_31 rfl ?_
  refine va_get (D := (dC, dI)) (ci := 9) (v := .int 6) (C := RX8) (T := TX8) (N := 15) hx hb hts ii_X8_append_X8 hown hK hP 0 rfl rfl 1 (by decide) (hts _ mm_X8_append_1) (fun _ h9 => h9) rfl dX8_append_32 ?_
  refine lv_iconst (v := 1) hx hb dX8_append_35 (by decide) ?_
  refine lv_iadd hx hb dX8_append_36 ?_
  refine zz_top (v := 7) (by decide) ?_
  refine va_put (D := (dC, dI)) (ci := 9) (v := .int 7) (ty := .int) (C := RX8) (T := TX8) (N := 15) hx hb hts ii_X8_append_X8 tyX8 tyX8_ok nmX8 hown hK hP hD hS 0 rfl rfl 1 (by decide) (hts _ mm_X8_append_1) (fun _ h9 => h9) rfl (by decide +kernel) rfl rfl (Nat.le_of_ble_eq_true rfl) dX8_append_37 (fun H locs hP hD hS => ?_)
  have hP : va_P (dC, dI) vwCl [(h0, .inr (9, [.ref h1, .int 7, .int 0, .int 0, .int 0, .int 0, .int 0, .ref (ad 25), .long 0, .int 0, .long 0, .int 0, .int 0, .int 0, .int 0])), (h1, .inl (w0, 940, .inl (upd (upd (upd f0 4 z5) 5 z10) 6 z15)))] H := hP
  have hD : va_D A [(h0, .inr (9, [.ref h1, .int 7, .int 0, .int 0, .int 0, .int 0, .int 0, .ref (ad 25), .long 0, .int 0, .long 0, .int 0, .int 0, .int 0, .int 0])), (h1, .inl (w0, 940, .inl (upd (upd (upd f0 4 z5) 5 z10) 6 z15)))] := hD
  refine lv_iinc (v := 0) (lv' := [(2, .int 0), (0, .ref h0), (1, .int p0)]) hx hb dX8_append_40 hl (k := 0) rfl (by decide) (by decide) rfl (fun ls hl => ?_)
  refine lv_goto (tgt := 3) hx hb dX8_append_43 (by decide) ?_
  refine lv_iload_n hx hb dX8_append_3 rfl (lv_at hl 0 rfl) ?_
  refine lv_if_lt (tgt := 46) hx hb dX8_append_4 (by decide) (fun c16 => absurd c16 (by decide)) (fun _ => ?_)
  refine lv_aload_n hx hb dX8_append_7 rfl (lv_at hl 1 rfl) ?_
  refine va_get (D := (dC, dI)) (ci := 9) (v := .int 7) (C := RX8) (T := TX8) (N := 15) hx hb hts ii_X8_append_X8 hown hK hP 0 rfl rfl 1 (by decide) (hts _ mm_X8_append_1) (fun _ h9 => h9) rfl dX8_append_8 ?_
  refine lv_sipush (v := 940) hx hb dX8_append_11 (by decide) ?_
  refine lv_icmp_ge (tgt := 46) hx hb dX8_append_14 (by decide) (fun c17 => absurd c17 (by decide)) (fun _ => ?_)
  refine lv_aload_n hx hb dX8_append_17 rfl (lv_at hl 1 rfl) ?_
  refine va_get (D := (dC, dI)) (ci := 9) (v := .ref h1) (C := RX8) (T := TX8) (N := 15) hx hb hts ii_X8_append_X8 hown hK hP 0 rfl rfl 0 (by decide) (hts _ mm_X8_append_2) (fun _ h9 => h9) rfl dX8_append_18 ?_
  refine lv_aload_n hx hb dX8_append_21 rfl (lv_at hl 1 rfl) ?_
  refine va_get (D := (dC, dI)) (ci := 9) (v := .int 7) (C := RX8) (T := TX8) (N := 15) hx hb hts ii_X8_append_X8 hown hK hP 0 rfl rfl 1 (by decide) (hts _ mm_X8_append_1) (fun _ h9 => h9) rfl dX8_append_22 ?_
  refine lv_iload_n hx hb dX8_append_25 rfl (lv_at hl 2 rfl) ?_
  refine lv_iload_n hx hb dX8_append_26 rfl (lv_at hl 0 rfl) ?_
  refine lv_iushr hx hb dX8_append_27 rfl ?_
  refine lv_topi (fun z18 ez18 => ?_)
  refine lv_i2b hx hb dX8_append_28 rfl ?_
  refine lv_topi (fun z19 ez19 => ?_)
  obtain ⟨z20, ez20⟩ : ∃ y : Int32, y = vp_nar .byte z19 := ⟨_, rfl⟩
  refine va_bast hx hb hK hP hD hS 1 0 rfl rfl (i := 7) (zz_in (by decide)) dX8_append_29 (fun H locs hP hD hS => ?_)
  rw [← ez20] at hP hD
  have hP : va_P (dC, dI) vwCl [(h0, .inr (9, [.ref h1, .int 7, .int 0, .int 0, .int 0, .int 0, .int 0, .ref (ad 25), .long 0, .int 0, .long 0, .int 0, .int 0, .int 0, .int 0])), (h1, .inl (w0, 940, .inl (upd (upd (upd (upd f0 4 z5) 5 z10) 6 z15) 7 z20)))] H := hP
  have hD : va_D A [(h0, .inr (9, [.ref h1, .int 7, .int 0, .int 0, .int 0, .int 0, .int 0, .ref (ad 25), .long 0, .int 0, .long 0, .int 0, .int 0, .int 0, .int 0])), (h1, .inl (w0, 940, .inl (upd (upd (upd (upd f0 4 z5) 5 z10) 6 z15) 7 z20)))] := hD
  refine lv_aload_n hx hb dX8_append_30 rfl (lv_at hl 1 rfl) ?_
  refine lv_dup hx hb dX8_append_31 rfl ?_
  refine va_get (D := (dC, dI)) (ci := 9) (v := .int 7) (C := RX8) (T := TX8) (N := 15) hx hb hts ii_X8_append_X8 hown hK hP 0 rfl rfl 1 (by decide) (hts _ mm_X8_append_1) (fun _ h9 => h9) rfl dX8_append_32 ?_
  refine lv_iconst (v := 1) hx hb dX8_append_35 (by decide) ?_
  refine lv_iadd hx hb dX8_append_36 ?_
  refine zz_top (v := 8) (by decide) ?_
  refine va_put (D := (dC, dI)) (ci := 9) (v := .int 8) (ty := .int) (C := RX8) (T := TX8) (N := 15) hx hb hts ii_X8_append_X8 tyX8 tyX8_ok nmX8 hown hK hP hD hS 0 rfl rfl 1 (by decide) (hts _ mm_X8_append_1) (fun _ h9 => h9) rfl (by decide +kernel) rfl rfl (Nat.le_of_ble_eq_true rfl) dX8_append_37 (fun H locs hP hD hS => ?_)
  have hP : va_P (dC, dI) vwCl [(h0, .inr (9, [.ref h1, .int 8, .int 0, .int 0, .int 0, .int 0, .int 0, .ref (ad 25), .long 0, .int 0, .long 0, .int 0, .int 0, .int 0, .int 0])), (h1, .inl (w0, 940, .inl (upd (upd (upd (upd f0 4 z5) 5 z10) 6 z15) 7 z20)))] H := hP
  have hD : va_D A [(h0, .inr (9, [.ref h1, .int 8, .int 0, .int 0, .int 0, .int 0, .int 0, .ref (ad 25), .long 0, .int 0, .long 0, .int 0, .int 0, .int 0, .int 0])), (h1, .inl (w0, 940, .inl (upd (upd (upd (upd f0 4 z5) 5 z10) 6 z15) 7 z20)))] := hD
  refine lv_iinc (v := (-8)) (lv' := [(2, .int (-8)), (0, .ref h0), (1, .int p0)]) hx hb dX8_append_40 hl (k := 0) rfl (by decide) (by decide) rfl (fun ls hl => ?_)
  refine lv_goto (tgt := 3) hx hb dX8_append_43 (by decide) ?_
  refine lv_iload_n hx hb dX8_append_3 rfl (lv_at hl 0 rfl) ?_
  refine lv_if_lt (tgt := 46) hx hb dX8_append_4 (by decide) (fun _ => ?_) (fun c21 => absurd (by decide) c21)
  have hP9 := hP.sub (ws' := [(h0, .inr (9, [.ref h1, .int 8, .int 0, .int 0, .int 0, .int 0, .int 0, .ref (ad 25), .long 0, .int 0, .long 0, .int 0, .int 0, .int 0, .int 0])), (h1, .inl (w0, 940, .inl (upd (upd (upd (upd f0 4 z5) 5 z10) 6 z15) 7 z20)))]) [0, 1] rfl
  have hD9 := hD.sub (ws' := [(h0, .inr (9, [.ref h1, .int 8, .int 0, .int 0, .int 0, .int 0, .int 0, .ref (ad 25), .long 0, .int 0, .long 0, .int 0, .int 0, .int 0, .int 0])), (h1, .inl (w0, 940, .inl (upd (upd (upd (upd f0 4 z5) 5 z10) 6 z15) 7 z20)))]) [0, 1] (by decide) rfl
  have hK9 := hK.sub (tys' := []) [] rfl
  refine W.widen (k := 0) (n := 0) (Nat.le_of_ble_eq_true rfl) (Nat.le_of_ble_eq_true rfl) ?_
  exact W.vret hx hb hr (fun t ht hW => ⟨⟨(), rfl, trivial, (upd (upd (upd (upd f0 4 z5) 5 z10) 6 z15) 7 z20), by rw [ht]; exact hP9, va_K.moved hW.alike hK9, hD9⟩, hS.F ht⟩) hS.2.2 dX8_append_46
set_option maxHeartbeats 4000000 in
set_option maxRecDepth 100000 in
theorem k_X8_append_2 (l : Launch) (dC : Nat → ClassId) (dI : Nat → Nat → Nat) (ad : Nat → Nat) (h0 h1 : Nat) (p0 : Int32) (f0 : Nat → Int32) (w0 : ClassId) (sz : Nat) : Met l yX8_append wsX8_append ({ frames := 0, cells := 0, slots := 0, locals := 0 }) (va_Pc [.ref h0, .int p0] (CP (dC, dI) [(h0, .inr (9, [.ref h1, .int 8, .int 0, .int 0, .int 0, .int 0, .int 0, .ref (ad 25), .long 0, .int 0, .long 0, .int 0, .int 0, .int 0, .int 0])), (h1, .inl (w0, 940, .inl f0))] [(w0, .byte)] sz ad)) (va_Qv (fun _ : Unit => True) (fun (_ : Unit) (t : State) => ∃ (F0 : Nat → Int32), CQ (dC, dI) [(h0, .inr (9, [.ref h1, .int 12, .int 0, .int 0, .int 0, .int 0, .int 0, .ref (ad 25), .long 0, .int 0, .long 0, .int 0, .int 0, .int 0, .int 0])), (h1, .inl (w0, 940, .inl F0))] [] (va_A [(h0, .inr (9, [.ref h1, .int 8, .int 0, .int 0, .int 0, .int 0, .int 0, .ref (ad 25), .long 0, .int 0, .long 0, .int 0, .int 0, .int 0, .int 0])), (h1, .inl (w0, 940, .inl f0))] sz) t) (va_A [(h0, .inr (9, [.ref h1, .int 8, .int 0, .int 0, .int 0, .int 0, .int 0, .ref (ad 25), .long 0, .int 0, .long 0, .int 0, .int 0, .int 0, .int 0])), (h1, .inl (w0, 940, .inl f0))] sz)) 0 0 (va_A [(h0, .inr (9, [.ref h1, .int 8, .int 0, .int 0, .int 0, .int 0, .int 0, .ref (ad 25), .long 0, .int 0, .long 0, .int 0, .int 0, .int 0, .int 0])), (h1, .inl (w0, 940, .inl f0))] sz) := by
  refine Met.ofW (cc := cX8_append) (maxL := 3) (ret := none) (by decide) rfl ?_
  intro p e s m args below meth c s₁ B hml hv
  obtain ⟨rfl, hsz, hP, hK, hD0, hE⟩ := hv
  have hx := B.exec
  have hb := B.bytes
  have hr := B.returns
  have hts := atoms_spec (ws := wsX8_append) B.pre
  have hown : s.vm.findClass RX8 = some m.cls := findClass_of_methodNamed B.named
  have hlocks := B.notSynchronized
  subst hsz
  have hD := hD0.self (sz := s.heap.size)
  generalize hAe : va_A [(h0, .inr (9, [.ref h1, .int 8, .int 0, .int 0, .int 0, .int 0, .int 0, .ref (ad 25), .long 0, .int 0, .long 0, .int 0, .int 0, .int 0, .int 0])), (h1, .inl (w0, 940, .inl f0))] s.heap.size = A at hD hE ⊢
  have hA : ∀ q : Nat, s.heap.size ≤ q → A q := fun q h => by rw [← hAe]; exact Or.inr h
  have hS : va_S A s.heap s.heap [] := va_S.rf
  have hl := lv_entry ([.ref h0, .int p0]) (n := 3) (Nat.le_of_ble_eq_true rfl)
  rw [lg_entry_eq]
  generalize (lg_sl ([.ref h0, .int p0]) ++ List.replicate (3 - (lg_sl ([.ref h0, .int p0])).length) Slot.unset).toArray = ls at hl ⊢
  have hl : lv_has ls 3 [(0, .ref h0), (1, .int p0)] := hl
  refine lv_bipush (v := 24) hx hb dX8_append_0 (by decide) ?_
  refine lv_istore_n (lv' := [(2, .int 24), (0, .ref h0), (1, .int p0)]) hx hb dX8_append_2 rfl hl (by decide) rfl (fun ls hl => ?_)
  refine lv_iload_n hx hb dX8_append_3 rfl (lv_at hl 0 rfl) ?_
  refine lv_if_lt (tgt := 46) hx hb dX8_append_4 (by decide) (fun c1 => absurd c1 (by decide)) (fun _ => ?_)
  refine lv_aload_n hx hb dX8_append_7 rfl (lv_at hl 1 rfl) ?_
  refine va_get (D := (dC, dI)) (ci := 9) (v := .int 8) (C := RX8) (T := TX8) (N := 15) hx hb hts ii_X8_append_X8 hown hK hP 0 rfl rfl 1 (by decide) (hts _ mm_X8_append_1) (fun _ h9 => h9) rfl dX8_append_8 ?_
  refine lv_sipush (v := 940) hx hb dX8_append_11 (by decide) ?_
  refine lv_icmp_ge (tgt := 46) hx hb dX8_append_14 (by decide) (fun c2 => absurd c2 (by decide)) (fun _ => ?_)
  refine lv_aload_n hx hb dX8_append_17 rfl (lv_at hl 1 rfl) ?_
  refine va_get (D := (dC, dI)) (ci := 9) (v := .ref h1) (C := RX8) (T := TX8) (N := 15) hx hb hts ii_X8_append_X8 hown hK hP 0 rfl rfl 0 (by decide) (hts _ mm_X8_append_2) (fun _ h9 => h9) rfl dX8_append_18 ?_
  refine lv_aload_n hx hb dX8_append_21 rfl (lv_at hl 1 rfl) ?_
  refine va_get (D := (dC, dI)) (ci := 9) (v := .int 8) (C := RX8) (T := TX8) (N := 15) hx hb hts ii_X8_append_X8 hown hK hP 0 rfl rfl 1 (by decide) (hts _ mm_X8_append_1) (fun _ h9 => h9) rfl dX8_append_22 ?_
  refine lv_iload_n hx hb dX8_append_25 rfl (lv_at hl 2 rfl) ?_
  refine lv_iload_n hx hb dX8_append_26 rfl (lv_at hl 0 rfl) ?_
  refine lv_iushr hx hb dX8_append_27 rfl ?_
  refine lv_topi (fun z3 ez3 => ?_)
  refine lv_i2b hx hb dX8_append_28 rfl ?_
  refine lv_topi (fun z4 ez4 => ?_)
  obtain ⟨z5, ez5⟩ : ∃ y : Int32, y = vp_nar .byte z4 := ⟨_, rfl⟩
  refine va_bast hx hb hK hP hD hS 1 0 rfl rfl (i := 8) (zz_in (by decide)) dX8_append_29 (fun H locs hP hD hS => ?_)
  rw [← ez5] at hP hD
  have hP : va_P (dC, dI) vwCl [(h0, .inr (9, [.ref h1, .int 8, .int 0, .int 0, .int 0, .int 0, .int 0, .ref (ad 25), .long 0, .int 0, .long 0, .int 0, .int 0, .int 0, .int 0])), (h1, .inl (w0, 940, .inl (upd f0 8 z5)))] H := hP
  have hD : va_D A [(h0, .inr (9, [.ref h1, .int 8, .int 0, .int 0, .int 0, .int 0, .int 0, .ref (ad 25), .long 0, .int 0, .long 0, .int 0, .int 0, .int 0, .int 0])), (h1, .inl (w0, 940, .inl (upd f0 8 z5)))] := hD
  refine lv_aload_n hx hb dX8_append_30 rfl (lv_at hl 1 rfl) ?_
  refine lv_dup hx hb dX8_append_31 rfl ?_
  refine va_get (D := (dC, dI)) (ci := 9) (v := .int 8) (C := RX8) (T := TX8) (N := 15) hx hb hts ii_X8_append_X8 hown hK hP 0 rfl rfl 1 (by decide) (hts _ mm_X8_append_1) (fun _ h9 => h9) rfl dX8_append_32 ?_
  refine lv_iconst (v := 1) hx hb dX8_append_35 (by decide) ?_
  refine lv_iadd hx hb dX8_append_36 ?_
  refine zz_top (v := 9) (by decide) ?_
  refine va_put (D := (dC, dI)) (ci := 9) (v := .int 9) (ty := .int) (C := RX8) (T := TX8) (N := 15) hx hb hts ii_X8_append_X8 tyX8 tyX8_ok nmX8 hown hK hP hD hS 0 rfl rfl 1 (by decide) (hts _ mm_X8_append_1) (fun _ h9 => h9) rfl (by decide +kernel) rfl rfl (Nat.le_of_ble_eq_true rfl) dX8_append_37 (fun H locs hP hD hS => ?_)
  have hP : va_P (dC, dI) vwCl [(h0, .inr (9, [.ref h1, .int 9, .int 0, .int 0, .int 0, .int 0, .int 0, .ref (ad 25), .long 0, .int 0, .long 0, .int 0, .int 0, .int 0, .int 0])), (h1, .inl (w0, 940, .inl (upd f0 8 z5)))] H := hP
  have hD : va_D A [(h0, .inr (9, [.ref h1, .int 9, .int 0, .int 0, .int 0, .int 0, .int 0, .ref (ad 25), .long 0, .int 0, .long 0, .int 0, .int 0, .int 0, .int 0])), (h1, .inl (w0, 940, .inl (upd f0 8 z5)))] := hD
  refine lv_iinc (v := 16) (lv' := [(2, .int 16), (0, .ref h0), (1, .int p0)]) hx hb dX8_append_40 hl (k := 0) rfl (by decide) (by decide) rfl (fun ls hl => ?_)
  refine lv_goto (tgt := 3) hx hb dX8_append_43 (by decide) ?_
  refine lv_iload_n hx hb dX8_append_3 rfl (lv_at hl 0 rfl) ?_
  refine lv_if_lt (tgt := 46) hx hb dX8_append_4 (by decide) (fun c6 => absurd c6 (by decide)) (fun _ => ?_)
  refine lv_aload_n hx hb dX8_append_7 rfl (lv_at hl 1 rfl) ?_
  refine va_get (D := (dC, dI)) (ci := 9) (v := .int 9) (C := RX8) (T := TX8) (N := 15) hx hb hts ii_X8_append_X8 hown hK hP 0 rfl rfl 1 (by decide) (hts _ mm_X8_append_1) (fun _ h9 => h9) rfl dX8_append_8 ?_
  refine lv_sipush (v := 940) hx hb dX8_append_11 (by decide) ?_
  refine lv_icmp_ge (tgt := 46) hx hb dX8_append_14 (by decide) (fun c7 => absurd c7 (by decide)) (fun _ => ?_)
  refine lv_aload_n hx hb dX8_append_17 rfl (lv_at hl 1 rfl) ?_
  refine va_get (D := (dC, dI)) (ci := 9) (v := .ref h1) (C := RX8) (T := TX8) (N := 15) hx hb hts ii_X8_append_X8 hown hK hP 0 rfl rfl 0 (by decide) (hts _ mm_X8_append_2) (fun _ h9 => h9) rfl dX8_append_18 ?_
  refine lv_aload_n hx hb dX8_append_21 rfl (lv_at hl 1 rfl) ?_
  refine va_get (D := (dC, dI)) (ci := 9) (v := .int 9) (C := RX8) (T := TX8) (N := 15) hx hb hts ii_X8_append_X8 hown hK hP 0 rfl rfl 1 (by decide) (hts _ mm_X8_append_1) (fun _ h9 => h9) rfl dX8_append_22 ?_
  refine lv_iload_n hx hb dX8_append_25 rfl (lv_at hl 2 rfl) ?_
  refine lv_iload_n hx hb dX8_append_26 rfl (lv_at hl 0 rfl) ?_
  refine lv_iushr hx hb dX8_append_27 rfl ?_
  refine lv_topi (fun z8 ez8 => ?_)
  refine lv_i2b hx hb dX8_append_28 rfl ?_
  refine lv_topi (fun z9 ez9 => ?_)
  obtain ⟨z10, ez10⟩ : ∃ y : Int32, y = vp_nar .byte z9 := ⟨_, rfl⟩
  refine va_bast hx hb hK hP hD hS 1 0 rfl rfl (i := 9) (zz_in (by decide)) dX8_append_29 (fun H locs hP hD hS => ?_)
  rw [← ez10] at hP hD
  have hP : va_P (dC, dI) vwCl [(h0, .inr (9, [.ref h1, .int 9, .int 0, .int 0, .int 0, .int 0, .int 0, .ref (ad 25), .long 0, .int 0, .long 0, .int 0, .int 0, .int 0, .int 0])), (h1, .inl (w0, 940, .inl (upd (upd f0 8 z5) 9 z10)))] H := hP
  have hD : va_D A [(h0, .inr (9, [.ref h1, .int 9, .int 0, .int 0, .int 0, .int 0, .int 0, .ref (ad 25), .long 0, .int 0, .long 0, .int 0, .int 0, .int 0, .int 0])), (h1, .inl (w0, 940, .inl (upd (upd f0 8 z5) 9 z10)))] := hD
  refine lv_aload_n hx hb dX8_append_30 rfl (lv_at hl 1 rfl) ?_
  refine lv_dup hx hb dX8_append_31 rfl ?_
  refine va_get (D := (dC, dI)) (ci := 9) (v := .int 9) (C := RX8) (T := TX8) (N := 15) hx hb hts ii_X8_append_X8 hown hK hP 0 rfl rfl 1 (by decide) (hts _ mm_X8_append_1) (fun _ h9 => h9) rfl dX8_append_32 ?_
  refine lv_iconst (v := 1) hx hb dX8_append_35 (by decide) ?_
  refine lv_iadd hx hb dX8_append_36 ?_
  refine zz_top (v := 10) (by decide) ?_
  refine va_put (D := (dC, dI)) (ci := 9) (v := .int 10) (ty := .int) (C := RX8) (T := TX8) (N := 15) hx hb hts ii_X8_append_X8 tyX8 tyX8_ok nmX8 hown hK hP hD hS 0 rfl rfl 1 (by decide) (hts _ mm_X8_append_1) (fun _ h9 => h9) rfl (by decide +kernel) rfl rfl (Nat.le_of_ble_eq_true rfl) dX8_append_37 (fun H locs hP hD hS => ?_)
  have hP : va_P (dC, dI) vwCl [(h0, .inr (9, [.ref h1, .int 10, .int 0, .int 0, .int 0, .int 0, .int 0, .ref (ad 25), .long 0, .int 0, .long 0, .int 0, .int 0, .int 0, .int 0])), (h1, .inl (w0, 940, .inl (upd (upd f0 8 z5) 9 z10)))] H := hP
  have hD : va_D A [(h0, .inr (9, [.ref h1, .int 10, .int 0, .int 0, .int 0, .int 0, .int 0, .ref (ad 25), .long 0, .int 0, .long 0, .int 0, .int 0, .int 0, .int 0])), (h1, .inl (w0, 940, .inl (upd (upd f0 8 z5) 9 z10)))] := hD
  refine lv_iinc (v := 8) (lv' := [(2, .int 8), (0, .ref h0), (1, .int p0)]) hx hb dX8_append_40 hl (k := 0) rfl (by decide) (by decide) rfl (fun ls hl => ?_)
  refine lv_goto (tgt := 3) hx hb dX8_append_43 (by decide) ?_
  refine lv_iload_n hx hb dX8_append_3 rfl (lv_at hl 0 rfl) ?_
  refine lv_if_lt (tgt := 46) hx hb dX8_append_4 (by decide) (fun c11 => absurd c11 (by decide)) (fun _ => ?_)
  refine lv_aload_n hx hb dX8_append_7 rfl (lv_at hl 1 rfl) ?_
  refine va_get (D := (dC, dI)) (ci := 9) (v := .int 10) (C := RX8) (T := TX8) (N := 15) hx hb hts ii_X8_append_X8 hown hK hP 0 rfl rfl 1 (by decide) (hts _ mm_X8_append_1) (fun _ h9 => h9) rfl dX8_append_8 ?_
  refine lv_sipush (v := 940) hx hb dX8_append_11 (by decide) ?_
  refine lv_icmp_ge (tgt := 46) hx hb dX8_append_14 (by decide) (fun c12 => absurd c12 (by decide)) (fun _ => ?_)
  refine lv_aload_n hx hb dX8_append_17 rfl (lv_at hl 1 rfl) ?_
  refine va_get (D := (dC, dI)) (ci := 9) (v := .ref h1) (C := RX8) (T := TX8) (N := 15) hx hb hts ii_X8_append_X8 hown hK hP 0 rfl rfl 0 (by decide) (hts _ mm_X8_append_2) (fun _ h9 => h9) rfl dX8_append_18 ?_
  refine lv_aload_n hx hb dX8_append_21 rfl (lv_at hl 1 rfl) ?_
  refine va_get (D := (dC, dI)) (ci := 9) (v := .int 10) (C := RX8) (T := TX8) (N := 15) hx hb hts ii_X8_append_X8 hown hK hP 0 rfl rfl 1 (by decide) (hts _ mm_X8_append_1) (fun _ h9 => h9) rfl dX8_append_22 ?_
  refine lv_iload_n hx hb dX8_append_25 rfl (lv_at hl 2 rfl) ?_
  refine lv_iload_n hx hb dX8_append_26 rfl (lv_at hl 0 rfl) ?_
  refine lv_iushr hx hb dX8_append_27 rfl ?_
  refine lv_topi (fun z13 ez13 => ?_)
  refine lv_i2b hx hb dX8_append_28 rfl ?_
  refine lv_topi (fun z14 ez14 => ?_)
  obtain ⟨z15, ez15⟩ : ∃ y : Int32, y = vp_nar .byte z14 := ⟨_, rfl⟩
  refine va_bast hx hb hK hP hD hS 1 0 rfl rfl (i := 10) (zz_in (by decide)) dX8_append_29 (fun H locs hP hD hS => ?_)
  rw [← ez15] at hP hD
  have hP : va_P (dC, dI) vwCl [(h0, .inr (9, [.ref h1, .int 10, .int 0, .int 0, .int 0, .int 0, .int 0, .ref (ad 25), .long 0, .int 0, .long 0, .int 0, .int 0, .int 0, .int 0])), (h1, .inl (w0, 940, .inl (upd (upd (upd f0 8 z5) 9 z10) 10 z15)))] H := hP
  have hD : va_D A [(h0, .inr (9, [.ref h1, .int 10, .int 0, .int 0, .int 0, .int 0, .int 0, .ref (ad 25), .long 0, .int 0, .long 0, .int 0, .int 0, .int 0, .int 0])), (h1, .inl (w0, 940, .inl (upd (upd (upd f0 8 z5) 9 z10) 10 z15)))] := hD
  refine lv_aload_n hx hb dX8_append_30 rfl (lv_at hl 1 rfl) ?_
  refine lv_dup hx hb dX8_append_31 rfl ?_
  refine va_get (D := (dC, dI)) (ci := 9) (v := .int 10) (C := RX8) (T := TX8) (N := 15) hx hb hts ii_X8_append_X8 hown hK hP 0 rfl rfl 1 (by decide) (hts _ mm_X8_append_1) (fun _ h9 => h9) rfl dX8_append_32 ?_
  refine lv_iconst (v := 1) hx hb dX8_append_35 (by decide) ?_
  refine lv_iadd hx hb dX8_append_36 ?_
  refine zz_top (v := 11) (by decide) ?_
  refine va_put (D := (dC, dI)) (ci := 9) (v := .int 11) (ty := .int) (C := RX8) (T := TX8) (N := 15) hx hb hts ii_X8_append_X8 tyX8 tyX8_ok nmX8 hown hK hP hD hS 0 rfl rfl 1 (by decide) (hts _ mm_X8_append_1) (fun _ h9 => h9) rfl (by decide +kernel) rfl rfl (Nat.le_of_ble_eq_true rfl) dX8_append_37 (fun H locs hP hD hS => ?_)
  have hP : va_P (dC, dI) vwCl [(h0, .inr (9, [.ref h1, .int 11, .int 0, .int 0, .int 0, .int 0, .int 0, .ref (ad 25), .long 0, .int 0, .long 0, .int 0, .int 0, .int 0, .int 0])), (h1, .inl (w0, 940, .inl (upd (upd (upd f0 8 z5) 9 z10) 10 z15)))] H := hP
  have hD : va_D A [(h0, .inr (9, [.ref h1, .int 11, .int 0, .int 0, .int 0, .int 0, .int 0, .ref (ad 25), .long 0, .int 0, .long 0, .int 0, .int 0, .int 0, .int 0])), (h1, .inl (w0, 940, .inl (upd (upd (upd f0 8 z5) 9 z10) 10 z15)))] := hD
  refine lv_iinc (v := 0) (lv' := [(2, .int 0), (0, .ref h0), (1, .int p0)]) hx hb dX8_append_40 hl (k := 0) rfl (by decide) (by decide) rfl (fun ls hl => ?_)
  refine lv_goto (tgt := 3) hx hb dX8_append_43 (by decide) ?_
  refine lv_iload_n hx hb dX8_append_3 rfl (lv_at hl 0 rfl) ?_
  refine lv_if_lt (tgt := 46) hx hb dX8_append_4 (by decide) (fun c16 => absurd c16 (by decide)) (fun _ => ?_)
  refine lv_aload_n hx hb dX8_append_7 rfl (lv_at hl 1 rfl) ?_
  refine va_get (D := (dC, dI)) (ci := 9) (v := .int 11) (C := RX8) (T := TX8) (N := 15) hx hb hts ii_X8_append_X8 hown hK hP 0 rfl rfl 1 (by decide) (hts _ mm_X8_append_1) (fun _ h9 => h9) rfl dX8_append_8 ?_
  refine lv_sipush (v := 940) hx hb dX8_append_11 (by decide) ?_
  refine lv_icmp_ge (tgt := 46) hx hb dX8_append_14 (by decide) (fun c17 => absurd c17 (by decide)) (fun _ => ?_)
  refine lv_aload_n hx hb dX8_append_17 rfl (lv_at hl 1 rfl) ?_
  refine va_get (D := (dC, dI)) (ci := 9) (v := .ref h1) (C := RX8) (T := TX8) (N := 15) hx hb hts ii_X8_append_X8 hown hK hP 0 rfl rfl 0 (by decide) (hts _ mm_X8_append_2) (fun _ h9 => h9) rfl dX8_append_18 ?_
  refine lv_aload_n hx hb dX8_append_21 rfl (lv_at hl 1 rfl) ?_
  refine va_get (D := (dC, dI)) (ci := 9) (v := .int 11) (C := RX8) (T := TX8) (N := 15) hx hb hts ii_X8_append_X8 hown hK hP 0 rfl rfl 1 (by decide) (hts _ mm_X8_append_1) (fun _ h9 => h9) rfl dX8_append_22 ?_
  refine lv_iload_n hx hb dX8_append_25 rfl (lv_at hl 2 rfl) ?_
  refine lv_iload_n hx hb dX8_append_26 rfl (lv_at hl 0 rfl) ?_
  refine lv_iushr hx hb dX8_append_27 rfl ?_
  refine lv_topi (fun z18 ez18 => ?_)
  refine lv_i2b hx hb dX8_append_28 rfl ?_
  refine lv_topi (fun z19 ez19 => ?_)
  obtain ⟨z20, ez20⟩ : ∃ y : Int32, y = vp_nar .byte z19 := ⟨_, rfl⟩
  refine va_bast hx hb hK hP hD hS 1 0 rfl rfl (i := 11) (zz_in (by decide)) dX8_append_29 (fun H locs hP hD hS => ?_)
  rw [← ez20] at hP hD
  have hP : va_P (dC, dI) vwCl [(h0, .inr (9, [.ref h1, .int 11, .int 0, .int 0, .int 0, .int 0, .int 0, .ref (ad 25), .long 0, .int 0, .long 0, .int 0, .int 0, .int 0, .int 0])), (h1, .inl (w0, 940, .inl (upd (upd (upd (upd f0 8 z5) 9 z10) 10 z15) 11 z20)))] H := hP
  have hD : va_D A [(h0, .inr (9, [.ref h1, .int 11, .int 0, .int 0, .int 0, .int 0, .int 0, .ref (ad 25), .long 0, .int 0, .long 0, .int 0, .int 0, .int 0, .int 0])), (h1, .inl (w0, 940, .inl (upd (upd (upd (upd f0 8 z5) 9 z10) 10 z15) 11 z20)))] := hD
  refine lv_aload_n hx hb dX8_append_30 rfl (lv_at hl 1 rfl) ?_
  refine lv_dup hx hb dX8_append_31 rfl ?_
  refine va_get (D := (dC, dI)) (ci := 9) (v := .int 11) (C := RX8) (T := TX8) (N := 15) hx hb hts ii_X8_append_X8 hown hK hP 0 rfl rfl 1 (by decide) (hts _ mm_X8_append_1) (fun _ h9 => h9) rfl dX8_append_32 ?_
  refine lv_iconst (v := 1) hx hb dX8_append_35 (by decide) ?_
  refine lv_iadd hx hb dX8_append_36 ?_
  refine zz_top (v := 12) (by decide) ?_
  refine va_put (D := (dC, dI)) (ci := 9) (v := .int 12) (ty := .int) (C := RX8) (T := TX8) (N := 15) hx hb hts ii_X8_append_X8 tyX8 tyX8_ok nmX8 hown hK hP hD hS 0 rfl rfl 1 (by decide) (hts _ mm_X8_append_1) (fun _ h9 => h9) rfl (by decide +kernel) rfl rfl (Nat.le_of_ble_eq_true rfl) dX8_append_37 (fun H locs hP hD hS => ?_)
  have hP : va_P (dC, dI) vwCl [(h0, .inr (9, [.ref h1, .int 12, .int 0, .int 0, .int 0, .int 0, .int 0, .ref (ad 25), .long 0, .int 0, .long 0, .int 0, .int 0, .int 0, .int 0])), (h1, .inl (w0, 940, .inl (upd (upd (upd (upd f0 8 z5) 9 z10) 10 z15) 11 z20)))] H := hP
  have hD : va_D A [(h0, .inr (9, [.ref h1, .int 12, .int 0, .int 0, .int 0, .int 0, .int 0, .ref (ad 25), .long 0, .int 0, .long 0, .int 0, .int 0, .int 0, .int 0])), (h1, .inl (w0, 940, .inl (upd (upd (upd (upd f0 8 z5) 9 z10) 10 z15) 11 z20)))] := hD
  refine lv_iinc (v := (-8)) (lv' := [(2, .int (-8)), (0, .ref h0), (1, .int p0)]) hx hb dX8_append_40 hl (k := 0) rfl (by decide) (by decide) rfl (fun ls hl => ?_)
  refine lv_goto (tgt := 3) hx hb dX8_append_43 (by decide) ?_
  refine lv_iload_n hx hb dX8_append_3 rfl (lv_at hl 0 rfl) ?_
  refine lv_if_lt (tgt := 46) hx hb dX8_append_4 (by decide) (fun _ => ?_) (fun c21 => absurd (by decide) c21)
  have hP9 := hP.sub (ws' := [(h0, .inr (9, [.ref h1, .int 12, .int 0, .int 0, .int 0, .int 0, .int 0, .ref (ad 25), .long 0, .int 0, .long 0, .int 0, .int 0, .int 0, .int 0])), (h1, .inl (w0, 940, .inl (upd (upd (upd (upd f0 8 z5) 9 z10) 10 z15) 11 z20)))]) [0, 1] rfl
  have hD9 := hD.sub (ws' := [(h0, .inr (9, [.ref h1, .int 12, .int 0, .int 0, .int 0, .int 0, .int 0, .ref (ad 25), .long 0, .int 0, .long 0, .int 0, .int 0, .int 0, .int 0])), (h1, .inl (w0, 940, .inl (upd (upd (upd (upd f0 8 z5) 9 z10) 10 z15) 11 z20)))]) [0, 1] (by decide) rfl
  have hK9 := hK.sub (tys' := []) [] rfl
  refine W.widen (k := 0) (n := 0) (Nat.le_of_ble_eq_true rfl) (Nat.le_of_ble_eq_true rfl) ?_
  exact W.vret hx hb hr (fun t ht hW => ⟨⟨(), rfl, trivial, (upd (upd (upd (upd f0 8 z5) 9 z10) 10 z15) 11 z20), by rw [ht]; exact hP9, va_K.moved hW.alike hK9, hD9⟩, hS.F ht⟩) hS.2.2 dX8_append_46
set_option maxHeartbeats 4000000 in
set_option maxRecDepth 100000 in
theorem k_X8_append_3 (l : Launch) (dC : Nat → ClassId) (dI : Nat → Nat → Nat) (ad : Nat → Nat) (h0 h1 : Nat) (p0 : Int32) (f0 : Nat → Int32) (w0 : ClassId) (sz : Nat) : Met l yX8_append wsX8_append ({ frames := 0, cells := 0, slots := 0, locals := 0 }) (va_Pc [.ref h0, .int p0] (CP (dC, dI) [(h0, .inr (9, [.ref h1, .int 12, .int 0, .int 0, .int 0, .int 0, .int 0, .ref (ad 25), .long 0, .int 0, .long 0, .int 0, .int 0, .int 0, .int 0])), (h1, .inl (w0, 940, .inl f0))] [(w0, .byte)] sz ad)) (va_Qv (fun _ : Unit => True) (fun (_ : Unit) (t : State) => ∃ (F0 : Nat → Int32), CQ (dC, dI) [(h0, .inr (9, [.ref h1, .int 16, .int 0, .int 0, .int 0, .int 0, .int 0, .ref (ad 25), .long 0, .int 0, .long 0, .int 0, .int 0, .int 0, .int 0])), (h1, .inl (w0, 940, .inl F0))] [] (va_A [(h0, .inr (9, [.ref h1, .int 12, .int 0, .int 0, .int 0, .int 0, .int 0, .ref (ad 25), .long 0, .int 0, .long 0, .int 0, .int 0, .int 0, .int 0])), (h1, .inl (w0, 940, .inl f0))] sz) t) (va_A [(h0, .inr (9, [.ref h1, .int 12, .int 0, .int 0, .int 0, .int 0, .int 0, .ref (ad 25), .long 0, .int 0, .long 0, .int 0, .int 0, .int 0, .int 0])), (h1, .inl (w0, 940, .inl f0))] sz)) 0 0 (va_A [(h0, .inr (9, [.ref h1, .int 12, .int 0, .int 0, .int 0, .int 0, .int 0, .ref (ad 25), .long 0, .int 0, .long 0, .int 0, .int 0, .int 0, .int 0])), (h1, .inl (w0, 940, .inl f0))] sz) := by
  refine Met.ofW (cc := cX8_append) (maxL := 3) (ret := none) (by decide) rfl ?_
  intro p e s m args below meth c s₁ B hml hv
  obtain ⟨rfl, hsz, hP, hK, hD0, hE⟩ := hv
  have hx := B.exec
  have hb := B.bytes
  have hr := B.returns
  have hts := atoms_spec (ws := wsX8_append) B.pre
  have hown : s.vm.findClass RX8 = some m.cls := findClass_of_methodNamed B.named
  have hlocks := B.notSynchronized
  subst hsz
  have hD := hD0.self (sz := s.heap.size)
  generalize hAe : va_A [(h0, .inr (9, [.ref h1, .int 12, .int 0, .int 0, .int 0, .int 0, .int 0, .ref (ad 25), .long 0, .int 0, .long 0, .int 0, .int 0, .int 0, .int 0])), (h1, .inl (w0, 940, .inl f0))] s.heap.size = A at hD hE ⊢
  have hA : ∀ q : Nat, s.heap.size ≤ q → A q := fun q h => by rw [← hAe]; exact Or.inr h
  have hS : va_S A s.heap s.heap [] := va_S.rf
  have hl := lv_entry ([.ref h0, .int p0]) (n := 3) (Nat.le_of_ble_eq_true rfl)
  rw [lg_entry_eq]
  generalize (lg_sl ([.ref h0, .int p0]) ++ List.replicate (3 - (lg_sl ([.ref h0, .int p0])).length) Slot.unset).toArray = ls at hl ⊢
  have hl : lv_has ls 3 [(0, .ref h0), (1, .int p0)] := hl
  refine lv_bipush (v := 24) hx hb dX8_append_0 (by decide) ?_
  refine lv_istore_n (lv' := [(2, .int 24), (0, .ref h0), (1, .int p0)]) hx hb dX8_append_2 rfl hl (by decide) rfl (fun ls hl => ?_)
  refine lv_iload_n hx hb dX8_append_3 rfl (lv_at hl 0 rfl) ?_
  refine lv_if_lt (tgt := 46) hx hb dX8_append_4 (by decide) (fun c1 => absurd c1 (by decide)) (fun _ => ?_)
  refine lv_aload_n hx hb dX8_append_7 rfl (lv_at hl 1 rfl) ?_
  refine va_get (D := (dC, dI)) (ci := 9) (v := .int 12) (C := RX8) (T := TX8) (N := 15) hx hb hts ii_X8_append_X8 hown hK hP 0 rfl rfl 1 (by decide) (hts _ mm_X8_append_1) (fun _ h9 => h9) rfl dX8_append_8 ?_
  refine lv_sipush (v := 940) hx hb dX8_append_11 (by decide) ?_
  refine lv_icmp_ge (tgt := 46) hx hb dX8_append_14 (by decide) (fun c2 => absurd c2 (by decide)) (fun _ => ?_)
  refine lv_aload_n hx hb dX8_append_17 rfl (lv_at hl 1 rfl) ?_
  refine va_get (D := (dC, dI)) (ci := 9) (v := .ref h1) (C := RX8) (T := TX8) (N := 15) hx hb hts ii_X8_append_X8 hown hK hP 0 rfl rfl 0 (by decide) (hts _ mm_X8_append_2) (fun _ h9 => h9) rfl dX8_append_18 ?_
  refine lv_aload_n hx hb dX8_append_21 rfl (lv_at hl 1 rfl) ?_
  refine va_get (D := (dC, dI)) (ci := 9) (v := .int 12) (C := RX8) (T := TX8) (N := 15) hx hb hts ii_X8_append_X8 hown hK hP 0 rfl rfl 1 (by decide) (hts _ mm_X8_append_1) (fun _ h9 => h9) rfl dX8_append_22 ?_
  refine lv_iload_n hx hb dX8_append_25 rfl (lv_at hl 2 rfl) ?_
  refine lv_iload_n hx hb dX8_append_26 rfl (lv_at hl 0 rfl) ?_
  refine lv_iushr hx hb dX8_append_27 rfl ?_
  refine lv_topi (fun z3 ez3 => ?_)
  refine lv_i2b hx hb dX8_append_28 rfl ?_
  refine lv_topi (fun z4 ez4 => ?_)
  obtain ⟨z5, ez5⟩ : ∃ y : Int32, y = vp_nar .byte z4 := ⟨_, rfl⟩
  refine va_bast hx hb hK hP hD hS 1 0 rfl rfl (i := 12) (zz_in (by decide)) dX8_append_29 (fun H locs hP hD hS => ?_)
  rw [← ez5] at hP hD
  have hP : va_P (dC, dI) vwCl [(h0, .inr (9, [.ref h1, .int 12, .int 0, .int 0, .int 0, .int 0, .int 0, .ref (ad 25), .long 0, .int 0, .long 0, .int 0, .int 0, .int 0, .int 0])), (h1, .inl (w0, 940, .inl (upd f0 12 z5)))] H := hP
  have hD : va_D A [(h0, .inr (9, [.ref h1, .int 12, .int 0, .int 0, .int 0, .int 0, .int 0, .ref (ad 25), .long 0, .int 0, .long 0, .int 0, .int 0, .int 0, .int 0])), (h1, .inl (w0, 940, .inl (upd f0 12 z5)))] := hD
  refine lv_aload_n hx hb dX8_append_30 rfl (lv_at hl 1 rfl) ?_
  refine lv_dup hx hb dX8_append_31 rfl ?_
  refine va_get (D := (dC, dI)) (ci := 9) (v := .int 12) (C := RX8) (T := TX8) (N := 15) hx hb hts ii_X8_append_X8 hown hK hP 0 rfl rfl 1 (by decide) (hts _ mm_X8_append_1) (fun _ h9 => h9) rfl dX8_append_32 ?_
  refine lv_iconst (v := 1) hx hb dX8_append_35 (by decide) ?_
  refine lv_iadd hx hb dX8_append_36 ?_
  refine zz_top (v := 13) (by decide) ?_
  refine va_put (D := (dC, dI)) (ci := 9) (v := .int 13) (ty := .int) (C := RX8) (T := TX8) (N := 15) hx hb hts ii_X8_append_X8 tyX8 tyX8_ok nmX8 hown hK hP hD hS 0 rfl rfl 1 (by decide) (hts _ mm_X8_append_1) (fun _ h9 => h9) rfl (by decide +kernel) rfl rfl (Nat.le_of_ble_eq_true rfl) dX8_append_37 (fun H locs hP hD hS => ?_)
  have hP : va_P (dC, dI) vwCl [(h0, .inr (9, [.ref h1, .int 13, .int 0, .int 0, .int 0, .int 0, .int 0, .ref (ad 25), .long 0, .int 0, .long 0, .int 0, .int 0, .int 0, .int 0])), (h1, .inl (w0, 940, .inl (upd f0 12 z5)))] H := hP
  have hD : va_D A [(h0, .inr (9, [.ref h1, .int 13, .int 0, .int 0, .int 0, .int 0, .int 0, .ref (ad 25), .long 0, .int 0, .long 0, .int 0, .int 0, .int 0, .int 0])), (h1, .inl (w0, 940, .inl (upd f0 12 z5)))] := hD
  refine lv_iinc (v := 16) (lv' := [(2, .int 16), (0, .ref h0), (1, .int p0)]) hx hb dX8_append_40 hl (k := 0) rfl (by decide) (by decide) rfl (fun ls hl => ?_)
  refine lv_goto (tgt := 3) hx hb dX8_append_43 (by decide) ?_
  refine lv_iload_n hx hb dX8_append_3 rfl (lv_at hl 0 rfl) ?_
  refine lv_if_lt (tgt := 46) hx hb dX8_append_4 (by decide) (fun c6 => absurd c6 (by decide)) (fun _ => ?_)
  refine lv_aload_n hx hb dX8_append_7 rfl (lv_at hl 1 rfl) ?_
  refine va_get (D := (dC, dI)) (ci := 9) (v := .int 13) (C := RX8) (T := TX8) (N := 15) hx hb hts ii_X8_append_X8 hown hK hP 0 rfl rfl 1 (by decide) (hts _ mm_X8_append_1) (fun _ h9 => h9) rfl dX8_append_8 ?_
  refine lv_sipush (v := 940) hx hb dX8_append_11 (by decide) ?_
  refine lv_icmp_ge (tgt := 46) hx hb dX8_append_14 (by decide) (fun c7 => absurd c7 (by decide)) (fun _ => ?_)
  refine lv_aload_n hx hb dX8_append_17 rfl (lv_at hl 1 rfl) ?_
  refine va_get (D := (dC, dI)) (ci := 9) (v := .ref h1) (C := RX8) (T := TX8) (N := 15) hx hb hts ii_X8_append_X8 hown hK hP 0 rfl rfl 0 (by decide) (hts _ mm_X8_append_2) (fun _ h9 => h9) rfl dX8_append_18 ?_
  refine lv_aload_n hx hb dX8_append_21 rfl (lv_at hl 1 rfl) ?_
  refine va_get (D := (dC, dI)) (ci := 9) (v := .int 13) (C := RX8) (T := TX8) (N := 15) hx hb hts ii_X8_append_X8 hown hK hP 0 rfl rfl 1 (by decide) (hts _ mm_X8_append_1) (fun _ h9 => h9) rfl dX8_append_22 ?_
  refine lv_iload_n hx hb dX8_append_25 rfl (lv_at hl 2 rfl) ?_
  refine lv_iload_n hx hb dX8_append_26 rfl (lv_at hl 0 rfl) ?_
  refine lv_iushr hx hb dX8_append_27 rfl ?_
  refine lv_topi (fun z8 ez8 => ?_)
  refine lv_i2b hx hb dX8_append_28 rfl ?_
  refine lv_topi (fun z9 ez9 => ?_)
  obtain ⟨z10, ez10⟩ : ∃ y : Int32, y = vp_nar .byte z9 := ⟨_, rfl⟩
  refine va_bast hx hb hK hP hD hS 1 0 rfl rfl (i := 13) (zz_in (by decide)) dX8_append_29 (fun H locs hP hD hS => ?_)
  rw [← ez10] at hP hD
  have hP : va_P (dC, dI) vwCl [(h0, .inr (9, [.ref h1, .int 13, .int 0, .int 0, .int 0, .int 0, .int 0, .ref (ad 25), .long 0, .int 0, .long 0, .int 0, .int 0, .int 0, .int 0])), (h1, .inl (w0, 940, .inl (upd (upd f0 12 z5) 13 z10)))] H := hP
  have hD : va_D A [(h0, .inr (9, [.ref h1, .int 13, .int 0, .int 0, .int 0, .int 0, .int 0, .ref (ad 25), .long 0, .int 0, .long 0, .int 0, .int 0, .int 0, .int 0])), (h1, .inl (w0, 940, .inl (upd (upd f0 12 z5) 13 z10)))] := hD
  refine lv_aload_n hx hb dX8_append_30 rfl (lv_at hl 1 rfl) ?_
  refine lv_dup hx hb dX8_append_31 rfl ?_
  refine va_get (D := (dC, dI)) (ci := 9) (v := .int 13) (C := RX8) (T := TX8) (N := 15) hx hb hts ii_X8_append_X8 hown hK hP 0 rfl rfl 1 (by decide) (hts _ mm_X8_append_1) (fun _ h9 => h9) rfl dX8_append_32 ?_
  refine lv_iconst (v := 1) hx hb dX8_append_35 (by decide) ?_
  refine lv_iadd hx hb dX8_append_36 ?_
  refine zz_top (v := 14) (by decide) ?_
  refine va_put (D := (dC, dI)) (ci := 9) (v := .int 14) (ty := .int) (C := RX8) (T := TX8) (N := 15) hx hb hts ii_X8_append_X8 tyX8 tyX8_ok nmX8 hown hK hP hD hS 0 rfl rfl 1 (by decide) (hts _ mm_X8_append_1) (fun _ h9 => h9) rfl (by decide +kernel) rfl rfl (Nat.le_of_ble_eq_true rfl) dX8_append_37 (fun H locs hP hD hS => ?_)
  have hP : va_P (dC, dI) vwCl [(h0, .inr (9, [.ref h1, .int 14, .int 0, .int 0, .int 0, .int 0, .int 0, .ref (ad 25), .long 0, .int 0, .long 0, .int 0, .int 0, .int 0, .int 0])), (h1, .inl (w0, 940, .inl (upd (upd f0 12 z5) 13 z10)))] H := hP
  have hD : va_D A [(h0, .inr (9, [.ref h1, .int 14, .int 0, .int 0, .int 0, .int 0, .int 0, .ref (ad 25), .long 0, .int 0, .long 0, .int 0, .int 0, .int 0, .int 0])), (h1, .inl (w0, 940, .inl (upd (upd f0 12 z5) 13 z10)))] := hD
  refine lv_iinc (v := 8) (lv' := [(2, .int 8), (0, .ref h0), (1, .int p0)]) hx hb dX8_append_40 hl (k := 0) rfl (by decide) (by decide) rfl (fun ls hl => ?_)
  refine lv_goto (tgt := 3) hx hb dX8_append_43 (by decide) ?_
  refine lv_iload_n hx hb dX8_append_3 rfl (lv_at hl 0 rfl) ?_
  refine lv_if_lt (tgt := 46) hx hb dX8_append_4 (by decide) (fun c11 => absurd c11 (by decide)) (fun _ => ?_)
  refine lv_aload_n hx hb dX8_append_7 rfl (lv_at hl 1 rfl) ?_
  refine va_get (D := (dC, dI)) (ci := 9) (v := .int 14) (C := RX8) (T := TX8) (N := 15) hx hb hts ii_X8_append_X8 hown hK hP 0 rfl rfl 1 (by decide) (hts _ mm_X8_append_1) (fun _ h9 => h9) rfl dX8_append_8 ?_
  refine lv_sipush (v := 940) hx hb dX8_append_11 (by decide) ?_
  refine lv_icmp_ge (tgt := 46) hx hb dX8_append_14 (by decide) (fun c12 => absurd c12 (by decide)) (fun _ => ?_)
  refine lv_aload_n hx hb dX8_append_17 rfl (lv_at hl 1 rfl) ?_
  refine va_get (D := (dC, dI)) (ci := 9) (v := .ref h1) (C := RX8) (T := TX8) (N := 15) hx hb hts ii_X8_append_X8 hown hK hP 0 rfl rfl 0 (by decide) (hts _ mm_X8_append_2) (fun _ h9 => h9) rfl dX8_append_18 ?_
  refine lv_aload_n hx hb dX8_append_21 rfl (lv_at hl 1 rfl) ?_
  refine va_get (D := (dC, dI)) (ci := 9) (v := .int 14) (C := RX8) (T := TX8) (N := 15) hx hb hts ii_X8_append_X8 hown hK hP 0 rfl rfl 1 (by decide) (hts _ mm_X8_append_1) (fun _ h9 => h9) rfl dX8_append_22 ?_
  refine lv_iload_n hx hb dX8_append_25 rfl (lv_at hl 2 rfl) ?_
  refine lv_iload_n hx hb dX8_append_26 rfl (lv_at hl 0 rfl) ?_
  refine lv_iushr hx hb dX8_append_27 rfl ?_
  refine lv_topi (fun z13 ez13 => ?_)
  refine lv_i2b hx hb dX8_append_28 rfl ?_
  refine lv_topi (fun z14 ez14 => ?_)
  obtain ⟨z15, ez15⟩ : ∃ y : Int32, y = vp_nar .byte z14 := ⟨_, rfl⟩
  refine va_bast hx hb hK hP hD hS 1 0 rfl rfl (i := 14) (zz_in (by decide)) dX8_append_29 (fun H locs hP hD hS => ?_)
  rw [← ez15] at hP hD
  have hP : va_P (dC, dI) vwCl [(h0, .inr (9, [.ref h1, .int 14, .int 0, .int 0, .int 0, .int 0, .int 0, .ref (ad 25), .long 0, .int 0, .long 0, .int 0, .int 0, .int 0, .int 0])), (h1, .inl (w0, 940, .inl (upd (upd (upd f0 12 z5) 13 z10) 14 z15)))] H := hP
  have hD : va_D A [(h0, .inr (9, [.ref h1, .int 14, .int 0, .int 0, .int 0, .int 0, .int 0, .ref (ad 25), .long 0, .int 0, .long 0, .int 0, .int 0, .int 0, .int 0])), (h1, .inl (w0, 940, .inl (upd (upd (upd f0 12 z5) 13 z10) 14 z15)))] := hD
  refine lv_aload_n hx hb dX8_append_30 rfl (lv_at hl 1 rfl) ?_
  refine lv_dup hx hb dX8_append_31 rfl ?_
  refine va_get (D := (dC, dI)) (ci := 9) (v := .int 14) (C := RX8) (T := TX8) (N := 15) hx hb hts ii_X8_append_X8 hown hK hP 0 rfl rfl 1 (by decide) (hts _ mm_X8_append_1) (fun _ h9 => h9) rfl dX8_append_32 ?_
  refine lv_iconst (v := 1) hx hb dX8_append_35 (by decide) ?_
  refine lv_iadd hx hb dX8_append_36 ?_
  refine zz_top (v := 15) (by decide) ?_
  refine va_put (D := (dC, dI)) (ci := 9) (v := .int 15) (ty := .int) (C := RX8) (T := TX8) (N := 15) hx hb hts ii_X8_append_X8 tyX8 tyX8_ok nmX8 hown hK hP hD hS 0 rfl rfl 1 (by decide) (hts _ mm_X8_append_1) (fun _ h9 => h9) rfl (by decide +kernel) rfl rfl (Nat.le_of_ble_eq_true rfl) dX8_append_37 (fun H locs hP hD hS => ?_)
  have hP : va_P (dC, dI) vwCl [(h0, .inr (9, [.ref h1, .int 15, .int 0, .int 0, .int 0, .int 0, .int 0, .ref (ad 25), .long 0, .int 0, .long 0, .int 0, .int 0, .int 0, .int 0])), (h1, .inl (w0, 940, .inl (upd (upd (upd f0 12 z5) 13 z10) 14 z15)))] H := hP
  have hD : va_D A [(h0, .inr (9, [.ref h1, .int 15, .int 0, .int 0, .int 0, .int 0, .int 0, .ref (ad 25), .long 0, .int 0, .long 0, .int 0, .int 0, .int 0, .int 0])), (h1, .inl (w0, 940, .inl (upd (upd (upd f0 12 z5) 13 z10) 14 z15)))] := hD
  refine lv_iinc (v := 0) (lv' := [(2, .int 0), (0, .ref h0), (1, .int p0)]) hx hb dX8_append_40 hl (k := 0) rfl (by decide) (by decide) rfl (fun ls hl => ?_)
  refine lv_goto (tgt := 3) hx hb dX8_append_43 (by decide) ?_
  refine lv_iload_n hx hb dX8_append_3 rfl (lv_at hl 0 rfl) ?_
  refine lv_if_lt (tgt := 46) hx hb dX8_append_4 (by decide) (fun c16 => absurd c16 (by decide)) (fun _ => ?_)
  refine lv_aload_n hx hb dX8_append_7 rfl (lv_at hl 1 rfl) ?_
  refine va_get (D := (dC, dI)) (ci := 9) (v := .int 15) (C := RX8) (T := TX8) (N := 15) hx hb hts ii_X8_append_X8 hown hK hP 0 rfl rfl 1 (by decide) (hts _ mm_X8_append_1) (fun _ h9 => h9) rfl dX8_append_8 ?_
  refine lv_sipush (v := 940) hx hb dX8_append_11 (by decide) ?_
  refine lv_icmp_ge (tgt := 46) hx hb dX8_append_14 (by decide) (fun c17 => absurd c17 (by decide)) (fun _ => ?_)
  refine lv_aload_n hx hb dX8_append_17 rfl (lv_at hl 1 rfl) ?_
  refine va_get (D := (dC, dI)) (ci := 9) (v := .ref h1) (C := RX8) (T := TX8) (N := 15) hx hb hts ii_X8_append_X8 hown hK hP 0 rfl rfl 0 (by decide) (hts _ mm_X8_append_2) (fun _ h9 => h9) rfl dX8_append_18 ?_
  refine lv_aload_n hx hb dX8_append_21 rfl (lv_at hl 1 rfl) ?_
  refine va_get (D := (dC, dI)) (ci := 9) (v := .int 15) (C := RX8) (T := TX8) (N := 15) hx hb hts ii_X8_append_X8 hown hK hP 0 rfl rfl 1 (by decide) (hts _ mm_X8_append_1) (fun _ h9 => h9) rfl dX8_append_22 ?_
  refine lv_iload_n hx hb dX8_append_25 rfl (lv_at hl 2 rfl) ?_
  refine lv_iload_n hx hb dX8_append_26 rfl (lv_at hl 0 rfl) ?_
  refine lv_iushr hx hb dX8_append_27 rfl ?_
  refine lv_topi (fun z18 ez18 => ?_)
  refine lv_i2b hx hb dX8_append_28 rfl ?_
  refine lv_topi (fun z19 ez19 => ?_)
  obtain ⟨z20, ez20⟩ : ∃ y : Int32, y = vp_nar .byte z19 := ⟨_, rfl⟩
  refine va_bast hx hb hK hP hD hS 1 0 rfl rfl (i := 15) (zz_in (by decide)) dX8_append_29 (fun H locs hP hD hS => ?_)
  rw [← ez20] at hP hD
  have hP : va_P (dC, dI) vwCl [(h0, .inr (9, [.ref h1, .int 15, .int 0, .int 0, .int 0, .int 0, .int 0, .ref (ad 25), .long 0, .int 0, .long 0, .int 0, .int 0, .int 0, .int 0])), (h1, .inl (w0, 940, .inl (upd (upd (upd (upd f0 12 z5) 13 z10) 14 z15) 15 z20)))] H := hP
  have hD : va_D A [(h0, .inr (9, [.ref h1, .int 15, .int 0, .int 0, .int 0, .int 0, .int 0, .ref (ad 25), .long 0, .int 0, .long 0, .int 0, .int 0, .int 0, .int 0])), (h1, .inl (w0, 940, .inl (upd (upd (upd (upd f0 12 z5) 13 z10) 14 z15) 15 z20)))] := hD
  refine lv_aload_n hx hb dX8_append_30 rfl (lv_at hl 1 rfl) ?_
  refine lv_dup hx hb dX8_append_31 rfl ?_
  refine va_get (D := (dC, dI)) (ci := 9) (v := .int 15) (C := RX8) (T := TX8) (N := 15) hx hb hts ii_X8_append_X8 hown hK hP 0 rfl rfl 1 (by decide) (hts _ mm_X8_append_1) (fun _ h9 => h9) rfl dX8_append_32 ?_
  refine lv_iconst (v := 1) hx hb dX8_append_35 (by decide) ?_
  refine lv_iadd hx hb dX8_append_36 ?_
  refine zz_top (v := 16) (by decide) ?_
  refine va_put (D := (dC, dI)) (ci := 9) (v := .int 16) (ty := .int) (C := RX8) (T := TX8) (N := 15) hx hb hts ii_X8_append_X8 tyX8 tyX8_ok nmX8 hown hK hP hD hS 0 rfl rfl 1 (by decide) (hts _ mm_X8_append_1) (fun _ h9 => h9) rfl (by decide +kernel) rfl rfl (Nat.le_of_ble_eq_true rfl) dX8_append_37 (fun H locs hP hD hS => ?_)
  have hP : va_P (dC, dI) vwCl [(h0, .inr (9, [.ref h1, .int 16, .int 0, .int 0, .int 0, .int 0, .int 0, .ref (ad 25), .long 0, .int 0, .long 0, .int 0, .int 0, .int 0, .int 0])), (h1, .inl (w0, 940, .inl (upd (upd (upd (upd f0 12 z5) 13 z10) 14 z15) 15 z20)))] H := hP
  have hD : va_D A [(h0, .inr (9, [.ref h1, .int 16, .int 0, .int 0, .int 0, .int 0, .int 0, .ref (ad 25), .long 0, .int 0, .long 0, .int 0, .int 0, .int 0, .int 0])), (h1, .inl (w0, 940, .inl (upd (upd (upd (upd f0 12 z5) 13 z10) 14 z15) 15 z20)))] := hD
  refine lv_iinc (v := (-8)) (lv' := [(2, .int (-8)), (0, .ref h0), (1, .int p0)]) hx hb dX8_append_40 hl (k := 0) rfl (by decide) (by decide) rfl (fun ls hl => ?_)
  refine lv_goto (tgt := 3) hx hb dX8_append_43 (by decide) ?_
  refine lv_iload_n hx hb dX8_append_3 rfl (lv_at hl 0 rfl) ?_
  refine lv_if_lt (tgt := 46) hx hb dX8_append_4 (by decide) (fun _ => ?_) (fun c21 => absurd (by decide) c21)
  have hP9 := hP.sub (ws' := [(h0, .inr (9, [.ref h1, .int 16, .int 0, .int 0, .int 0, .int 0, .int 0, .ref (ad 25), .long 0, .int 0, .long 0, .int 0, .int 0, .int 0, .int 0])), (h1, .inl (w0, 940, .inl (upd (upd (upd (upd f0 12 z5) 13 z10) 14 z15) 15 z20)))]) [0, 1] rfl
  have hD9 := hD.sub (ws' := [(h0, .inr (9, [.ref h1, .int 16, .int 0, .int 0, .int 0, .int 0, .int 0, .ref (ad 25), .long 0, .int 0, .long 0, .int 0, .int 0, .int 0, .int 0])), (h1, .inl (w0, 940, .inl (upd (upd (upd (upd f0 12 z5) 13 z10) 14 z15) 15 z20)))]) [0, 1] (by decide) rfl
  have hK9 := hK.sub (tys' := []) [] rfl
  refine W.widen (k := 0) (n := 0) (Nat.le_of_ble_eq_true rfl) (Nat.le_of_ble_eq_true rfl) ?_
  exact W.vret hx hb hr (fun t ht hW => ⟨⟨(), rfl, trivial, (upd (upd (upd (upd f0 12 z5) 13 z10) 14 z15) 15 z20), by rw [ht]; exact hP9, va_K.moved hW.alike hK9, hD9⟩, hS.F ht⟩) hS.2.2 dX8_append_46
set_option maxHeartbeats 4000000 in
set_option maxRecDepth 100000 in
theorem k_X8_append_4 (l : Launch) (dC : Nat → ClassId) (dI : Nat → Nat → Nat) (ad : Nat → Nat) (h0 h1 : Nat) (p0 : Int32) (f0 : Nat → Int32) (w0 : ClassId) (sz : Nat) : Met l yX8_append wsX8_append ({ frames := 0, cells := 0, slots := 0, locals := 0 }) (va_Pc [.ref h0, .int p0] (CP (dC, dI) [(h0, .inr (9, [.ref h1, .int 16, .int 0, .int 0, .int 0, .int 0, .int 0, .ref (ad 25), .long 0, .int 0, .long 0, .int 0, .int 0, .int 0, .int 0])), (h1, .inl (w0, 940, .inl f0))] [(w0, .byte)] sz ad)) (va_Qv (fun _ : Unit => True) (fun (_ : Unit) (t : State) => ∃ (F0 : Nat → Int32), CQ (dC, dI) [(h0, .inr (9, [.ref h1, .int 20, .int 0, .int 0, .int 0, .int 0, .int 0, .ref (ad 25), .long 0, .int 0, .long 0, .int 0, .int 0, .int 0, .int 0])), (h1, .inl (w0, 940, .inl F0))] [] (va_A [(h0, .inr (9, [.ref h1, .int 16, .int 0, .int 0, .int 0, .int 0, .int 0, .ref (ad 25), .long 0, .int 0, .long 0, .int 0, .int 0, .int 0, .int 0])), (h1, .inl (w0, 940, .inl f0))] sz) t) (va_A [(h0, .inr (9, [.ref h1, .int 16, .int 0, .int 0, .int 0, .int 0, .int 0, .ref (ad 25), .long 0, .int 0, .long 0, .int 0, .int 0, .int 0, .int 0])), (h1, .inl (w0, 940, .inl f0))] sz)) 0 0 (va_A [(h0, .inr (9, [.ref h1, .int 16, .int 0, .int 0, .int 0, .int 0, .int 0, .ref (ad 25), .long 0, .int 0, .long 0, .int 0, .int 0, .int 0, .int 0])), (h1, .inl (w0, 940, .inl f0))] sz) := by
  refine Met.ofW (cc := cX8_append) (maxL := 3) (ret := none) (by decide) rfl ?_
  intro p e s m args below meth c s₁ B hml hv
  obtain ⟨rfl, hsz, hP, hK, hD0, hE⟩ := hv
  have hx := B.exec
  have hb := B.bytes
  have hr := B.returns
  have hts := atoms_spec (ws := wsX8_append) B.pre
  have hown : s.vm.findClass RX8 = some m.cls := findClass_of_methodNamed B.named
  have hlocks := B.notSynchronized
  subst hsz
  have hD := hD0.self (sz := s.heap.size)
  generalize hAe : va_A [(h0, .inr (9, [.ref h1, .int 16, .int 0, .int 0, .int 0, .int 0, .int 0, .ref (ad 25), .long 0, .int 0, .long 0, .int 0, .int 0, .int 0, .int 0])), (h1, .inl (w0, 940, .inl f0))] s.heap.size = A at hD hE ⊢
  have hA : ∀ q : Nat, s.heap.size ≤ q → A q := fun q h => by rw [← hAe]; exact Or.inr h
  have hS : va_S A s.heap s.heap [] := va_S.rf
  have hl := lv_entry ([.ref h0, .int p0]) (n := 3) (Nat.le_of_ble_eq_true rfl)
  rw [lg_entry_eq]
  generalize (lg_sl ([.ref h0, .int p0]) ++ List.replicate (3 - (lg_sl ([.ref h0, .int p0])).length) Slot.unset).toArray = ls at hl ⊢
  have hl : lv_has ls 3 [(0, .ref h0), (1, .int p0)] := hl
  refine lv_bipush (v := 24) hx hb dX8_append_0 (by decide) ?_
  refine lv_istore_n (lv' := [(2, .int 24), (0, .ref h0), (1, .int p0)]) hx hb dX8_append_2 rfl hl (by decide) rfl (fun ls hl => ?_)
  refine lv_iload_n hx hb dX8_append_3 rfl (lv_at hl 0 rfl) ?_
  refine lv_if_lt (tgt := 46) hx hb dX8_append_4 (by decide) (fun c1 => absurd c1 (by decide)) (fun _ => ?_)
  refine lv_aload_n hx hb dX8_append_7 rfl (lv_at hl 1 rfl) ?_
  refine va_get (D := (dC, dI)) (ci := 9) (v := .int 16) (C := RX8) (T := TX8) (N := 15) hx hb hts ii_X8_append_X8 hown hK hP 0 rfl rfl 1 (by decide) (hts _ mm_X8_append_1) (fun _ h9 => h9) rfl dX8_append_8 ?_
  refine lv_sipush (v := 940) hx hb dX8_append_11 (by decide) ?_
  refine lv_icmp_ge (tgt := 46) hx hb dX8_append_14 (by decide) (fun c2 => absurd c2 (by decide)) (fun _ => ?_)
  refine lv_aload_n hx hb dX8_append_17 rfl (lv_at hl 1 rfl) ?_
  refine va_get (D := (dC, dI)) (ci := 9) (v := .ref h1) (C := RX8) (T := TX8) (N := 15) hx hb hts ii_X8_append_X8 hown hK hP 0 rfl rfl 0 (by decide) (hts _ mm_X8_append_2) (fun _ h9 => h9) rfl dX8_append_18 ?_
  refine lv_aload_n hx hb dX8_append_21 rfl (lv_at hl 1 rfl) ?_
  refine va_get (D := (dC, dI)) (ci := 9) (v := .int 16) (C := RX8) (T := TX8) (N := 15) hx hb hts ii_X8_append_X8 hown hK hP 0 rfl rfl 1 (by decide) (hts _ mm_X8_append_1) (fun _ h9 => h9) rfl dX8_append_22 ?_
  refine lv_iload_n hx hb dX8_append_25 rfl (lv_at hl 2 rfl) ?_
  refine lv_iload_n hx hb dX8_append_26 rfl (lv_at hl 0 rfl) ?_
  refine lv_iushr hx hb dX8_append_27 rfl ?_
  refine lv_topi (fun z3 ez3 => ?_)
  refine lv_i2b hx hb dX8_append_28 rfl ?_
  refine lv_topi (fun z4 ez4 => ?_)
  obtain ⟨z5, ez5⟩ : ∃ y : Int32, y = vp_nar .byte z4 := ⟨_, rfl⟩
  refine va_bast hx hb hK hP hD hS 1 0 rfl rfl (i := 16) (zz_in (by decide)) dX8_append_29 (fun H locs hP hD hS => ?_)
  rw [← ez5] at hP hD
  have hP : va_P (dC, dI) vwCl [(h0, .inr (9, [.ref h1, .int 16, .int 0, .int 0, .int 0, .int 0, .int 0, .ref (ad 25), .long 0, .int 0, .long 0, .int 0, .int 0, .int 0, .int 0])), (h1, .inl (w0, 940, .inl (upd f0 16 z5)))] H := hP
  have hD : va_D A [(h0, .inr (9, [.ref h1, .int 16, .int 0, .int 0, .int 0, .int 0, .int 0, .ref (ad 25), .long 0, .int 0, .long 0, .int 0, .int 0, .int 0, .int 0])), (h1, .inl (w0, 940, .inl (upd f0 16 z5)))] := hD
  refine lv_aload_n hx hb dX8_append_30 rfl (lv_at hl 1 rfl) ?_
  refine lv_dup hx hb dX8_append_31 rfl ?_
  refine va_get (D := (dC, dI)) (ci := 9) (v := .int 16) (C := RX8) (T := TX8) (N := 15) hx hb hts ii_X8_append_X8 hown hK hP 0 rfl rfl 1 (by decide) (hts _ mm_X8_append_1) (fun _ h9 => h9) rfl dX8_append_32 ?_
  refine lv_iconst (v := 1) hx hb dX8_append_35 (by decide) ?_
  refine lv_iadd hx hb dX8_append_36 ?_
  refine zz_top (v := 17) (by decide) ?_
  refine va_put (D := (dC, dI)) (ci := 9) (v := .int 17) (ty := .int) (C := RX8) (T := TX8) (N := 15) hx hb hts ii_X8_append_X8 tyX8 tyX8_ok nmX8 hown hK hP hD hS 0 rfl rfl 1 (by decide) (hts _ mm_X8_append_1) (fun _ h9 => h9) rfl (by decide +kernel) rfl rfl (Nat.le_of_ble_eq_true rfl) dX8_append_37 (fun H locs hP hD hS => ?_)
  have hP : va_P (dC, dI) vwCl [(h0, .inr (9, [.ref h1, .int 17, .int 0, .int 0, .int 0, .int 0, .int 0, .ref (ad 25), .long 0, .int 0, .long 0, .int 0, .int 0, .int 0, .int 0])), (h1, .inl (w0, 940, .inl (upd f0 16 z5)))] H := hP
  have hD : va_D A [(h0, .inr (9, [.ref h1, .int 17, .int 0, .int 0, .int 0, .int 0, .int 0, .ref (ad 25), .long 0, .int 0, .long 0, .int 0, .int 0, .int 0, .int 0])), (h1, .inl (w0, 940, .inl (upd f0 16 z5)))] := hD
  refine lv_iinc (v := 16) (lv' := [(2, .int 16), (0, .ref h0), (1, .int p0)]) hx hb dX8_append_40 hl (k := 0) rfl (by decide) (by decide) rfl (fun ls hl => ?_)
  refine lv_goto (tgt := 3) hx hb dX8_append_43 (by decide) ?_
  refine lv_iload_n hx hb dX8_append_3 rfl (lv_at hl 0 rfl) ?_
  refine lv_if_lt (tgt := 46) hx hb dX8_append_4 (by decide) (fun c6 => absurd c6 (by decide)) (fun _ => ?_)
  refine lv_aload_n hx hb dX8_append_7 rfl (lv_at hl 1 rfl) ?_
  refine va_get (D := (dC, dI)) (ci := 9) (v := .int 17) (C := RX8) (T := TX8) (N := 15) hx hb hts ii_X8_append_X8 hown hK hP 0 rfl rfl 1 (by decide) (hts _ mm_X8_append_1) (fun _ h9 => h9) rfl dX8_append_8 ?_
  refine lv_sipush (v := 940) hx hb dX8_append_11 (by decide) ?_
  refine lv_icmp_ge (tgt := 46) hx hb dX8_append_14 (by decide) (fun c7 => absurd c7 (by decide)) (fun _ => ?_)
  refine lv_aload_n hx hb dX8_append_17 rfl (lv_at hl 1 rfl) ?_
  refine va_get (D := (dC, dI)) (ci := 9) (v := .ref h1) (C := RX8) (T := TX8) (N := 15) hx hb hts ii_X8_append_X8 hown hK hP 0 rfl rfl 0 (by decide) (hts _ mm_X8_append_2) (fun _ h9 => h9) rfl dX8_append_18 ?_
  refine lv_aload_n hx hb dX8_append_21 rfl (lv_at hl 1 rfl) ?_
  refine va_get (D := (dC, dI)) (ci := 9) (v := .int 17) (C := RX8) (T := TX8) (N := 15) hx hb hts ii_X8_append_X8 hown hK hP 0 rfl rfl 1 (by decide) (hts _ mm_X8_append_1) (fun _ h9 => h9) rfl dX8_append_22 ?_
  refine lv_iload_n hx hb dX8_append_25 rfl (lv_at hl 2 rfl) ?_
  refine lv_iload_n hx hb dX8_append_26 rfl (lv_at hl 0 rfl) ?_
  refine lv_iushr hx hb dX8_append_27 rfl ?_
  refine lv_topi (fun z8 ez8 => ?_)
  refine lv_i2b hx hb dX8_append_28 rfl ?_
  refine lv_topi (fun z9 ez9 => ?_)
  obtain ⟨z10, ez10⟩ : ∃ y : Int32, y = vp_nar .byte z9 := ⟨_, rfl⟩
  refine va_bast hx hb hK hP hD hS 1 0 rfl rfl (i := 17) (zz_in (by decide)) dX8_append_29 (fun H locs hP hD hS => ?_)
  rw [← ez10] at hP hD
  have hP : va_P (dC, dI) vwCl [(h0, .inr (9, [.ref h1, .int 17, .int 0, .int 0, .int 0, .int 0, .int 0, .ref (ad 25), .long 0, .int 0, .long 0, .int 0, .int 0, .int 0, .int 0])), (h1, .inl (w0, 940, .inl (upd (upd f0 16 z5) 17 z10)))] H := hP
  have hD : va_D A [(h0, .inr (9, [.ref h1, .int 17, .int 0, .int 0, .int 0, .int 0, .int 0, .ref (ad 25), .long 0, .int 0, .long 0, .int 0, .int 0, .int 0, .int 0])), (h1, .inl (w0, 940, .inl (upd (upd f0 16 z5) 17 z10)))] := hD
  refine lv_aload_n hx hb dX8_append_30 rfl (lv_at hl 1 rfl) ?_
  refine lv_dup hx hb dX8_append_31 rfl ?_
  refine va_get (D := (dC, dI)) (ci := 9) (v := .int 17) (C := RX8) (T := TX8) (N := 15) hx hb hts ii_X8_append_X8 hown hK hP 0 rfl rfl 1 (by decide) (hts _ mm_X8_append_1) (fun _ h9 => h9) rfl dX8_append_32 ?_
  refine lv_iconst (v := 1) hx hb dX8_append_35 (by decide) ?_
  refine lv_iadd hx hb dX8_append_36 ?_
  refine zz_top (v := 18) (by decide) ?_
  refine va_put (D := (dC, dI)) (ci := 9) (v := .int 18) (ty := .int) (C := RX8) (T := TX8) (N := 15) hx hb hts ii_X8_append_X8 tyX8 tyX8_ok nmX8 hown hK hP hD hS 0 rfl rfl 1 (by decide) (hts _ mm_X8_append_1) (fun _ h9 => h9) rfl (by decide +kernel) rfl rfl (Nat.le_of_ble_eq_true rfl) dX8_append_37 (fun H locs hP hD hS => ?_)
  have hP : va_P (dC, dI) vwCl [(h0, .inr (9, [.ref h1, .int 18, .int 0, .int 0, .int 0, .int 0, .int 0, .ref (ad 25), .long 0, .int 0, .long 0, .int 0, .int 0, .int 0, .int 0])), (h1, .inl (w0, 940, .inl (upd (upd f0 16 z5) 17 z10)))] H := hP
  have hD : va_D A [(h0, .inr (9, [.ref h1, .int 18, .int 0, .int 0, .int 0, .int 0, .int 0, .ref (ad 25), .long 0, .int 0, .long 0, .int 0, .int 0, .int 0, .int 0])), (h1, .inl (w0, 940, .inl (upd (upd f0 16 z5) 17 z10)))] := hD
  refine lv_iinc (v := 8) (lv' := [(2, .int 8), (0, .ref h0), (1, .int p0)]) hx hb dX8_append_40 hl (k := 0) rfl (by decide) (by decide) rfl (fun ls hl => ?_)
  refine lv_goto (tgt := 3) hx hb dX8_append_43 (by decide) ?_
  refine lv_iload_n hx hb dX8_append_3 rfl (lv_at hl 0 rfl) ?_
  refine lv_if_lt (tgt := 46) hx hb dX8_append_4 (by decide) (fun c11 => absurd c11 (by decide)) (fun _ => ?_)
  refine lv_aload_n hx hb dX8_append_7 rfl (lv_at hl 1 rfl) ?_
  refine va_get (D := (dC, dI)) (ci := 9) (v := .int 18) (C := RX8) (T := TX8) (N := 15) hx hb hts ii_X8_append_X8 hown hK hP 0 rfl rfl 1 (by decide) (hts _ mm_X8_append_1) (fun _ h9 => h9) rfl dX8_append_8 ?_
  refine lv_sipush (v := 940) hx hb dX8_append_11 (by decide) ?_
  refine lv_icmp_ge (tgt := 46) hx hb dX8_append_14 (by decide) (fun c12 => absurd c12 (by decide)) (fun _ => ?_)
  refine lv_aload_n hx hb dX8_append_17 rfl (lv_at hl 1 rfl) ?_
  refine va_get (D := (dC, dI)) (ci := 9) (v := .ref h1) (C := RX8) (T := TX8) (N := 15) hx hb hts ii_X8_append_X8 hown hK hP 0 rfl rfl 0 (by decide) (hts _ mm_X8_append_2) (fun _ h9 => h9) rfl dX8_append_18 ?_
  refine lv_aload_n hx hb dX8_append_21 rfl (lv_at hl 1 rfl) ?_
  refine va_get (D := (dC, dI)) (ci := 9) (v := .int 18) (C := RX8) (T := TX8) (N := 15) hx hb hts ii_X8_append_X8 hown hK hP 0 rfl rfl 1 (by decide) (hts _ mm_X8_append_1) (fun _ h9 => h9) rfl dX8_append_22 ?_
  refine lv_iload_n hx hb dX8_append_25 rfl (lv_at hl 2 rfl) ?_
  refine lv_iload_n hx hb dX8_append_26 rfl (lv_at hl 0 rfl) ?_
  refine lv_iushr hx hb dX8_append_27 rfl ?_
  refine lv_topi (fun z13 ez13 => ?_)
  refine lv_i2b hx hb dX8_append_28 rfl ?_
  refine lv_topi (fun z14 ez14 => ?_)
  obtain ⟨z15, ez15⟩ : ∃ y : Int32, y = vp_nar .byte z14 := ⟨_, rfl⟩
  refine va_bast hx hb hK hP hD hS 1 0 rfl rfl (i := 18) (zz_in (by decide)) dX8_append_29 (fun H locs hP hD hS => ?_)
  rw [← ez15] at hP hD
  have hP : va_P (dC, dI) vwCl [(h0, .inr (9, [.ref h1, .int 18, .int 0, .int 0, .int 0, .int 0, .int 0, .ref (ad 25), .long 0, .int 0, .long 0, .int 0, .int 0, .int 0, .int 0])), (h1, .inl (w0, 940, .inl (upd (upd (upd f0 16 z5) 17 z10) 18 z15)))] H := hP
  have hD : va_D A [(h0, .inr (9, [.ref h1, .int 18, .int 0, .int 0, .int 0, .int 0, .int 0, .ref (ad 25), .long 0, .int 0, .long 0, .int 0, .int 0, .int 0, .int 0])), (h1, .inl (w0, 940, .inl (upd (upd (upd f0 16 z5) 17 z10) 18 z15)))] := hD
  refine lv_aload_n hx hb dX8_append_30 rfl (lv_at hl 1 rfl) ?_
  refine lv_dup hx hb dX8_append_31 rfl ?_
  refine va_get (D := (dC, dI)) (ci := 9) (v := .int 18) (C := RX8) (T := TX8) (N := 15) hx hb hts ii_X8_append_X8 hown hK hP 0 rfl rfl 1 (by decide) (hts _ mm_X8_append_1) (fun _ h9 => h9) rfl dX8_append_32 ?_
  refine lv_iconst (v := 1) hx hb dX8_append_35 (by decide) ?_
  refine lv_iadd hx hb dX8_append_36 ?_
  refine zz_top (v := 19) (by decide) ?_
  refine va_put (D := (dC, dI)) (ci := 9) (v := .int 19) (ty := .int) (C := RX8) (T := TX8) (N := 15) hx hb hts ii_X8_append_X8 tyX8 tyX8_ok nmX8 hown hK hP hD hS 0 rfl rfl 1 (by decide) (hts _ mm_X8_append_1) (fun _ h9 => h9) rfl (by decide +kernel) rfl rfl (Nat.le_of_ble_eq_true rfl) dX8_append_37 (fun H locs hP hD hS => ?_)
  have hP : va_P (dC, dI) vwCl [(h0, .inr (9, [.ref h1, .int 19, .int 0, .int 0, .int 0, .int 0, .int 0, .ref (ad 25), .long 0, .int 0, .long 0, .int 0, .int 0, .int 0, .int 0])), (h1, .inl (w0, 940, .inl (upd (upd (upd f0 16 z5) 17 z10) 18 z15)))] H := hP
  have hD : va_D A [(h0, .inr (9, [.ref h1, .int 19, .int 0, .int 0, .int 0, .int 0, .int 0, .ref (ad 25), .long 0, .int 0, .long 0, .int 0, .int 0, .int 0, .int 0])), (h1, .inl (w0, 940, .inl (upd (upd (upd f0 16 z5) 17 z10) 18 z15)))] := hD
  refine lv_iinc (v := 0) (lv' := [(2, .int 0), (0, .ref h0), (1, .int p0)]) hx hb dX8_append_40 hl (k := 0) rfl (by decide) (by decide) rfl (fun ls hl => ?_)
  refine lv_goto (tgt := 3) hx hb dX8_append_43 (by decide) ?_
  refine lv_iload_n hx hb dX8_append_3 rfl (lv_at hl 0 rfl) ?_
  refine lv_if_lt (tgt := 46) hx hb dX8_append_4 (by decide) (fun c16 => absurd c16 (by decide)) (fun _ => ?_)
  refine lv_aload_n hx hb dX8_append_7 rfl (lv_at hl 1 rfl) ?_
  refine va_get (D := (dC, dI)) (ci := 9) (v := .int 19) (C := RX8) (T := TX8) (N := 15) hx hb hts ii_X8_append_X8 hown hK hP 0 rfl rfl 1 (by decide) (hts _ mm_X8_append_1) (fun _ h9 => h9) rfl dX8_append_8 ?_
  refine lv_sipush (v := 940) hx hb dX8_append_11 (by decide) ?_
  refine lv_icmp_ge (tgt := 46) hx hb dX8_append_14 (by decide) (fun c17 => absurd c17 (by decide)) (fun _ => ?_)
  refine lv_aload_n hx hb dX8_append_17 rfl (lv_at hl 1 rfl) ?_
  refine va_get (D := (dC, dI)) (ci := 9) (v := .ref h1) (C := RX8) (T := TX8) (N := 15) hx hb hts ii_X8_append_X8 hown hK hP 0 rfl rfl 0 (by decide) (hts _ mm_X8_append_2) (fun _ h9 => h9) rfl dX8_append_18 ?_
  refine lv_aload_n hx hb dX8_append_21 rfl (lv_at hl 1 rfl) ?_
  refine va_get (D := (dC, dI)) (ci := 9) (v := .int 19) (C := RX8) (T := TX8) (N := 15) hx hb hts ii_X8_append_X8 hown hK hP 0 rfl rfl 1 (by decide) (hts _ mm_X8_append_1) (fun _ h9 => h9) rfl dX8_append_22 ?_
  refine lv_iload_n hx hb dX8_append_25 rfl (lv_at hl 2 rfl) ?_
  refine lv_iload_n hx hb dX8_append_26 rfl (lv_at hl 0 rfl) ?_
  refine lv_iushr hx hb dX8_append_27 rfl ?_
  refine lv_topi (fun z18 ez18 => ?_)
  refine lv_i2b hx hb dX8_append_28 rfl ?_
  refine lv_topi (fun z19 ez19 => ?_)
  obtain ⟨z20, ez20⟩ : ∃ y : Int32, y = vp_nar .byte z19 := ⟨_, rfl⟩
  refine va_bast hx hb hK hP hD hS 1 0 rfl rfl (i := 19) (zz_in (by decide)) dX8_append_29 (fun H locs hP hD hS => ?_)
  rw [← ez20] at hP hD
  have hP : va_P (dC, dI) vwCl [(h0, .inr (9, [.ref h1, .int 19, .int 0, .int 0, .int 0, .int 0, .int 0, .ref (ad 25), .long 0, .int 0, .long 0, .int 0, .int 0, .int 0, .int 0])), (h1, .inl (w0, 940, .inl (upd (upd (upd (upd f0 16 z5) 17 z10) 18 z15) 19 z20)))] H := hP
  have hD : va_D A [(h0, .inr (9, [.ref h1, .int 19, .int 0, .int 0, .int 0, .int 0, .int 0, .ref (ad 25), .long 0, .int 0, .long 0, .int 0, .int 0, .int 0, .int 0])), (h1, .inl (w0, 940, .inl (upd (upd (upd (upd f0 16 z5) 17 z10) 18 z15) 19 z20)))] := hD
  refine lv_aload_n hx hb dX8_append_30 rfl (lv_at hl 1 rfl) ?_
  refine lv_dup hx hb dX8_append_31 rfl ?_
  refine va_get (D := (dC, dI)) (ci := 9) (v := .int 19) (C := RX8) (T := TX8) (N := 15) hx hb hts ii_X8_append_X8 hown hK hP 0 rfl rfl 1 (by decide) (hts _ mm_X8_append_1) (fun _ h9 => h9) rfl dX8_append_32 ?_
  refine lv_iconst (v := 1) hx hb dX8_append_35 (by decide) ?_
  refine lv_iadd hx hb dX8_append_36 ?_
  refine zz_top (v := 20) (by decide) ?_
  refine va_put (D := (dC, dI)) (ci := 9) (v := .int 20) (ty := .int) (C := RX8) (T := TX8) (N := 15) hx hb hts ii_X8_append_X8 tyX8 tyX8_ok nmX8 hown hK hP hD hS 0 rfl rfl 1 (by decide) (hts _ mm_X8_append_1) (fun _ h9 => h9) rfl (by decide +kernel) rfl rfl (Nat.le_of_ble_eq_true rfl) dX8_append_37 (fun H locs hP hD hS => ?_)
  have hP : va_P (dC, dI) vwCl [(h0, .inr (9, [.ref h1, .int 20, .int 0, .int 0, .int 0, .int 0, .int 0, .ref (ad 25), .long 0, .int 0, .long 0, .int 0, .int 0, .int 0, .int 0])), (h1, .inl (w0, 940, .inl (upd (upd (upd (upd f0 16 z5) 17 z10) 18 z15) 19 z20)))] H := hP
  have hD : va_D A [(h0, .inr (9, [.ref h1, .int 20, .int 0, .int 0, .int 0, .int 0, .int 0, .ref (ad 25), .long 0, .int 0, .long 0, .int 0, .int 0, .int 0, .int 0])), (h1, .inl (w0, 940, .inl (upd (upd (upd (upd f0 16 z5) 17 z10) 18 z15) 19 z20)))] := hD
  refine lv_iinc (v := (-8)) (lv' := [(2, .int (-8)), (0, .ref h0), (1, .int p0)]) hx hb dX8_append_40 hl (k := 0) rfl (by decide) (by decide) rfl (fun ls hl => ?_)
  refine lv_goto (tgt := 3) hx hb dX8_append_43 (by decide) ?_
  refine lv_iload_n hx hb dX8_append_3 rfl (lv_at hl 0 rfl) ?_
  refine lv_if_lt (tgt := 46) hx hb dX8_append_4 (by decide) (fun _ => ?_) (fun c21 => absurd (by decide) c21)
  have hP9 := hP.sub (ws' := [(h0, .inr (9, [.ref h1, .int 20, .int 0, .int 0, .int 0, .int 0, .int 0, .ref (ad 25), .long 0, .int 0, .long 0, .int 0, .int 0, .int 0, .int 0])), (h1, .inl (w0, 940, .inl (upd (upd (upd (upd f0 16 z5) 17 z10) 18 z15) 19 z20)))]) [0, 1] rfl
  have hD9 := hD.sub (ws' := [(h0, .inr (9, [.ref h1, .int 20, .int 0, .int 0, .int 0, .int 0, .int 0, .ref (ad 25), .long 0, .int 0, .long 0, .int 0, .int 0, .int 0, .int 0])), (h1, .inl (w0, 940, .inl (upd (upd (upd (upd f0 16 z5) 17 z10) 18 z15) 19 z20)))]) [0, 1] (by decide) rfl
  have hK9 := hK.sub (tys' := []) [] rfl
  refine W.widen (k := 0) (n := 0) (Nat.le_of_ble_eq_true rfl) (Nat.le_of_ble_eq_true rfl) ?_
  exact W.vret hx hb hr (fun t ht hW => ⟨⟨(), rfl, trivial, (upd (upd (upd (upd f0 16 z5) 17 z10) 18 z15) 19 z20), by rw [ht]; exact hP9, va_K.moved hW.alike hK9, hD9⟩, hS.F ht⟩) hS.2.2 dX8_append_46
set_option maxHeartbeats 4000000 in
set_option maxRecDepth 100000 in
theorem k_X11_feed (l : Launch) (dC : Nat → ClassId) (dI : Nat → Nat → Nat) (ad : Nat → Nat) (h0 h1 h2 h3 h4 h5 h6 h7 h8 h9 h10 h11 h12 h13 h14 h15 h16 : Nat) (p0 p1 p2 p3 p4 : Int32) (w0 : ClassId) (sz : Nat) : Met l yX11_feed wsX11_feed ({ frames := 1, cells := 0, slots := 0, locals := 22 }) (va_Pc [.ref h0, .int p0, .int p1, .int p2, .int p3, .int p4] (CP (dC, dI) [(h0, .inr (10, [.ref h1, .ref h2, .ref h3, .ref h4, .ref h5, .ref h6, .ref h7, .ref h8, .ref h9, .ref h10, .ref h11, .ref h12, .ref h13, .ref h14, .ref h15, .int (-1), .int 0, .int (-1), .int (-1)])), (h1, .inr (9, [.ref h16, .int 0, .int 0, .int 0, .int 0, .int 0, .int 0, .ref (ad 25), .long 0, .int 0, .long 0, .int 0, .int 0, .int 0, .int 0])), (h16, .inl (w0, 940, .inl (fun _ => 0)))] [(w0, .byte)] sz ad)) (va_Qi (fun (r : Int32) (_ : Unit) => r = 20) (fun (_ : Unit) (t : State) => CQ (dC, dI) [] [] (va_A [(h0, .inr (10, [.ref h1, .ref h2, .ref h3, .ref h4, .ref h5, .ref h6, .ref h7, .ref h8, .ref h9, .ref h10, .ref h11, .ref h12, .ref h13, .ref h14, .ref h15, .int (-1), .int 0, .int (-1), .int (-1)])), (h1, .inr (9, [.ref h16, .int 0, .int 0, .int 0, .int 0, .int 0, .int 0, .ref (ad 25), .long 0, .int 0, .long 0, .int 0, .int 0, .int 0, .int 0])), (h16, .inl (w0, 940, .inl (fun _ => 0)))] sz) t) (va_A [(h0, .inr (10, [.ref h1, .ref h2, .ref h3, .ref h4, .ref h5, .ref h6, .ref h7, .ref h8, .ref h9, .ref h10, .ref h11, .ref h12, .ref h13, .ref h14, .ref h15, .int (-1), .int 0, .int (-1), .int (-1)])), (h1, .inr (9, [.ref h16, .int 0, .int 0, .int 0, .int 0, .int 0, .int 0, .ref (ad 25), .long 0, .int 0, .long 0, .int 0, .int 0, .int 0, .int 0])), (h16, .inl (w0, 940, .inl (fun _ => 0)))] sz)) 0 0 (va_A [(h0, .inr (10, [.ref h1, .ref h2, .ref h3, .ref h4, .ref h5, .ref h6, .ref h7, .ref h8, .ref h9, .ref h10, .ref h11, .ref h12, .ref h13, .ref h14, .ref h15, .int (-1), .int 0, .int (-1), .int (-1)])), (h1, .inr (9, [.ref h16, .int 0, .int 0, .int 0, .int 0, .int 0, .int 0, .ref (ad 25), .long 0, .int 0, .long 0, .int 0, .int 0, .int 0, .int 0])), (h16, .inl (w0, 940, .inl (fun _ => 0)))] sz) := by
  refine Met.ofW (cc := cX11_feed) (maxL := 6) (ret := (some .int)) (by decide) rfl ?_
  intro p e s m args below meth c s₁ B hml hv
  obtain ⟨rfl, hsz, hP, hK, hD0, hE⟩ := hv
  have hx := B.exec
  have hb := B.bytes
  have hr := B.returns
  have hts := atoms_spec (ws := wsX11_feed) B.pre
  have hown : s.vm.findClass RX11 = some m.cls := findClass_of_methodNamed B.named
  have hlocks := B.notSynchronized
  subst hsz
  have hD := hD0.self (sz := s.heap.size)
  generalize hAe : va_A [(h0, .inr (10, [.ref h1, .ref h2, .ref h3, .ref h4, .ref h5, .ref h6, .ref h7, .ref h8, .ref h9, .ref h10, .ref h11, .ref h12, .ref h13, .ref h14, .ref h15, .int (-1), .int 0, .int (-1), .int (-1)])), (h1, .inr (9, [.ref h16, .int 0, .int 0, .int 0, .int 0, .int 0, .int 0, .ref (ad 25), .long 0, .int 0, .long 0, .int 0, .int 0, .int 0, .int 0])), (h16, .inl (w0, 940, .inl (fun _ => 0)))] s.heap.size = A at hD hE ⊢
  have hA : ∀ q : Nat, s.heap.size ≤ q → A q := fun q h => by rw [← hAe]; exact Or.inr h
  have hS : va_S A s.heap s.heap [] := va_S.rf
  have hl := lv_entry ([.ref h0, .int p0, .int p1, .int p2, .int p3, .int p4]) (n := 6) (Nat.le_of_ble_eq_true rfl)
  rw [lg_entry_eq]
  generalize (lg_sl ([.ref h0, .int p0, .int p1, .int p2, .int p3, .int p4]) ++ List.replicate (6 - (lg_sl ([.ref h0, .int p0, .int p1, .int p2, .int p3, .int p4])).length) Slot.unset).toArray = ls at hl ⊢
  have hl : lv_has ls 6 [(0, .ref h0), (1, .int p0), (2, .int p1), (3, .int p2), (4, .int p3), (5, .int p4)] := hl
  refine lv_aload_n hx hb dX11_feed_0 rfl (lv_at hl 0 rfl) ?_
  refine va_get (D := (dC, dI)) (ci := 10) (v := .ref h1) (C := RX11) (T := TX11) (N := 19) hx hb hts ii_X11_feed_X11 hown hK hP 0 rfl rfl 0 (by decide) (hts _ mm_X11_feed_1) (fun _ h9 => h9) rfl dX11_feed_1 ?_
  refine va_getN (host := "OffTheLead") (D := (dC, dI)) (ci := 9) (v := .int 0) (C := RX8) (T := TX8) (N := 15) hx hb hts ii_X11_feed_X8 hown hK hP 1 rfl rfl 1 (by decide) (va_Nw.use rfl (nf_X11_100 hE)) (fun _ h9 => h9) rfl dX11_feed_4 ?_
  refine lv_bipush (v := 20) hx hb dX11_feed_7 (by decide) ?_
  refine lv_iadd hx hb dX11_feed_9 ?_
  refine zz_top (v := 20) (by decide) ?_
  refine lv_sipush (v := 940) hx hb dX11_feed_10 (by decide) ?_
  refine lv_icmp_le (tgt := 18) hx hb dX11_feed_13 (by decide) (fun _ => ?_) (fun c1 => absurd (by decide) c1)
  refine lv_aload_n hx hb dX11_feed_18 rfl (lv_at hl 0 rfl) ?_
  refine va_get (D := (dC, dI)) (ci := 10) (v := .ref h1) (C := RX11) (T := TX11) (N := 19) hx hb hts ii_X11_feed_X11 hown hK hP 0 rfl rfl 0 (by decide) (hts _ mm_X11_feed_1) (fun _ h9 => h9) rfl dX11_feed_19 ?_
  refine lv_iload_n hx hb dX11_feed_22 rfl (lv_at hl 1 rfl) ?_
  have hPc := hP.sub (ws' := [(h1, .inr (9, [.ref h16, .int 0, .int 0, .int 0, .int 0, .int 0, .int 0, .ref (ad 25), .long 0, .int 0, .long 0, .int 0, .int 0, .int 0, .int 0])), (h16, .inl (w0, 940, .inl (fun _ => 0)))]) [1, 2] rfl
  have hDc := hD.sub (ws' := [(h1, .inr (9, [.ref h16, .int 0, .int 0, .int 0, .int 0, .int 0, .int 0, .ref (ad 25), .long 0, .int 0, .long 0, .int 0, .int 0, .int 0, .int 0])), (h16, .inl (w0, 940, .inl (fun _ => 0)))]) [1, 2] (by decide) rfl
  have hKc := hK.sub (tys' := [(w0, .byte)]) [0] rfl
  have hFc := va_free (wc := [(h1, .inr (9, [.ref h16, .int 0, .int 0, .int 0, .int 0, .int 0, .int 0, .ref (ad 25), .long 0, .int 0, .long 0, .int 0, .int 0, .int 0, .int 0])), (h16, .inl (w0, 940, .inl (fun _ => 0)))]) hD hS hA [1, 2] rfl
  refine va_callv (va_runV (As := [.int p0]) (rest := []) ⟨hx, hb, hml, hown, hts⟩ (k_X8_append l dC dI ad h1 h16 p0 w0 s.heap.size) (cwV 1 hts gX11_feed_X8_append rfl rfl rfl (by decide +kernel) ⟨Nat.le_of_ble_eq_true rfl, Nat.le_of_ble_eq_true rfl⟩) ⟨fun a U g mk q => ⟨q.1, CP.blind q.2⟩, va_recv hKc hPc (ci := 9) (q0 := 0) rfl rfl, fun U hU hW => ⟨rfl, CP.of hPc hKc hDc hE hS hFc hU hW⟩⟩ rfl rfl hl.1 rfl (lv_room (Nat.le_of_ble_eq_true rfl)) dX11_feed_23 ⟨Nat.le_of_ble_eq_true rfl, Nat.le_of_ble_eq_true rfl⟩) hS (fun q _ h => hFc q h) hFc (fun u t H1 locs ht hvm hw hB hz1 hk1 hS => ?_)
  obtain ⟨f2, hP1, hK1, hD1⟩ := hB
  rw [ht] at hP1
  obtain ⟨hP, hD⟩ := va_join (wr := [(h0, .inr (10, [.ref h1, .ref h2, .ref h3, .ref h4, .ref h5, .ref h6, .ref h7, .ref h8, .ref h9, .ref h10, .ref h11, .ref h12, .ref h13, .ref h14, .ref h15, .int (-1), .int 0, .int (-1), .int (-1)]))]) (w1 := [(h1, .inr (9, [.ref h16, .int 4, .int 0, .int 0, .int 0, .int 0, .int 0, .ref (ad 25), .long 0, .int 0, .long 0, .int 0, .int 0, .int 0, .int 0])), (h16, .inl (w0, 940, .inl f2))]) hP hD [1, 2] [0] rfl rfl (by decide) (by decide) hk1 hFc hP1 hD1
  generalize H1 = H at hP hS ⊢
  clear hPc hDc hKc hFc hP1 hD1 hK1 hk1 hz1
  have hP : va_P (dC, dI) vwCl [(h0, .inr (10, [.ref h1, .ref h2, .ref h3, .ref h4, .ref h5, .ref h6, .ref h7, .ref h8, .ref h9, .ref h10, .ref h11, .ref h12, .ref h13, .ref h14, .ref h15, .int (-1), .int 0, .int (-1), .int (-1)])), (h1, .inr (9, [.ref h16, .int 4, .int 0, .int 0, .int 0, .int 0, .int 0, .ref (ad 25), .long 0, .int 0, .long 0, .int 0, .int 0, .int 0, .int 0])), (h16, .inl (w0, 940, .inl f2))] H := hP
  have hD : va_D A [(h0, .inr (10, [.ref h1, .ref h2, .ref h3, .ref h4, .ref h5, .ref h6, .ref h7, .ref h8, .ref h9, .ref h10, .ref h11, .ref h12, .ref h13, .ref h14, .ref h15, .int (-1), .int 0, .int (-1), .int (-1)])), (h1, .inr (9, [.ref h16, .int 4, .int 0, .int 0, .int 0, .int 0, .int 0, .ref (ad 25), .long 0, .int 0, .long 0, .int 0, .int 0, .int 0, .int 0])), (h16, .inl (w0, 940, .inl f2))] := hD
  refine lv_aload_n hx hb dX11_feed_26 rfl (lv_at hl 0 rfl) ?_
  refine va_get (D := (dC, dI)) (ci := 10) (v := .ref h1) (C := RX11) (T := TX11) (N := 19) hx hb hts ii_X11_feed_X11 hown hK hP 0 rfl rfl 0 (by decide) (hts _ mm_X11_feed_1) (fun _ h9 => h9) rfl dX11_feed_27 ?_
  refine lv_iload_n hx hb dX11_feed_30 rfl (lv_at hl 2 rfl) ?_
  have hPc := hP.sub (ws' := [(h1, .inr (9, [.ref h16, .int 4, .int 0, .int 0, .int 0, .int 0, .int 0, .ref (ad 25), .long 0, .int 0, .long 0, .int 0, .int 0, .int 0, .int 0])), (h16, .inl (w0, 940, .inl f2))]) [1, 2] rfl
  have hDc := hD.sub (ws' := [(h1, .inr (9, [.ref h16, .int 4, .int 0, .int 0, .int 0, .int 0, .int 0, .ref (ad 25), .long 0, .int 0, .long 0, .int 0, .int 0, .int 0, .int 0])), (h16, .inl (w0, 940, .inl f2))]) [1, 2] (by decide) rfl
  have hKc := hK.sub (tys' := [(w0, .byte)]) [0] rfl
  have hFc := va_free (wc := [(h1, .inr (9, [.ref h16, .int 4, .int 0, .int 0, .int 0, .int 0, .int 0, .ref (ad 25), .long 0, .int 0, .long 0, .int 0, .int 0, .int 0, .int 0])), (h16, .inl (w0, 940, .inl f2))]) hD hS hA [1, 2] rfl
  refine va_callv (va_runV (As := [.int p1]) (rest := []) ⟨hx, hb, hml, hown, hts⟩ (k_X8_append_1 l dC dI ad h1 h16 p1 f2 w0 H.size) (cwV 1 hts gX11_feed_X8_append rfl rfl rfl (by decide +kernel) ⟨Nat.le_of_ble_eq_true rfl, Nat.le_of_ble_eq_true rfl⟩) ⟨fun a U g mk q => ⟨q.1, CP.blind q.2⟩, va_recv hKc hPc (ci := 9) (q0 := 0) rfl rfl, fun U hU hW => ⟨rfl, CP.of hPc hKc hDc hE hS hFc hU hW⟩⟩ rfl rfl hl.1 rfl (lv_room (Nat.le_of_ble_eq_true rfl)) dX11_feed_31 ⟨Nat.le_of_ble_eq_true rfl, Nat.le_of_ble_eq_true rfl⟩) hS (fun q _ h => hFc q h) hFc (fun u t H1 locs ht hvm hw hB hz1 hk1 hS => ?_)
  obtain ⟨f3, hP1, hK1, hD1⟩ := hB
  rw [ht] at hP1
  obtain ⟨hP, hD⟩ := va_join (wr := [(h0, .inr (10, [.ref h1, .ref h2, .ref h3, .ref h4, .ref h5, .ref h6, .ref h7, .ref h8, .ref h9, .ref h10, .ref h11, .ref h12, .ref h13, .ref h14, .ref h15, .int (-1), .int 0, .int (-1), .int (-1)]))]) (w1 := [(h1, .inr (9, [.ref h16, .int 8, .int 0, .int 0, .int 0, .int 0, .int 0, .ref (ad 25), .long 0, .int 0, .long 0, .int 0, .int 0, .int 0, .int 0])), (h16, .inl (w0, 940, .inl f3))]) hP hD [1, 2] [0] rfl rfl (by decide) (by decide) hk1 hFc hP1 hD1
  generalize H1 = H at hP hS ⊢
  clear hPc hDc hKc hFc hP1 hD1 hK1 hk1 hz1
  have hP : va_P (dC, dI) vwCl [(h0, .inr (10, [.ref h1, .ref h2, .ref h3, .ref h4, .ref h5, .ref h6, .ref h7, .ref h8, .ref h9, .ref h10, .ref h11, .ref h12, .ref h13, .ref h14, .ref h15, .int (-1), .int 0, .int (-1), .int (-1)])), (h1, .inr (9, [.ref h16, .int 8, .int 0, .int 0, .int 0, .int 0, .int 0, .ref (ad 25), .long 0, .int 0, .long 0, .int 0, .int 0, .int 0, .int 0])), (h16, .inl (w0, 940, .inl f3))] H := hP
  have hD : va_D A [(h0, .inr (10, [.ref h1, .ref h2, .ref h3, .ref h4, .ref h5, .ref h6, .ref h7, .ref h8, .ref h9, .ref h10, .ref h11, .ref h12, .ref h13, .ref h14, .ref h15, .int (-1), .int 0, .int (-1), .int (-1)])), (h1, .inr (9, [.ref h16, .int 8, .int 0, .int 0, .int 0, .int 0, .int 0, .ref (ad 25), .long 0, .int 0, .long 0, .int 0, .int 0, .int 0, .int 0])), (h16, .inl (w0, 940, .inl f3))] := hD
  refine lv_aload_n hx hb dX11_feed_34 rfl (lv_at hl 0 rfl) ?_
  refine va_get (D := (dC, dI)) (ci := 10) (v := .ref h1) (C := RX11) (T := TX11) (N := 19) hx hb hts ii_X11_feed_X11 hown hK hP 0 rfl rfl 0 (by decide) (hts _ mm_X11_feed_1) (fun _ h9 => h9) rfl dX11_feed_35 ?_
  refine lv_iload_n hx hb dX11_feed_38 rfl (lv_at hl 3 rfl) ?_
  have hPc := hP.sub (ws' := [(h1, .inr (9, [.ref h16, .int 8, .int 0, .int 0, .int 0, .int 0, .int 0, .ref (ad 25), .long 0, .int 0, .long 0, .int 0, .int 0, .int 0, .int 0])), (h16, .inl (w0, 940, .inl f3))]) [1, 2] rfl
  have hDc := hD.sub (ws' := [(h1, .inr (9, [.ref h16, .int 8, .int 0, .int 0, .int 0, .int 0, .int 0, .ref (ad 25), .long 0, .int 0, .long 0, .int 0, .int 0, .int 0, .int 0])), (h16, .inl (w0, 940, .inl f3))]) [1, 2] (by decide) rfl
  have hKc := hK.sub (tys' := [(w0, .byte)]) [0] rfl
  have hFc := va_free (wc := [(h1, .inr (9, [.ref h16, .int 8, .int 0, .int 0, .int 0, .int 0, .int 0, .ref (ad 25), .long 0, .int 0, .long 0, .int 0, .int 0, .int 0, .int 0])), (h16, .inl (w0, 940, .inl f3))]) hD hS hA [1, 2] rfl
  refine va_callv (va_runV (As := [.int p2]) (rest := []) ⟨hx, hb, hml, hown, hts⟩ (k_X8_append_2 l dC dI ad h1 h16 p2 f3 w0 H.size) (cwV 1 hts gX11_feed_X8_append rfl rfl rfl (by decide +kernel) ⟨Nat.le_of_ble_eq_true rfl, Nat.le_of_ble_eq_true rfl⟩) ⟨fun a U g mk q => ⟨q.1, CP.blind q.2⟩, va_recv hKc hPc (ci := 9) (q0 := 0) rfl rfl, fun U hU hW => ⟨rfl, CP.of hPc hKc hDc hE hS hFc hU hW⟩⟩ rfl rfl hl.1 rfl (lv_room (Nat.le_of_ble_eq_true rfl)) dX11_feed_39 ⟨Nat.le_of_ble_eq_true rfl, Nat.le_of_ble_eq_true rfl⟩) hS (fun q _ h => hFc q h) hFc (fun u t H1 locs ht hvm hw hB hz1 hk1 hS => ?_)
  obtain ⟨f4, hP1, hK1, hD1⟩ := hB
  rw [ht] at hP1
  obtain ⟨hP, hD⟩ := va_join (wr := [(h0, .inr (10, [.ref h1, .ref h2, .ref h3, .ref h4, .ref h5, .ref h6, .ref h7, .ref h8, .ref h9, .ref h10, .ref h11, .ref h12, .ref h13, .ref h14, .ref h15, .int (-1), .int 0, .int (-1), .int (-1)]))]) (w1 := [(h1, .inr (9, [.ref h16, .int 12, .int 0, .int 0, .int 0, .int 0, .int 0, .ref (ad 25), .long 0, .int 0, .long 0, .int 0, .int 0, .int 0, .int 0])), (h16, .inl (w0, 940, .inl f4))]) hP hD [1, 2] [0] rfl rfl (by decide) (by decide) hk1 hFc hP1 hD1
  generalize H1 = H at hP hS ⊢
  clear hPc hDc hKc hFc hP1 hD1 hK1 hk1 hz1
  have hP : va_P (dC, dI) vwCl [(h0, .inr (10, [.ref h1, .ref h2, .ref h3, .ref h4, .ref h5, .ref h6, .ref h7, .ref h8, .ref h9, .ref h10, .ref h11, .ref h12, .ref h13, .ref h14, .ref h15, .int (-1), .int 0, .int (-1), .int (-1)])), (h1, .inr (9, [.ref h16, .int 12, .int 0, .int 0, .int 0, .int 0, .int 0, .ref (ad 25), .long 0, .int 0, .long 0, .int 0, .int 0, .int 0, .int 0])), (h16, .inl (w0, 940, .inl f4))] H := hP
  have hD : va_D A [(h0, .inr (10, [.ref h1, .ref h2, .ref h3, .ref h4, .ref h5, .ref h6, .ref h7, .ref h8, .ref h9, .ref h10, .ref h11, .ref h12, .ref h13, .ref h14, .ref h15, .int (-1), .int 0, .int (-1), .int (-1)])), (h1, .inr (9, [.ref h16, .int 12, .int 0, .int 0, .int 0, .int 0, .int 0, .ref (ad 25), .long 0, .int 0, .long 0, .int 0, .int 0, .int 0, .int 0])), (h16, .inl (w0, 940, .inl f4))] := hD
  refine lv_aload_n hx hb dX11_feed_42 rfl (lv_at hl 0 rfl) ?_
  refine va_get (D := (dC, dI)) (ci := 10) (v := .ref h1) (C := RX11) (T := TX11) (N := 19) hx hb hts ii_X11_feed_X11 hown hK hP 0 rfl rfl 0 (by decide) (hts _ mm_X11_feed_1) (fun _ h9 => h9) rfl dX11_feed_43 ?_
  refine lv_iload hx hb dX11_feed_46 (lv_at hl 4 rfl) ?_
  have hPc := hP.sub (ws' := [(h1, .inr (9, [.ref h16, .int 12, .int 0, .int 0, .int 0, .int 0, .int 0, .ref (ad 25), .long 0, .int 0, .long 0, .int 0, .int 0, .int 0, .int 0])), (h16, .inl (w0, 940, .inl f4))]) [1, 2] rfl
  have hDc := hD.sub (ws' := [(h1, .inr (9, [.ref h16, .int 12, .int 0, .int 0, .int 0, .int 0, .int 0, .ref (ad 25), .long 0, .int 0, .long 0, .int 0, .int 0, .int 0, .int 0])), (h16, .inl (w0, 940, .inl f4))]) [1, 2] (by decide) rfl
  have hKc := hK.sub (tys' := [(w0, .byte)]) [0] rfl
  have hFc := va_free (wc := [(h1, .inr (9, [.ref h16, .int 12, .int 0, .int 0, .int 0, .int 0, .int 0, .ref (ad 25), .long 0, .int 0, .long 0, .int 0, .int 0, .int 0, .int 0])), (h16, .inl (w0, 940, .inl f4))]) hD hS hA [1, 2] rfl
  refine va_callv (va_runV (As := [.int p3]) (rest := []) ⟨hx, hb, hml, hown, hts⟩ (k_X8_append_3 l dC dI ad h1 h16 p3 f4 w0 H.size) (cwV 1 hts gX11_feed_X8_append rfl rfl rfl (by decide +kernel) ⟨Nat.le_of_ble_eq_true rfl, Nat.le_of_ble_eq_true rfl⟩) ⟨fun a U g mk q => ⟨q.1, CP.blind q.2⟩, va_recv hKc hPc (ci := 9) (q0 := 0) rfl rfl, fun U hU hW => ⟨rfl, CP.of hPc hKc hDc hE hS hFc hU hW⟩⟩ rfl rfl hl.1 rfl (lv_room (Nat.le_of_ble_eq_true rfl)) dX11_feed_48 ⟨Nat.le_of_ble_eq_true rfl, Nat.le_of_ble_eq_true rfl⟩) hS (fun q _ h => hFc q h) hFc (fun u t H1 locs ht hvm hw hB hz1 hk1 hS => ?_)
  obtain ⟨f5, hP1, hK1, hD1⟩ := hB
  rw [ht] at hP1
  obtain ⟨hP, hD⟩ := va_join (wr := [(h0, .inr (10, [.ref h1, .ref h2, .ref h3, .ref h4, .ref h5, .ref h6, .ref h7, .ref h8, .ref h9, .ref h10, .ref h11, .ref h12, .ref h13, .ref h14, .ref h15, .int (-1), .int 0, .int (-1), .int (-1)]))]) (w1 := [(h1, .inr (9, [.ref h16, .int 16, .int 0, .int 0, .int 0, .int 0, .int 0, .ref (ad 25), .long 0, .int 0, .long 0, .int 0, .int 0, .int 0, .int 0])), (h16, .inl (w0, 940, .inl f5))]) hP hD [1, 2] [0] rfl rfl (by decide) (by decide) hk1 hFc hP1 hD1
  generalize H1 = H at hP hS ⊢
  clear hPc hDc hKc hFc hP1 hD1 hK1 hk1 hz1
  have hP : va_P (dC, dI) vwCl [(h0, .inr (10, [.ref h1, .ref h2, .ref h3, .ref h4, .ref h5, .ref h6, .ref h7, .ref h8, .ref h9, .ref h10, .ref h11, .ref h12, .ref h13, .ref h14, .ref h15, .int (-1), .int 0, .int (-1), .int (-1)])), (h1, .inr (9, [.ref h16, .int 16, .int 0, .int 0, .int 0, .int 0, .int 0, .ref (ad 25), .long 0, .int 0, .long 0, .int 0, .int 0, .int 0, .int 0])), (h16, .inl (w0, 940, .inl f5))] H := hP
  have hD : va_D A [(h0, .inr (10, [.ref h1, .ref h2, .ref h3, .ref h4, .ref h5, .ref h6, .ref h7, .ref h8, .ref h9, .ref h10, .ref h11, .ref h12, .ref h13, .ref h14, .ref h15, .int (-1), .int 0, .int (-1), .int (-1)])), (h1, .inr (9, [.ref h16, .int 16, .int 0, .int 0, .int 0, .int 0, .int 0, .ref (ad 25), .long 0, .int 0, .long 0, .int 0, .int 0, .int 0, .int 0])), (h16, .inl (w0, 940, .inl f5))] := hD
  refine lv_aload_n hx hb dX11_feed_51 rfl (lv_at hl 0 rfl) ?_
  refine va_get (D := (dC, dI)) (ci := 10) (v := .ref h1) (C := RX11) (T := TX11) (N := 19) hx hb hts ii_X11_feed_X11 hown hK hP 0 rfl rfl 0 (by decide) (hts _ mm_X11_feed_1) (fun _ h9 => h9) rfl dX11_feed_52 ?_
  refine lv_iload hx hb dX11_feed_55 (lv_at hl 5 rfl) ?_
  have hPc := hP.sub (ws' := [(h1, .inr (9, [.ref h16, .int 16, .int 0, .int 0, .int 0, .int 0, .int 0, .ref (ad 25), .long 0, .int 0, .long 0, .int 0, .int 0, .int 0, .int 0])), (h16, .inl (w0, 940, .inl f5))]) [1, 2] rfl
  have hDc := hD.sub (ws' := [(h1, .inr (9, [.ref h16, .int 16, .int 0, .int 0, .int 0, .int 0, .int 0, .ref (ad 25), .long 0, .int 0, .long 0, .int 0, .int 0, .int 0, .int 0])), (h16, .inl (w0, 940, .inl f5))]) [1, 2] (by decide) rfl
  have hKc := hK.sub (tys' := [(w0, .byte)]) [0] rfl
  have hFc := va_free (wc := [(h1, .inr (9, [.ref h16, .int 16, .int 0, .int 0, .int 0, .int 0, .int 0, .ref (ad 25), .long 0, .int 0, .long 0, .int 0, .int 0, .int 0, .int 0])), (h16, .inl (w0, 940, .inl f5))]) hD hS hA [1, 2] rfl
  refine va_callv (va_runV (As := [.int p4]) (rest := []) ⟨hx, hb, hml, hown, hts⟩ (k_X8_append_4 l dC dI ad h1 h16 p4 f5 w0 H.size) (cwV 1 hts gX11_feed_X8_append rfl rfl rfl (by decide +kernel) ⟨Nat.le_of_ble_eq_true rfl, Nat.le_of_ble_eq_true rfl⟩) ⟨fun a U g mk q => ⟨q.1, CP.blind q.2⟩, va_recv hKc hPc (ci := 9) (q0 := 0) rfl rfl, fun U hU hW => ⟨rfl, CP.of hPc hKc hDc hE hS hFc hU hW⟩⟩ rfl rfl hl.1 rfl (lv_room (Nat.le_of_ble_eq_true rfl)) dX11_feed_57 ⟨Nat.le_of_ble_eq_true rfl, Nat.le_of_ble_eq_true rfl⟩) hS (fun q _ h => hFc q h) hFc (fun u t H1 locs ht hvm hw hB hz1 hk1 hS => ?_)
  obtain ⟨f6, hP1, hK1, hD1⟩ := hB
  rw [ht] at hP1
  obtain ⟨hP, hD⟩ := va_join (wr := [(h0, .inr (10, [.ref h1, .ref h2, .ref h3, .ref h4, .ref h5, .ref h6, .ref h7, .ref h8, .ref h9, .ref h10, .ref h11, .ref h12, .ref h13, .ref h14, .ref h15, .int (-1), .int 0, .int (-1), .int (-1)]))]) (w1 := [(h1, .inr (9, [.ref h16, .int 20, .int 0, .int 0, .int 0, .int 0, .int 0, .ref (ad 25), .long 0, .int 0, .long 0, .int 0, .int 0, .int 0, .int 0])), (h16, .inl (w0, 940, .inl f6))]) hP hD [1, 2] [0] rfl rfl (by decide) (by decide) hk1 hFc hP1 hD1
  generalize H1 = H at hP hS ⊢
  clear hPc hDc hKc hFc hP1 hD1 hK1 hk1 hz1
  have hP : va_P (dC, dI) vwCl [(h0, .inr (10, [.ref h1, .ref h2, .ref h3, .ref h4, .ref h5, .ref h6, .ref h7, .ref h8, .ref h9, .ref h10, .ref h11, .ref h12, .ref h13, .ref h14, .ref h15, .int (-1), .int 0, .int (-1), .int (-1)])), (h1, .inr (9, [.ref h16, .int 20, .int 0, .int 0, .int 0, .int 0, .int 0, .ref (ad 25), .long 0, .int 0, .long 0, .int 0, .int 0, .int 0, .int 0])), (h16, .inl (w0, 940, .inl f6))] H := hP
  have hD : va_D A [(h0, .inr (10, [.ref h1, .ref h2, .ref h3, .ref h4, .ref h5, .ref h6, .ref h7, .ref h8, .ref h9, .ref h10, .ref h11, .ref h12, .ref h13, .ref h14, .ref h15, .int (-1), .int 0, .int (-1), .int (-1)])), (h1, .inr (9, [.ref h16, .int 20, .int 0, .int 0, .int 0, .int 0, .int 0, .ref (ad 25), .long 0, .int 0, .long 0, .int 0, .int 0, .int 0, .int 0])), (h16, .inl (w0, 940, .inl f6))] := hD
  refine lv_aload_n hx hb dX11_feed_60 rfl (lv_at hl 0 rfl) ?_
  refine va_get (D := (dC, dI)) (ci := 10) (v := .ref h1) (C := RX11) (T := TX11) (N := 19) hx hb hts ii_X11_feed_X11 hown hK hP 0 rfl rfl 0 (by decide) (hts _ mm_X11_feed_1) (fun _ h9 => h9) rfl dX11_feed_61 ?_
  refine va_getN (host := "OffTheLead") (D := (dC, dI)) (ci := 9) (v := .int 20) (C := RX8) (T := TX8) (N := 15) hx hb hts ii_X11_feed_X8 hown hK hP 1 rfl rfl 1 (by decide) (va_Nw.use rfl (nf_X11_100 hE)) (fun _ h9 => h9) rfl dX11_feed_64 ?_
  have hP9 := hP.sub (ws' := []) [] rfl
  have hD9 := hD.sub (ws' := []) [] (by decide) rfl
  have hK9 := hK.sub (tys' := []) [] rfl
  refine W.widen (k := 0) (n := 0) (Nat.le_of_ble_eq_true rfl) (Nat.le_of_ble_eq_true rfl) ?_
  exact W.iret (v := 20) hx hb hr (fun t ht hW => ⟨⟨20, (), rfl, rfl, by rw [ht]; exact hP9, va_K.moved hW.alike hK9, hD9⟩, hS.F ht⟩) hS.2.2 dX11_feed_67
set_option maxHeartbeats 4000000 in
set_option maxRecDepth 100000 in
theorem k_X11_end (l : Launch) (dC : Nat → ClassId) (dI : Nat → Nat → Nat) (ad : Nat → Nat) (h0 h1 h2 h3 h4 h5 h6 h7 h8 h9 h10 h11 h12 h13 h14 h15 h16 : Nat) (sz : Nat) : Met l yX11_end wsX11_end ({ frames := 0, cells := 0, slots := 0, locals := 0 }) (va_Pc [.ref h0, .int 0] (CP (dC, dI) [(h0, .inr (10, [.ref h1, .ref h2, .ref h3, .ref h4, .ref h5, .ref h6, .ref h7, .ref h8, .ref h9, .ref h10, .ref h11, .ref h12, .ref h13, .ref h14, .ref h15, .int (-1), .int 0, .int (-1), .int (-1)])), (h1, .inr (9, [.ref h16, .int 0, .int 0, .int 0, .int 0, .int 0, .int 0, .ref (ad 25), .long 0, .int 0, .long 0, .int 0, .int 0, .int 0, .int 0]))] [] sz ad)) (va_Qi (fun (r : Int32) (_ : Unit) => r = 1) (fun (_ : Unit) (t : State) => CQ (dC, dI) [] [] (va_A [(h0, .inr (10, [.ref h1, .ref h2, .ref h3, .ref h4, .ref h5, .ref h6, .ref h7, .ref h8, .ref h9, .ref h10, .ref h11, .ref h12, .ref h13, .ref h14, .ref h15, .int (-1), .int 0, .int (-1), .int (-1)])), (h1, .inr (9, [.ref h16, .int 0, .int 0, .int 0, .int 0, .int 0, .int 0, .ref (ad 25), .long 0, .int 0, .long 0, .int 0, .int 0, .int 0, .int 0]))] sz) t) (va_A [(h0, .inr (10, [.ref h1, .ref h2, .ref h3, .ref h4, .ref h5, .ref h6, .ref h7, .ref h8, .ref h9, .ref h10, .ref h11, .ref h12, .ref h13, .ref h14, .ref h15, .int (-1), .int 0, .int (-1), .int (-1)])), (h1, .inr (9, [.ref h16, .int 0, .int 0, .int 0, .int 0, .int 0, .int 0, .ref (ad 25), .long 0, .int 0, .long 0, .int 0, .int 0, .int 0, .int 0]))] sz)) 0 0 (va_A [(h0, .inr (10, [.ref h1, .ref h2, .ref h3, .ref h4, .ref h5, .ref h6, .ref h7, .ref h8, .ref h9, .ref h10, .ref h11, .ref h12, .ref h13, .ref h14, .ref h15, .int (-1), .int 0, .int (-1), .int (-1)])), (h1, .inr (9, [.ref h16, .int 0, .int 0, .int 0, .int 0, .int 0, .int 0, .ref (ad 25), .long 0, .int 0, .long 0, .int 0, .int 0, .int 0, .int 0]))] sz) := by
  refine Met.ofW (cc := cX11_end) (maxL := 2) (ret := (some .boolean)) (by decide) rfl ?_
  intro p e s m args below meth c s₁ B hml hv
  obtain ⟨rfl, hsz, hP, hK, hD0, hE⟩ := hv
  have hx := B.exec
  have hb := B.bytes
  have hr := B.returns
  have hts := atoms_spec (ws := wsX11_end) B.pre
  have hown : s.vm.findClass RX11 = some m.cls := findClass_of_methodNamed B.named
  have hlocks := B.notSynchronized
  subst hsz
  have hD := hD0.self (sz := s.heap.size)
  generalize hAe : va_A [(h0, .inr (10, [.ref h1, .ref h2, .ref h3, .ref h4, .ref h5, .ref h6, .ref h7, .ref h8, .ref h9, .ref h10, .ref h11, .ref h12, .ref h13, .ref h14, .ref h15, .int (-1), .int 0, .int (-1), .int (-1)])), (h1, .inr (9, [.ref h16, .int 0, .int 0, .int 0, .int 0, .int 0, .int 0, .ref (ad 25), .long 0, .int 0, .long 0, .int 0, .int 0, .int 0, .int 0]))] s.heap.size = A at hD hE ⊢
  have hA : ∀ q : Nat, s.heap.size ≤ q → A q := fun q h => by rw [← hAe]; exact Or.inr h
  have hS : va_S A s.heap s.heap [] := va_S.rf
  have hl := lv_entry ([.ref h0, .int 0]) (n := 2) (Nat.le_of_ble_eq_true rfl)
  rw [lg_entry_eq]
  generalize (lg_sl ([.ref h0, .int 0]) ++ List.replicate (2 - (lg_sl ([.ref h0, .int 0])).length) Slot.unset).toArray = ls at hl ⊢
  have hl : lv_has ls 2 [(0, .ref h0), (1, .int 0)] := hl
  refine lv_iload_n hx hb dX11_end_0 rfl (lv_at hl 1 rfl) ?_
  refine lv_if_lt (tgt := 15) hx hb dX11_end_1 (by decide) (fun c1 => absurd c1 (by decide)) (fun _ => ?_)
  refine lv_iload_n hx hb dX11_end_4 rfl (lv_at hl 1 rfl) ?_
  refine lv_aload_n hx hb dX11_end_5 rfl (lv_at hl 0 rfl) ?_
  refine va_get (D := (dC, dI)) (ci := 10) (v := .ref h1) (C := RX11) (T := TX11) (N := 19) hx hb hts ii_X11_end_X11 hown hK hP 0 rfl rfl 0 (by decide) (hts _ mm_X11_end_1) (fun _ h9 => h9) rfl dX11_end_6 ?_
  refine va_getN (host := "OffTheLead") (D := (dC, dI)) (ci := 9) (v := .int 0) (C := RX8) (T := TX8) (N := 15) hx hb hts ii_X11_end_X8 hown hK hP 1 rfl rfl 1 (by decide) (va_Nw.use rfl (nf_X11_100 hE)) (fun _ h9 => h9) rfl dX11_end_9 ?_
  refine lv_icmp_le (tgt := 17) hx hb dX11_end_12 (by decide) (fun _ => ?_) (fun c2 => absurd (by decide) c2)
  refine lv_aload_n hx hb dX11_end_17 rfl (lv_at hl 0 rfl) ?_
  refine va_get (D := (dC, dI)) (ci := 10) (v := .ref h1) (C := RX11) (T := TX11) (N := 19) hx hb hts ii_X11_end_X11 hown hK hP 0 rfl rfl 0 (by decide) (hts _ mm_X11_end_1) (fun _ h9 => h9) rfl dX11_end_18 ?_
  refine lv_iload_n hx hb dX11_end_21 rfl (lv_at hl 1 rfl) ?_
  refine va_putN (host := "OffTheLead") (D := (dC, dI)) (ci := 9) (v := .int 0) (ty := .int) (C := RX8) (T := TX8) (N := 15) hx hb hts ii_X11_end_X8 tyX8 tyX8_ok nmX8 hown hK hP hD hS 1 rfl rfl 1 (by decide) (va_Nw.use rfl (nf_X11_100 hE)) (fun _ h9 => h9) rfl (by decide +kernel) rfl rfl (Nat.le_of_ble_eq_true rfl) dX11_end_22 (fun H locs hP hD hS => ?_)
  have hP : va_P (dC, dI) vwCl [(h0, .inr (10, [.ref h1, .ref h2, .ref h3, .ref h4, .ref h5, .ref h6, .ref h7, .ref h8, .ref h9, .ref h10, .ref h11, .ref h12, .ref h13, .ref h14, .ref h15, .int (-1), .int 0, .int (-1), .int (-1)])), (h1, .inr (9, [.ref h16, .int 0, .int 0, .int 0, .int 0, .int 0, .int 0, .ref (ad 25), .long 0, .int 0, .long 0, .int 0, .int 0, .int 0, .int 0]))] H := hP
  have hD : va_D A [(h0, .inr (10, [.ref h1, .ref h2, .ref h3, .ref h4, .ref h5, .ref h6, .ref h7, .ref h8, .ref h9, .ref h10, .ref h11, .ref h12, .ref h13, .ref h14, .ref h15, .int (-1), .int 0, .int (-1), .int (-1)])), (h1, .inr (9, [.ref h16, .int 0, .int 0, .int 0, .int 0, .int 0, .int 0, .ref (ad 25), .long 0, .int 0, .long 0, .int 0, .int 0, .int 0, .int 0]))] := hD
  refine lv_iconst (v := 1) hx hb dX11_end_25 (by decide) ?_
  have hP9 := hP.sub (ws' := []) [] rfl
  have hD9 := hD.sub (ws' := []) [] (by decide) rfl
  have hK9 := hK.sub (tys' := []) [] rfl
  refine W.widen (k := 0) (n := 0) (Nat.le_of_ble_eq_true rfl) (Nat.le_of_ble_eq_true rfl) ?_
  exact W.zret (v := 1) hx hb hr rfl (fun t ht hW => ⟨⟨1, (), rfl, rfl, by rw [ht]; exact hP9, va_K.moved hW.alike hK9, hD9⟩, hS.F ht⟩) hS.2.2 dX11_end_26
set_option maxHeartbeats 4000000 in
set_option maxRecDepth 100000 in
theorem k_X11_end_1 (l : Launch) (dC : Nat → ClassId) (dI : Nat → Nat → Nat) (ad : Nat → Nat) (h0 : Nat) (p0 : Int32) (sz : Nat) (e0_0 : p0 < 0) : Met l yX11_end wsX11_end ({ frames := 0, cells := 0, slots := 0, locals := 0 }) (va_Pc [.ref h0, .int p0] (CP (dC, dI) [] [] sz ad)) (va_Qi (fun (r : Int32) (_ : Unit) => r = 0) (fun (_ : Unit) (t : State) => CQ (dC, dI) [] [] (va_A [] sz) t) (va_A [] sz)) 0 0 (va_A [] sz) := by
  refine Met.ofW (cc := cX11_end) (maxL := 2) (ret := (some .boolean)) (by decide) rfl ?_
  intro p e s m args below meth c s₁ B hml hv
  obtain ⟨rfl, hsz, hP, hK, hD0, hE⟩ := hv
  have hx := B.exec
  have hb := B.bytes
  have hr := B.returns
  have hts := atoms_spec (ws := wsX11_end) B.pre
  have hown : s.vm.findClass RX11 = some m.cls := findClass_of_methodNamed B.named
  have hlocks := B.notSynchronized
  subst hsz
  have hD := hD0.self (sz := s.heap.size)
  generalize hAe : va_A [] s.heap.size = A at hD hE ⊢
  have hA : ∀ q : Nat, s.heap.size ≤ q → A q := fun q h => by rw [← hAe]; exact Or.inr h
  have hS : va_S A s.heap s.heap [] := va_S.rf
  have hl := lv_entry ([.ref h0, .int p0]) (n := 2) (Nat.le_of_ble_eq_true rfl)
  rw [lg_entry_eq]
  generalize (lg_sl ([.ref h0, .int p0]) ++ List.replicate (2 - (lg_sl ([.ref h0, .int p0])).length) Slot.unset).toArray = ls at hl ⊢
  have hl : lv_has ls 2 [(0, .ref h0), (1, .int p0)] := hl
  refine lv_iload_n hx hb dX11_end_0 rfl (lv_at hl 1 rfl) ?_
  refine lv_if_lt (tgt := 15) hx hb dX11_end_1 (by decide) (fun _ => ?_) (fun c1 => ?_)
  rotate_left
  · exfalso; clear hP hD hK hS hE; simp only [Int32.lt_iff_toInt_lt, Int32.le_iff_toInt_le, ← Int32.toInt_inj, Int32.reduceToInt] at e0_0 c1; omega
  refine lv_iconst (v := 0) hx hb dX11_end_15 (by decide) ?_
  have hP9 := hP.sub (ws' := []) [] rfl
  have hD9 := hD.sub (ws' := []) [] (by decide) rfl
  have hK9 := hK.sub (tys' := []) [] rfl
  refine W.widen (k := 0) (n := 0) (Nat.le_of_ble_eq_true rfl) (Nat.le_of_ble_eq_true rfl) ?_
  exact W.zret (v := 0) hx hb hr rfl (fun t ht hW => ⟨⟨0, (), rfl, rfl, by rw [ht]; exact hP9, va_K.moved hW.alike hK9, hD9⟩, hS.F ht⟩) hS.2.2 dX11_end_16
set_option maxHeartbeats 4000000 in
set_option maxRecDepth 100000 in
theorem k_X11_end_2 (l : Launch) (dC : Nat → ClassId) (dI : Nat → Nat → Nat) (ad : Nat → Nat) (h0 h1 h2 h3 h4 h5 h6 h7 h8 h9 h10 h11 h12 h13 h14 h15 h16 : Nat) (p0 : Int32) (sz : Nat) (e0_0 : 0 < p0) : Met l yX11_end wsX11_end ({ frames := 0, cells := 0, slots := 0, locals := 0 }) (va_Pc [.ref h0, .int p0] (CP (dC, dI) [(h0, .inr (10, [.ref h1, .ref h2, .ref h3, .ref h4, .ref h5, .ref h6, .ref h7, .ref h8, .ref h9, .ref h10, .ref h11, .ref h12, .ref h13, .ref h14, .ref h15, .int (-1), .int 0, .int (-1), .int (-1)])), (h1, .inr (9, [.ref h16, .int 0, .int 0, .int 0, .int 0, .int 0, .int 0, .ref (ad 25), .long 0, .int 0, .long 0, .int 0, .int 0, .int 0, .int 0]))] [] sz ad)) (va_Qi (fun (r : Int32) (_ : Unit) => r = 0) (fun (_ : Unit) (t : State) => CQ (dC, dI) [] [] (va_A [(h0, .inr (10, [.ref h1, .ref h2, .ref h3, .ref h4, .ref h5, .ref h6, .ref h7, .ref h8, .ref h9, .ref h10, .ref h11, .ref h12, .ref h13, .ref h14, .ref h15, .int (-1), .int 0, .int (-1), .int (-1)])), (h1, .inr (9, [.ref h16, .int 0, .int 0, .int 0, .int 0, .int 0, .int 0, .ref (ad 25), .long 0, .int 0, .long 0, .int 0, .int 0, .int 0, .int 0]))] sz) t) (va_A [(h0, .inr (10, [.ref h1, .ref h2, .ref h3, .ref h4, .ref h5, .ref h6, .ref h7, .ref h8, .ref h9, .ref h10, .ref h11, .ref h12, .ref h13, .ref h14, .ref h15, .int (-1), .int 0, .int (-1), .int (-1)])), (h1, .inr (9, [.ref h16, .int 0, .int 0, .int 0, .int 0, .int 0, .int 0, .ref (ad 25), .long 0, .int 0, .long 0, .int 0, .int 0, .int 0, .int 0]))] sz)) 0 0 (va_A [(h0, .inr (10, [.ref h1, .ref h2, .ref h3, .ref h4, .ref h5, .ref h6, .ref h7, .ref h8, .ref h9, .ref h10, .ref h11, .ref h12, .ref h13, .ref h14, .ref h15, .int (-1), .int 0, .int (-1), .int (-1)])), (h1, .inr (9, [.ref h16, .int 0, .int 0, .int 0, .int 0, .int 0, .int 0, .ref (ad 25), .long 0, .int 0, .long 0, .int 0, .int 0, .int 0, .int 0]))] sz) := by
  refine Met.ofW (cc := cX11_end) (maxL := 2) (ret := (some .boolean)) (by decide) rfl ?_
  intro p e s m args below meth c s₁ B hml hv
  obtain ⟨rfl, hsz, hP, hK, hD0, hE⟩ := hv
  have hx := B.exec
  have hb := B.bytes
  have hr := B.returns
  have hts := atoms_spec (ws := wsX11_end) B.pre
  have hown : s.vm.findClass RX11 = some m.cls := findClass_of_methodNamed B.named
  have hlocks := B.notSynchronized
  subst hsz
  have hD := hD0.self (sz := s.heap.size)
  generalize hAe : va_A [(h0, .inr (10, [.ref h1, .ref h2, .ref h3, .ref h4, .ref h5, .ref h6, .ref h7, .ref h8, .ref h9, .ref h10, .ref h11, .ref h12, .ref h13, .ref h14, .ref h15, .int (-1), .int 0, .int (-1), .int (-1)])), (h1, .inr (9, [.ref h16, .int 0, .int 0, .int 0, .int 0, .int 0, .int 0, .ref (ad 25), .long 0, .int 0, .long 0, .int 0, .int 0, .int 0, .int 0]))] s.heap.size = A at hD hE ⊢
  have hA : ∀ q : Nat, s.heap.size ≤ q → A q := fun q h => by rw [← hAe]; exact Or.inr h
  have hS : va_S A s.heap s.heap [] := va_S.rf
  have hl := lv_entry ([.ref h0, .int p0]) (n := 2) (Nat.le_of_ble_eq_true rfl)
  rw [lg_entry_eq]
  generalize (lg_sl ([.ref h0, .int p0]) ++ List.replicate (2 - (lg_sl ([.ref h0, .int p0])).length) Slot.unset).toArray = ls at hl ⊢
  have hl : lv_has ls 2 [(0, .ref h0), (1, .int p0)] := hl
  refine lv_iload_n hx hb dX11_end_0 rfl (lv_at hl 1 rfl) ?_
  refine lv_if_lt (tgt := 15) hx hb dX11_end_1 (by decide) (fun c1 => ?_) (fun _ => ?_)
  · exfalso; clear hP hD hK hS hE; simp only [Int32.lt_iff_toInt_lt, Int32.le_iff_toInt_le, ← Int32.toInt_inj, Int32.reduceToInt] at e0_0 c1; omega
  refine lv_iload_n hx hb dX11_end_4 rfl (lv_at hl 1 rfl) ?_
  refine lv_aload_n hx hb dX11_end_5 rfl (lv_at hl 0 rfl) ?_
  refine va_get (D := (dC, dI)) (ci := 10) (v := .ref h1) (C := RX11) (T := TX11) (N := 19) hx hb hts ii_X11_end_X11 hown hK hP 0 rfl rfl 0 (by decide) (hts _ mm_X11_end_1) (fun _ h9 => h9) rfl dX11_end_6 ?_
  refine va_getN (host := "OffTheLead") (D := (dC, dI)) (ci := 9) (v := .int 0) (C := RX8) (T := TX8) (N := 15) hx hb hts ii_X11_end_X8 hown hK hP 1 rfl rfl 1 (by decide) (va_Nw.use rfl (nf_X11_100 hE)) (fun _ h9 => h9) rfl dX11_end_9 ?_
  refine lv_icmp_le (tgt := 17) hx hb dX11_end_12 (by decide) (fun c2 => ?_) (fun _ => ?_)
  · exfalso; clear hP hD hK hS hE; simp only [Int32.lt_iff_toInt_lt, Int32.le_iff_toInt_le, ← Int32.toInt_inj, Int32.reduceToInt] at e0_0 c2; omega
  refine lv_iconst (v := 0) hx hb dX11_end_15 (by decide) ?_
  have hP9 := hP.sub (ws' := []) [] rfl
  have hD9 := hD.sub (ws' := []) [] (by decide) rfl
  have hK9 := hK.sub (tys' := []) [] rfl
  refine W.widen (k := 0) (n := 0) (Nat.le_of_ble_eq_true rfl) (Nat.le_of_ble_eq_true rfl) ?_
  exact W.zret (v := 0) hx hb hr rfl (fun t ht hW => ⟨⟨0, (), rfl, rfl, by rw [ht]; exact hP9, va_K.moved hW.alike hK9, hD9⟩, hS.F ht⟩) hS.2.2 dX11_end_16
set_option maxHeartbeats 4000000 in
set_option maxRecDepth 100000 in
theorem k_X8_step (l : Launch) (dC : Nat → ClassId) (dI : Nat → Nat → Nat) (ad : Nat → Nat) (h0 h1 : Nat) (sz : Nat) : Met l yX8_step wsX8_step ({ frames := 0, cells := 0, slots := 0, locals := 0 }) (va_Pc [.ref h0] (CP (dC, dI) [(h0, .inr (9, [.ref h1, .int 0, .int 900, .int 0, .int 0, .int 0, .int 0, .ref (ad 25), .long 0, .int 0, .long 0, .int 0, .int 0, .int 0, .int 0]))] [] sz ad)) (va_Qv (fun _ : Unit => True) (fun (_ : Unit) (t : State) => CQ (dC, dI) [(h0, .inr (9, [.ref h1, .int 0, .int 900, .int 0, .int 3, .int 0, .int 0, .ref (ad 25), .long 0, .int 0, .long 0, .int 0, .int 0, .int 0, .int 0]))] [] (va_A [(h0, .inr (9, [.ref h1, .int 0, .int 900, .int 0, .int 0, .int 0, .int 0, .ref (ad 25), .long 0, .int 0, .long 0, .int 0, .int 0, .int 0, .int 0]))] sz) t) (va_A [(h0, .inr (9, [.ref h1, .int 0, .int 900, .int 0, .int 0, .int 0, .int 0, .ref (ad 25), .long 0, .int 0, .long 0, .int 0, .int 0, .int 0, .int 0]))] sz)) 0 0 (va_A [(h0, .inr (9, [.ref h1, .int 0, .int 900, .int 0, .int 0, .int 0, .int 0, .ref (ad 25), .long 0, .int 0, .long 0, .int 0, .int 0, .int 0, .int 0]))] sz) := by
  refine Met.ofW (cc := cX8_step) (maxL := 1) (ret := none) (by decide) rfl ?_
  intro p e s m args below meth c s₁ B hml hv
  obtain ⟨rfl, hsz, hP, hK, hD0, hE⟩ := hv
  have hx := B.exec
  have hb := B.bytes
  have hr := B.returns
  have hts := atoms_spec (ws := wsX8_step) B.pre
  have hown : s.vm.findClass RX8 = some m.cls := findClass_of_methodNamed B.named
  have hlocks := B.notSynchronized
  subst hsz
  have hD := hD0.self (sz := s.heap.size)
  generalize hAe : va_A [(h0, .inr (9, [.ref h1, .int 0, .int 900, .int 0, .int 0, .int 0, .int 0, .ref (ad 25), .long 0, .int 0, .long 0, .int 0, .int 0, .int 0, .int 0]))] s.heap.size = A at hD hE ⊢
  have hA : ∀ q : Nat, s.heap.size ≤ q → A q := fun q h => by rw [← hAe]; exact Or.inr h
  have hS : va_S A s.heap s.heap [] := va_S.rf
  have hl := lv_entry ([.ref h0]) (n := 1) (Nat.le_of_ble_eq_true rfl)
  rw [lg_entry_eq]
  generalize (lg_sl ([.ref h0]) ++ List.replicate (1 - (lg_sl ([.ref h0])).length) Slot.unset).toArray = ls at hl ⊢
  have hl : lv_has ls 1 [(0, .ref h0)] := hl
  refine lv_aload_n hx hb dX8_step_0 rfl (lv_at hl 0 rfl) ?_
  refine va_gets hx hb (EV.word hE (i := 25) (by decide)) hS hown (hts _ mm_X8_step_1) (fun _ h9 => h9) dX8_step_1 ?_
  refine va_put (D := (dC, dI)) (ci := 9) (v := .ref (ad 25)) (ty := .object "OffTheLead$Word") (C := RX8) (T := TX8) (N := 15) hx hb hts ii_X8_step_X8 tyX8 tyX8_ok nmX8 hown hK hP hD hS 0 rfl rfl 7 (by decide) (hts _ mm_X8_step_2) (fun _ h9 => h9) rfl (by decide +kernel) rfl rfl (Nat.le_of_ble_eq_true rfl) dX8_step_4 (fun H locs hP hD hS => ?_)
  have hP : va_P (dC, dI) vwCl [(h0, .inr (9, [.ref h1, .int 0, .int 900, .int 0, .int 0, .int 0, .int 0, .ref (ad 25), .long 0, .int 0, .long 0, .int 0, .int 0, .int 0, .int 0]))] H := hP
  have hD : va_D A [(h0, .inr (9, [.ref h1, .int 0, .int 900, .int 0, .int 0, .int 0, .int 0, .ref (ad 25), .long 0, .int 0, .long 0, .int 0, .int 0, .int 0, .int 0]))] := hD
  refine lv_aload_n hx hb dX8_step_7 rfl (lv_at hl 0 rfl) ?_
  refine va_get (D := (dC, dI)) (ci := 9) (v := .int 0) (C := RX8) (T := TX8) (N := 15) hx hb hts ii_X8_step_X8 hown hK hP 0 rfl rfl 3 (by decide) (hts _ mm_X8_step_3) (fun _ h9 => h9) rfl dX8_step_8 ?_
  refine lv_aload_n hx hb dX8_step_11 rfl (lv_at hl 0 rfl) ?_
  refine va_get (D := (dC, dI)) (ci := 9) (v := .int 0) (C := RX8) (T := TX8) (N := 15) hx hb hts ii_X8_step_X8 hown hK hP 0 rfl rfl 1 (by decide) (hts _ mm_X8_step_4) (fun _ h9 => h9) rfl dX8_step_12 ?_
  refine lv_icmp_ge (tgt := 59) hx hb dX8_step_15 (by decide) (fun _ => ?_) (fun c1 => absurd (by decide) c1)
  refine lv_aload_n hx hb dX8_step_59 rfl (lv_at hl 0 rfl) ?_
  refine lv_aload_n hx hb dX8_step_60 rfl (lv_at hl 0 rfl) ?_
  refine va_get (D := (dC, dI)) (ci := 9) (v := .int 0) (C := RX8) (T := TX8) (N := 15) hx hb hts ii_X8_step_X8 hown hK hP 0 rfl rfl 3 (by decide) (hts _ mm_X8_step_3) (fun _ h9 => h9) rfl dX8_step_61 ?_
  refine va_put (D := (dC, dI)) (ci := 9) (v := .int 0) (ty := .int) (C := RX8) (T := TX8) (N := 15) hx hb hts ii_X8_step_X8 tyX8 tyX8_ok nmX8 hown hK hP hD hS 0 rfl rfl 5 (by decide) (hts _ mm_X8_step_6) (fun _ h9 => h9) rfl (by decide +kernel) rfl rfl (Nat.le_of_ble_eq_true rfl) dX8_step_64 (fun H locs hP hD hS => ?_)
  have hP : va_P (dC, dI) vwCl [(h0, .inr (9, [.ref h1, .int 0, .int 900, .int 0, .int 0, .int 0, .int 0, .ref (ad 25), .long 0, .int 0, .long 0, .int 0, .int 0, .int 0, .int 0]))] H := hP
  have hD : va_D A [(h0, .inr (9, [.ref h1, .int 0, .int 900, .int 0, .int 0, .int 0, .int 0, .ref (ad 25), .long 0, .int 0, .long 0, .int 0, .int 0, .int 0, .int 0]))] := hD
  refine lv_aload_n hx hb dX8_step_67 rfl (lv_at hl 0 rfl) ?_
  refine va_get (D := (dC, dI)) (ci := 9) (v := .int 0) (C := RX8) (T := TX8) (N := 15) hx hb hts ii_X8_step_X8 hown hK hP 0 rfl rfl 1 (by decide) (hts _ mm_X8_step_4) (fun _ h9 => h9) rfl dX8_step_68 ?_
  refine lv_aload_n hx hb dX8_step_71 rfl (lv_at hl 0 rfl) ?_
  refine va_get (D := (dC, dI)) (ci := 9) (v := .int 900) (C := RX8) (T := TX8) (N := 15) hx hb hts ii_X8_step_X8 hown hK hP 0 rfl rfl 2 (by decide) (hts _ mm_X8_step_7) (fun _ h9 => h9) rfl dX8_step_72 ?_
  refine lv_icmp_le (tgt := 105) hx hb dX8_step_75 (by decide) (fun _ => ?_) (fun c2 => absurd (by decide) c2)
  refine lv_aload_n hx hb dX8_step_105 rfl (lv_at hl 0 rfl) ?_
  refine va_get (D := (dC, dI)) (ci := 9) (v := .int 0) (C := RX8) (T := TX8) (N := 15) hx hb hts ii_X8_step_X8 hown hK hP 0 rfl rfl 3 (by decide) (hts _ mm_X8_step_3) (fun _ h9 => h9) rfl dX8_step_106 ?_
  refine lv_aload_n hx hb dX8_step_109 rfl (lv_at hl 0 rfl) ?_
  refine va_get (D := (dC, dI)) (ci := 9) (v := .int 0) (C := RX8) (T := TX8) (N := 15) hx hb hts ii_X8_step_X8 hown hK hP 0 rfl rfl 1 (by decide) (hts _ mm_X8_step_4) (fun _ h9 => h9) rfl dX8_step_110 ?_
  refine lv_icmp_lt (tgt := 124) hx hb dX8_step_113 (by decide) (fun c3 => absurd c3 (by decide)) (fun _ => ?_)
  refine lv_aload_n hx hb dX8_step_116 rfl (lv_at hl 0 rfl) ?_
  refine lv_iconst (v := 3) hx hb dX8_step_117 (by decide) ?_
  refine va_put (D := (dC, dI)) (ci := 9) (v := .int 3) (ty := .int) (C := RX8) (T := TX8) (N := 15) hx hb hts ii_X8_step_X8 tyX8 tyX8_ok nmX8 hown hK hP hD hS 0 rfl rfl 4 (by decide) (hts _ mm_X8_step_8) (fun _ h9 => h9) rfl (by decide +kernel) rfl rfl (Nat.le_of_ble_eq_true rfl) dX8_step_118 (fun H locs hP hD hS => ?_)
  have hP : va_P (dC, dI) vwCl [(h0, .inr (9, [.ref h1, .int 0, .int 900, .int 0, .int 3, .int 0, .int 0, .ref (ad 25), .long 0, .int 0, .long 0, .int 0, .int 0, .int 0, .int 0]))] H := hP
  have hD : va_D A [(h0, .inr (9, [.ref h1, .int 0, .int 900, .int 0, .int 3, .int 0, .int 0, .ref (ad 25), .long 0, .int 0, .long 0, .int 0, .int 0, .int 0, .int 0]))] := hD
  refine lv_goto (tgt := 235) hx hb dX8_step_121 (by decide) ?_
  have hP9 := hP.sub (ws' := [(h0, .inr (9, [.ref h1, .int 0, .int 900, .int 0, .int 3, .int 0, .int 0, .ref (ad 25), .long 0, .int 0, .long 0, .int 0, .int 0, .int 0, .int 0]))]) [0] rfl
  have hD9 := hD.sub (ws' := [(h0, .inr (9, [.ref h1, .int 0, .int 900, .int 0, .int 3, .int 0, .int 0, .ref (ad 25), .long 0, .int 0, .long 0, .int 0, .int 0, .int 0, .int 0]))]) [0] (by decide) rfl
  have hK9 := hK.sub (tys' := []) [] rfl
  refine W.widen (k := 0) (n := 0) (Nat.le_of_ble_eq_true rfl) (Nat.le_of_ble_eq_true rfl) ?_
  exact W.vret hx hb hr (fun t ht hW => ⟨⟨(), rfl, trivial, by rw [ht]; exact hP9, va_K.moved hW.alike hK9, hD9⟩, hS.F ht⟩) hS.2.2 dX8_step_235
set_option maxHeartbeats 4000000 in
set_option maxRecDepth 100000 in
theorem k_X8_open (l : Launch) (dC : Nat → ClassId) (dI : Nat → Nat → Nat) (ad : Nat → Nat) (h0 h1 : Nat) (sz : Nat) : Met l yX8_open wsX8_open ({ frames := 1, cells := 0, slots := 0, locals := 20 }) (va_Pc [.ref h0, .int 900] (CP (dC, dI) [(h0, .inr (9, [.ref h1, .int 0, .int 0, .int 0, .int 0, .int 0, .int 0, .ref (ad 25), .long 0, .int 0, .long 0, .int 0, .int 0, .int 0, .int 0]))] [] sz ad)) (va_Qv (fun _ : Unit => True) (fun (_ : Unit) (t : State) => CQ (dC, dI) [(h0, .inr (9, [.ref h1, .int 0, .int 900, .int 0, .int 3, .int 0, .int 0, .ref (ad 25), .long 0, .int 0, .long 0, .int 0, .int 0, .int 0, .int 0]))] [] (va_A [(h0, .inr (9, [.ref h1, .int 0, .int 0, .int 0, .int 0, .int 0, .int 0, .ref (ad 25), .long 0, .int 0, .long 0, .int 0, .int 0, .int 0, .int 0]))] sz) t) (va_A [(h0, .inr (9, [.ref h1, .int 0, .int 0, .int 0, .int 0, .int 0, .int 0, .ref (ad 25), .long 0, .int 0, .long 0, .int 0, .int 0, .int 0, .int 0]))] sz)) 0 0 (va_A [(h0, .inr (9, [.ref h1, .int 0, .int 0, .int 0, .int 0, .int 0, .int 0, .ref (ad 25), .long 0, .int 0, .long 0, .int 0, .int 0, .int 0, .int 0]))] sz) := by
  refine Met.ofW (cc := cX8_open) (maxL := 2) (ret := none) (by decide) rfl ?_
  intro p e s m args below meth c s₁ B hml hv
  obtain ⟨rfl, hsz, hP, hK, hD0, hE⟩ := hv
  have hx := B.exec
  have hb := B.bytes
  have hr := B.returns
  have hts := atoms_spec (ws := wsX8_open) B.pre
  have hown : s.vm.findClass RX8 = some m.cls := findClass_of_methodNamed B.named
  have hlocks := B.notSynchronized
  subst hsz
  have hD := hD0.self (sz := s.heap.size)
  generalize hAe : va_A [(h0, .inr (9, [.ref h1, .int 0, .int 0, .int 0, .int 0, .int 0, .int 0, .ref (ad 25), .long 0, .int 0, .long 0, .int 0, .int 0, .int 0, .int 0]))] s.heap.size = A at hD hE ⊢
  have hA : ∀ q : Nat, s.heap.size ≤ q → A q := fun q h => by rw [← hAe]; exact Or.inr h
  have hS : va_S A s.heap s.heap [] := va_S.rf
  have hl := lv_entry ([.ref h0, .int 900]) (n := 2) (Nat.le_of_ble_eq_true rfl)
  rw [lg_entry_eq]
  generalize (lg_sl ([.ref h0, .int 900]) ++ List.replicate (2 - (lg_sl ([.ref h0, .int 900])).length) Slot.unset).toArray = ls at hl ⊢
  have hl : lv_has ls 2 [(0, .ref h0), (1, .int 900)] := hl
  refine lv_aload_n hx hb dX8_open_0 rfl (lv_at hl 0 rfl) ?_
  refine lv_iload_n hx hb dX8_open_1 rfl (lv_at hl 1 rfl) ?_
  refine va_put (D := (dC, dI)) (ci := 9) (v := .int 900) (ty := .int) (C := RX8) (T := TX8) (N := 15) hx hb hts ii_X8_open_X8 tyX8 tyX8_ok nmX8 hown hK hP hD hS 0 rfl rfl 2 (by decide) (hts _ mm_X8_open_1) (fun _ h9 => h9) rfl (by decide +kernel) rfl rfl (Nat.le_of_ble_eq_true rfl) dX8_open_2 (fun H locs hP hD hS => ?_)
  have hP : va_P (dC, dI) vwCl [(h0, .inr (9, [.ref h1, .int 0, .int 900, .int 0, .int 0, .int 0, .int 0, .ref (ad 25), .long 0, .int 0, .long 0, .int 0, .int 0, .int 0, .int 0]))] H := hP
  have hD : va_D A [(h0, .inr (9, [.ref h1, .int 0, .int 900, .int 0, .int 0, .int 0, .int 0, .ref (ad 25), .long 0, .int 0, .long 0, .int 0, .int 0, .int 0, .int 0]))] := hD
  refine lv_aload_n hx hb dX8_open_5 rfl (lv_at hl 0 rfl) ?_
  refine lv_iconst (v := 0) hx hb dX8_open_6 (by decide) ?_
  refine va_put (D := (dC, dI)) (ci := 9) (v := .int 0) (ty := .int) (C := RX8) (T := TX8) (N := 15) hx hb hts ii_X8_open_X8 tyX8 tyX8_ok nmX8 hown hK hP hD hS 0 rfl rfl 3 (by decide) (hts _ mm_X8_open_2) (fun _ h9 => h9) rfl (by decide +kernel) rfl rfl (Nat.le_of_ble_eq_true rfl) dX8_open_7 (fun H locs hP hD hS => ?_)
  have hP : va_P (dC, dI) vwCl [(h0, .inr (9, [.ref h1, .int 0, .int 900, .int 0, .int 0, .int 0, .int 0, .ref (ad 25), .long 0, .int 0, .long 0, .int 0, .int 0, .int 0, .int 0]))] H := hP
  have hD : va_D A [(h0, .inr (9, [.ref h1, .int 0, .int 900, .int 0, .int 0, .int 0, .int 0, .ref (ad 25), .long 0, .int 0, .long 0, .int 0, .int 0, .int 0, .int 0]))] := hD
  refine lv_aload_n hx hb dX8_open_10 rfl (lv_at hl 0 rfl) ?_
  refine lv_iconst (v := 0) hx hb dX8_open_11 (by decide) ?_
  refine va_put (D := (dC, dI)) (ci := 9) (v := .int 0) (ty := .int) (C := RX8) (T := TX8) (N := 15) hx hb hts ii_X8_open_X8 tyX8 tyX8_ok nmX8 hown hK hP hD hS 0 rfl rfl 13 (by decide) (hts _ mm_X8_open_3) (fun _ h9 => h9) rfl (by decide +kernel) rfl rfl (Nat.le_of_ble_eq_true rfl) dX8_open_12 (fun H locs hP hD hS => ?_)
  have hP : va_P (dC, dI) vwCl [(h0, .inr (9, [.ref h1, .int 0, .int 900, .int 0, .int 0, .int 0, .int 0, .ref (ad 25), .long 0, .int 0, .long 0, .int 0, .int 0, .int 0, .int 0]))] H := hP
  have hD : va_D A [(h0, .inr (9, [.ref h1, .int 0, .int 900, .int 0, .int 0, .int 0, .int 0, .ref (ad 25), .long 0, .int 0, .long 0, .int 0, .int 0, .int 0, .int 0]))] := hD
  refine lv_aload_n hx hb dX8_open_15 rfl (lv_at hl 0 rfl) ?_
  refine lv_iconst (v := 0) hx hb dX8_open_16 (by decide) ?_
  refine va_put (D := (dC, dI)) (ci := 9) (v := .int 0) (ty := .int) (C := RX8) (T := TX8) (N := 15) hx hb hts ii_X8_open_X8 tyX8 tyX8_ok nmX8 hown hK hP hD hS 0 rfl rfl 14 (by decide) (hts _ mm_X8_open_4) (fun _ h9 => h9) rfl (by decide +kernel) rfl rfl (Nat.le_of_ble_eq_true rfl) dX8_open_17 (fun H locs hP hD hS => ?_)
  have hP : va_P (dC, dI) vwCl [(h0, .inr (9, [.ref h1, .int 0, .int 900, .int 0, .int 0, .int 0, .int 0, .ref (ad 25), .long 0, .int 0, .long 0, .int 0, .int 0, .int 0, .int 0]))] H := hP
  have hD : va_D A [(h0, .inr (9, [.ref h1, .int 0, .int 900, .int 0, .int 0, .int 0, .int 0, .ref (ad 25), .long 0, .int 0, .long 0, .int 0, .int 0, .int 0, .int 0]))] := hD
  refine lv_aload_n hx hb dX8_open_20 rfl (lv_at hl 0 rfl) ?_
  have hPc := hP.sub (ws' := [(h0, .inr (9, [.ref h1, .int 0, .int 900, .int 0, .int 0, .int 0, .int 0, .ref (ad 25), .long 0, .int 0, .long 0, .int 0, .int 0, .int 0, .int 0]))]) [0] rfl
  have hDc := hD.sub (ws' := [(h0, .inr (9, [.ref h1, .int 0, .int 900, .int 0, .int 0, .int 0, .int 0, .ref (ad 25), .long 0, .int 0, .long 0, .int 0, .int 0, .int 0, .int 0]))]) [0] (by decide) rfl
  have hKc := hK.sub (tys' := []) [] rfl
  have hFc := va_free (wc := [(h0, .inr (9, [.ref h1, .int 0, .int 900, .int 0, .int 0, .int 0, .int 0, .ref (ad 25), .long 0, .int 0, .long 0, .int 0, .int 0, .int 0, .int 0]))]) hD hS hA [0] rfl
  refine va_callv (va_runV (As := []) (rest := []) ⟨hx, hb, hml, hown, hts⟩ (k_X8_step l dC dI ad h0 h1 H.size) (cwV 0 hts gX8_open_X8_step rfl rfl rfl (by decide +kernel) ⟨Nat.le_of_ble_eq_true rfl, Nat.le_of_ble_eq_true rfl⟩) ⟨fun a U g mk q => ⟨q.1, CP.blind q.2⟩, va_recv hKc hPc (ci := 9) (q0 := 0) rfl rfl, fun U hU hW => ⟨rfl, CP.of hPc hKc hDc hE hS hFc hU hW⟩⟩ rfl rfl hl.1 rfl (lv_room (Nat.le_of_ble_eq_true rfl)) dX8_open_21 ⟨Nat.le_of_ble_eq_true rfl, Nat.le_of_ble_eq_true rfl⟩) hS (fun q _ h => hFc q h) hFc (fun u t H1 locs ht hvm hw hB hz1 hk1 hS => ?_)
  obtain ⟨hP1, hK1, hD1⟩ := hB
  rw [ht] at hP1
  obtain ⟨hP, hD⟩ := va_join (wr := []) (w1 := [(h0, .inr (9, [.ref h1, .int 0, .int 900, .int 0, .int 3, .int 0, .int 0, .ref (ad 25), .long 0, .int 0, .long 0, .int 0, .int 0, .int 0, .int 0]))]) hP hD [0] [] rfl rfl (by decide) (by decide) hk1 hFc hP1 hD1
  generalize H1 = H at hP hS ⊢
  clear hPc hDc hKc hFc hP1 hD1 hK1 hk1 hz1
  have hP : va_P (dC, dI) vwCl [(h0, .inr (9, [.ref h1, .int 0, .int 900, .int 0, .int 3, .int 0, .int 0, .ref (ad 25), .long 0, .int 0, .long 0, .int 0, .int 0, .int 0, .int 0]))] H := hP
  have hD : va_D A [(h0, .inr (9, [.ref h1, .int 0, .int 900, .int 0, .int 3, .int 0, .int 0, .ref (ad 25), .long 0, .int 0, .long 0, .int 0, .int 0, .int 0, .int 0]))] := hD
  have hP9 := hP.sub (ws' := [(h0, .inr (9, [.ref h1, .int 0, .int 900, .int 0, .int 3, .int 0, .int 0, .ref (ad 25), .long 0, .int 0, .long 0, .int 0, .int 0, .int 0, .int 0]))]) [0] rfl
  have hD9 := hD.sub (ws' := [(h0, .inr (9, [.ref h1, .int 0, .int 900, .int 0, .int 3, .int 0, .int 0, .ref (ad 25), .long 0, .int 0, .long 0, .int 0, .int 0, .int 0, .int 0]))]) [0] (by decide) rfl
  have hK9 := hK.sub (tys' := []) [] rfl
  refine W.widen (k := 0) (n := 0) (Nat.le_of_ble_eq_true rfl) (Nat.le_of_ble_eq_true rfl) ?_
  exact W.vret hx hb hr (fun t ht hW => ⟨⟨(), rfl, trivial, by rw [ht]; exact hP9, va_K.moved hW.alike hK9, hD9⟩, hS.F ht⟩) hS.2.2 dX8_open_24
set_option maxHeartbeats 4000000 in
set_option maxRecDepth 100000 in
theorem k_X4_clear (l : Launch) (dC : Nat → ClassId) (dI : Nat → Nat → Nat) (ad : Nat → Nat) (h0 h1 h2 h3 h4 h5 : Nat) (sz : Nat) : Met l yX4_clear wsX4_clear ({ frames := 0, cells := 0, slots := 0, locals := 0 }) (va_Pc [.ref h0] (CP (dC, dI) [(h0, .inr (5, [.ref h1, .ref h2, .ref h3, .ref h4, .ref h5, .int 0, .int 0, .int 0, .int 2, .int 0, .int 0, .int 0]))] [] sz ad)) (va_Qv (fun _ : Unit => True) (fun (_ : Unit) (t : State) => CQ (dC, dI) [(h0, .inr (5, [.ref h1, .ref h2, .ref h3, .ref h4, .ref h5, .int 0, .int 0, .int 0, .int 2, .int 0, .int 0, .int 0]))] [] (va_A [(h0, .inr (5, [.ref h1, .ref h2, .ref h3, .ref h4, .ref h5, .int 0, .int 0, .int 0, .int 2, .int 0, .int 0, .int 0]))] sz) t) (va_A [(h0, .inr (5, [.ref h1, .ref h2, .ref h3, .ref h4, .ref h5, .int 0, .int 0, .int 0, .int 2, .int 0, .int 0, .int 0]))] sz)) 0 0 (va_A [(h0, .inr (5, [.ref h1, .ref h2, .ref h3, .ref h4, .ref h5, .int 0, .int 0, .int 0, .int 2, .int 0, .int 0, .int 0]))] sz) := by
  refine Met.ofW (cc := cX4_clear) (maxL := 1) (ret := none) (by decide) rfl ?_
  intro p e s m args below meth c s₁ B hml hv
  obtain ⟨rfl, hsz, hP, hK, hD0, hE⟩ := hv
  have hx := B.exec
  have hb := B.bytes
  have hr := B.returns
  have hts := atoms_spec (ws := wsX4_clear) B.pre
  have hown : s.vm.findClass RX4 = some m.cls := findClass_of_methodNamed B.named
  have hlocks := B.notSynchronized
  subst hsz
  have hD := hD0.self (sz := s.heap.size)
  generalize hAe : va_A [(h0, .inr (5, [.ref h1, .ref h2, .ref h3, .ref h4, .ref h5, .int 0, .int 0, .int 0, .int 2, .int 0, .int 0, .int 0]))] s.heap.size = A at hD hE ⊢
  have hA : ∀ q : Nat, s.heap.size ≤ q → A q := fun q h => by rw [← hAe]; exact Or.inr h
  have hS : va_S A s.heap s.heap [] := va_S.rf
  have hl := lv_entry ([.ref h0]) (n := 1) (Nat.le_of_ble_eq_true rfl)
  rw [lg_entry_eq]
  generalize (lg_sl ([.ref h0]) ++ List.replicate (1 - (lg_sl ([.ref h0])).length) Slot.unset).toArray = ls at hl ⊢
  have hl : lv_has ls 1 [(0, .ref h0)] := hl
  refine lv_aload_n hx hb dX4_clear_0 rfl (lv_at hl 0 rfl) ?_
  refine lv_iconst (v := 0) hx hb dX4_clear_1 (by decide) ?_
  refine va_put (D := (dC, dI)) (ci := 5) (v := .int 0) (ty := .int) (C := RX4) (T := TX4) (N := 12) hx hb hts ii_X4_clear_X4 tyX4 tyX4_ok nmX4 hown hK hP hD hS 0 rfl rfl 5 (by decide) (hts _ mm_X4_clear_1) (fun _ h9 => h9) rfl (by decide +kernel) rfl rfl (Nat.le_of_ble_eq_true rfl) dX4_clear_2 (fun H locs hP hD hS => ?_)
  have hP : va_P (dC, dI) vwCl [(h0, .inr (5, [.ref h1, .ref h2, .ref h3, .ref h4, .ref h5, .int 0, .int 0, .int 0, .int 2, .int 0, .int 0, .int 0]))] H := hP
  have hD : va_D A [(h0, .inr (5, [.ref h1, .ref h2, .ref h3, .ref h4, .ref h5, .int 0, .int 0, .int 0, .int 2, .int 0, .int 0, .int 0]))] := hD
  refine lv_aload_n hx hb dX4_clear_5 rfl (lv_at hl 0 rfl) ?_
  refine lv_iconst (v := 0) hx hb dX4_clear_6 (by decide) ?_
  refine va_put (D := (dC, dI)) (ci := 5) (v := .int 0) (ty := .int) (C := RX4) (T := TX4) (N := 12) hx hb hts ii_X4_clear_X4 tyX4 tyX4_ok nmX4 hown hK hP hD hS 0 rfl rfl 6 (by decide) (hts _ mm_X4_clear_2) (fun _ h9 => h9) rfl (by decide +kernel) rfl rfl (Nat.le_of_ble_eq_true rfl) dX4_clear_7 (fun H locs hP hD hS => ?_)
  have hP : va_P (dC, dI) vwCl [(h0, .inr (5, [.ref h1, .ref h2, .ref h3, .ref h4, .ref h5, .int 0, .int 0, .int 0, .int 2, .int 0, .int 0, .int 0]))] H := hP
  have hD : va_D A [(h0, .inr (5, [.ref h1, .ref h2, .ref h3, .ref h4, .ref h5, .int 0, .int 0, .int 0, .int 2, .int 0, .int 0, .int 0]))] := hD
  refine lv_aload_n hx hb dX4_clear_10 rfl (lv_at hl 0 rfl) ?_
  refine lv_iconst (v := 0) hx hb dX4_clear_11 (by decide) ?_
  refine va_put (D := (dC, dI)) (ci := 5) (v := .int 0) (ty := .int) (C := RX4) (T := TX4) (N := 12) hx hb hts ii_X4_clear_X4 tyX4 tyX4_ok nmX4 hown hK hP hD hS 0 rfl rfl 7 (by decide) (hts _ mm_X4_clear_3) (fun _ h9 => h9) rfl (by decide +kernel) rfl rfl (Nat.le_of_ble_eq_true rfl) dX4_clear_12 (fun H locs hP hD hS => ?_)
  have hP : va_P (dC, dI) vwCl [(h0, .inr (5, [.ref h1, .ref h2, .ref h3, .ref h4, .ref h5, .int 0, .int 0, .int 0, .int 2, .int 0, .int 0, .int 0]))] H := hP
  have hD : va_D A [(h0, .inr (5, [.ref h1, .ref h2, .ref h3, .ref h4, .ref h5, .int 0, .int 0, .int 0, .int 2, .int 0, .int 0, .int 0]))] := hD
  refine lv_aload_n hx hb dX4_clear_15 rfl (lv_at hl 0 rfl) ?_
  refine lv_iconst (v := 2) hx hb dX4_clear_16 (by decide) ?_
  refine va_put (D := (dC, dI)) (ci := 5) (v := .int 2) (ty := .int) (C := RX4) (T := TX4) (N := 12) hx hb hts ii_X4_clear_X4 tyX4 tyX4_ok nmX4 hown hK hP hD hS 0 rfl rfl 8 (by decide) (hts _ mm_X4_clear_4) (fun _ h9 => h9) rfl (by decide +kernel) rfl rfl (Nat.le_of_ble_eq_true rfl) dX4_clear_17 (fun H locs hP hD hS => ?_)
  have hP : va_P (dC, dI) vwCl [(h0, .inr (5, [.ref h1, .ref h2, .ref h3, .ref h4, .ref h5, .int 0, .int 0, .int 0, .int 2, .int 0, .int 0, .int 0]))] H := hP
  have hD : va_D A [(h0, .inr (5, [.ref h1, .ref h2, .ref h3, .ref h4, .ref h5, .int 0, .int 0, .int 0, .int 2, .int 0, .int 0, .int 0]))] := hD
  refine lv_aload_n hx hb dX4_clear_20 rfl (lv_at hl 0 rfl) ?_
  refine lv_iconst (v := 0) hx hb dX4_clear_21 (by decide) ?_
  refine va_put (D := (dC, dI)) (ci := 5) (v := .int 0) (ty := .int) (C := RX4) (T := TX4) (N := 12) hx hb hts ii_X4_clear_X4 tyX4 tyX4_ok nmX4 hown hK hP hD hS 0 rfl rfl 9 (by decide) (hts _ mm_X4_clear_5) (fun _ h9 => h9) rfl (by decide +kernel) rfl rfl (Nat.le_of_ble_eq_true rfl) dX4_clear_22 (fun H locs hP hD hS => ?_)
  have hP : va_P (dC, dI) vwCl [(h0, .inr (5, [.ref h1, .ref h2, .ref h3, .ref h4, .ref h5, .int 0, .int 0, .int 0, .int 2, .int 0, .int 0, .int 0]))] H := hP
  have hD : va_D A [(h0, .inr (5, [.ref h1, .ref h2, .ref h3, .ref h4, .ref h5, .int 0, .int 0, .int 0, .int 2, .int 0, .int 0, .int 0]))] := hD
  refine lv_aload_n hx hb dX4_clear_25 rfl (lv_at hl 0 rfl) ?_
  refine lv_iconst (v := 0) hx hb dX4_clear_26 (by decide) ?_
  refine va_put (D := (dC, dI)) (ci := 5) (v := .int 0) (ty := .int) (C := RX4) (T := TX4) (N := 12) hx hb hts ii_X4_clear_X4 tyX4 tyX4_ok nmX4 hown hK hP hD hS 0 rfl rfl 10 (by decide) (hts _ mm_X4_clear_6) (fun _ h9 => h9) rfl (by decide +kernel) rfl rfl (Nat.le_of_ble_eq_true rfl) dX4_clear_27 (fun H locs hP hD hS => ?_)
  have hP : va_P (dC, dI) vwCl [(h0, .inr (5, [.ref h1, .ref h2, .ref h3, .ref h4, .ref h5, .int 0, .int 0, .int 0, .int 2, .int 0, .int 0, .int 0]))] H := hP
  have hD : va_D A [(h0, .inr (5, [.ref h1, .ref h2, .ref h3, .ref h4, .ref h5, .int 0, .int 0, .int 0, .int 2, .int 0, .int 0, .int 0]))] := hD
  refine lv_aload_n hx hb dX4_clear_30 rfl (lv_at hl 0 rfl) ?_
  refine lv_iconst (v := 0) hx hb dX4_clear_31 (by decide) ?_
  refine va_put (D := (dC, dI)) (ci := 5) (v := .int 0) (ty := .int) (C := RX4) (T := TX4) (N := 12) hx hb hts ii_X4_clear_X4 tyX4 tyX4_ok nmX4 hown hK hP hD hS 0 rfl rfl 11 (by decide) (hts _ mm_X4_clear_7) (fun _ h9 => h9) rfl (by decide +kernel) rfl rfl (Nat.le_of_ble_eq_true rfl) dX4_clear_32 (fun H locs hP hD hS => ?_)
  have hP : va_P (dC, dI) vwCl [(h0, .inr (5, [.ref h1, .ref h2, .ref h3, .ref h4, .ref h5, .int 0, .int 0, .int 0, .int 2, .int 0, .int 0, .int 0]))] H := hP
  have hD : va_D A [(h0, .inr (5, [.ref h1, .ref h2, .ref h3, .ref h4, .ref h5, .int 0, .int 0, .int 0, .int 2, .int 0, .int 0, .int 0]))] := hD
  have hP9 := hP.sub (ws' := [(h0, .inr (5, [.ref h1, .ref h2, .ref h3, .ref h4, .ref h5, .int 0, .int 0, .int 0, .int 2, .int 0, .int 0, .int 0]))]) [0] rfl
  have hD9 := hD.sub (ws' := [(h0, .inr (5, [.ref h1, .ref h2, .ref h3, .ref h4, .ref h5, .int 0, .int 0, .int 0, .int 2, .int 0, .int 0, .int 0]))]) [0] (by decide) rfl
  have hK9 := hK.sub (tys' := []) [] rfl
  refine W.widen (k := 0) (n := 0) (Nat.le_of_ble_eq_true rfl) (Nat.le_of_ble_eq_true rfl) ?_
  exact W.vret hx hb hr (fun t ht hW => ⟨⟨(), rfl, trivial, by rw [ht]; exact hP9, va_K.moved hW.alike hK9, hD9⟩, hS.F ht⟩) hS.2.2 dX4_clear_35
