set_option maxHeartbeats 4000000 in
set_option maxRecDepth 100000 in
theorem k_X12_startSo_1 (l : Launch) (dC : Nat → ClassId) (dI : Nat → Nat → Nat) (ad : Nat → Nat) (h0 h1 h2 h3 h4 h5 h6 h7 h8 h9 h10 h11 h12 h13 h14 h15 h16 : Nat) (f0 : Nat → Int32) (w0 : ClassId) (sz : Nat) : Met l yX12_startSo wsX12_startSo ({ frames := 0, cells := 0, slots := 0, locals := 0 }) (va_Pc [.ref h0] (CP (dC, dI) [(h1, .inl (w0, 373, .inl f0)), (h0, .inr (11, [.int 0, .ref h2, .int 0, .int 0, .int 900, .int 0, .int 0, .int 0, .int 0, .int 0, .int 0, .int 0, .long 0, .int 0, .ref h1, .ref h3, .ref h4, .ref h5, .ref h6, .ref h7, .ref h8, .ref h9, .ref h10, .int 0, .int 0, .int 0, .int 0, .int (-1), .int (-1), .long 0, .long 0, .ref h11, .ref h12, .int 0, .int (-1), .int 0, .ref h13, .int 0, .ref h14, .ref h15, .int 0, .int 0, .ref h16, .int 0, .int 0, .int 0, .int 0]))] [(w0, .int)] sz ad)) (va_Qv (fun _ : Unit => True) (fun (_ : Unit) (t : State) => ∃ (F0 : Nat → Int32), CQ (dC, dI) [(h1, .inl (w0, 373, .inl F0)), (h0, .inr (11, [.int 0, .ref h2, .int 0, .int 0, .int 900, .int 0, .int 0, .int 0, .int 0, .int 0, .int 0, .int 0, .long 0, .int 0, .ref h1, .ref h3, .ref h4, .ref h5, .ref h6, .ref h7, .ref h8, .ref h9, .ref h10, .int 0, .int 0, .int 0, .int 0, .int (-1), .int (-1), .long 0, .long 0, .ref h11, .ref h12, .int 0, .int (-1), .int 0, .ref h13, .int 0, .ref h14, .ref h15, .int 0, .int 0, .ref h16, .int 0, .int 0, .int 0, .int 0]))] [] (va_A [(h1, .inl (w0, 373, .inl f0)), (h0, .inr (11, [.int 0, .ref h2, .int 0, .int 0, .int 900, .int 0, .int 0, .int 0, .int 0, .int 0, .int 0, .int 0, .long 0, .int 0, .ref h1, .ref h3, .ref h4, .ref h5, .ref h6, .ref h7, .ref h8, .ref h9, .ref h10, .int 0, .int 0, .int 0, .int 0, .int (-1), .int (-1), .long 0, .long 0, .ref h11, .ref h12, .int 0, .int (-1), .int 0, .ref h13, .int 0, .ref h14, .ref h15, .int 0, .int 0, .ref h16, .int 0, .int 0, .int 0, .int 0]))] sz) t) (va_A [(h1, .inl (w0, 373, .inl f0)), (h0, .inr (11, [.int 0, .ref h2, .int 0, .int 0, .int 900, .int 0, .int 0, .int 0, .int 0, .int 0, .int 0, .int 0, .long 0, .int 0, .ref h1, .ref h3, .ref h4, .ref h5, .ref h6, .ref h7, .ref h8, .ref h9, .ref h10, .int 0, .int 0, .int 0, .int 0, .int (-1), .int (-1), .long 0, .long 0, .ref h11, .ref h12, .int 0, .int (-1), .int 0, .ref h13, .int 0, .ref h14, .ref h15, .int 0, .int 0, .ref h16, .int 0, .int 0, .int 0, .int 0]))] sz)) 0 0 (va_A [(h1, .inl (w0, 373, .inl f0)), (h0, .inr (11, [.int 0, .ref h2, .int 0, .int 0, .int 900, .int 0, .int 0, .int 0, .int 0, .int 0, .int 0, .int 0, .long 0, .int 0, .ref h1, .ref h3, .ref h4, .ref h5, .ref h6, .ref h7, .ref h8, .ref h9, .ref h10, .int 0, .int 0, .int 0, .int 0, .int (-1), .int (-1), .long 0, .long 0, .ref h11, .ref h12, .int 0, .int (-1), .int 0, .ref h13, .int 0, .ref h14, .ref h15, .int 0, .int 0, .ref h16, .int 0, .int 0, .int 0, .int 0]))] sz) := by
  refine Met.ofW (cc := cX12_startSo) (maxL := 2) (ret := none) (by decide) rfl ?_
  intro p e s m args below meth c s₁ B hml hv
  obtain ⟨rfl, hsz, hP, hK, hD0, hE⟩ := hv
  have hx := B.exec
  have hb := B.bytes
  have hr := B.returns
  have hts := atoms_spec (ws := wsX12_startSo) B.pre
  have hown : s.vm.findClass RX12 = some m.cls := findClass_of_methodNamed B.named
  have hlocks := B.notSynchronized
  subst hsz
  have hD := hD0.self (sz := s.heap.size)
  generalize hAe : va_A [(h1, .inl (w0, 373, .inl f0)), (h0, .inr (11, [.int 0, .ref h2, .int 0, .int 0, .int 900, .int 0, .int 0, .int 0, .int 0, .int 0, .int 0, .int 0, .long 0, .int 0, .ref h1, .ref h3, .ref h4, .ref h5, .ref h6, .ref h7, .ref h8, .ref h9, .ref h10, .int 0, .int 0, .int 0, .int 0, .int (-1), .int (-1), .long 0, .long 0, .ref h11, .ref h12, .int 0, .int (-1), .int 0, .ref h13, .int 0, .ref h14, .ref h15, .int 0, .int 0, .ref h16, .int 0, .int 0, .int 0, .int 0]))] s.heap.size = A at hD hE ⊢
  have hA : ∀ q : Nat, s.heap.size ≤ q → A q := fun q h => by rw [← hAe]; exact Or.inr h
  have hS : va_S A s.heap s.heap [] := va_S.rf
  have hl := lv_entry ([.ref h0]) (n := 2) (Nat.le_of_ble_eq_true rfl)
  rw [lg_entry_eq]
  generalize (lg_sl ([.ref h0]) ++ List.replicate (2 - (lg_sl ([.ref h0])).length) Slot.unset).toArray = ls at hl ⊢
  have hl : lv_has ls 2 [(0, .ref h0)] := hl
  refine lv_bipush (v := 61) hx hb dX12_startSo_0 (by decide) ?_
  refine lv_istore_n (lv' := [(1, .int 61), (0, .ref h0)]) hx hb dX12_startSo_2 rfl hl (by decide) rfl (fun ls hl => ?_)
  refine zz_loop (σ := (Nat → Int32)) (fun (k : Nat) (x : (Nat → Int32)) (H : Heap) (locs : List Loc) (ls : Array Slot) => 61 ≤ k ∧ va_P (dC, dI) vwCl [(h1, .inl (w0, 373, .inl x)), (h0, .inr (11, [.int 0, .ref h2, .int 0, .int 0, .int 900, .int 0, .int 0, .int 0, .int 0, .int 0, .int 0, .int 0, .long 0, .int 0, .ref h1, .ref h3, .ref h4, .ref h5, .ref h6, .ref h7, .ref h8, .ref h9, .ref h10, .int 0, .int 0, .int 0, .int 0, .int (-1), .int (-1), .long 0, .long 0, .ref h11, .ref h12, .int 0, .int (-1), .int 0, .ref h13, .int 0, .ref h14, .ref h15, .int 0, .int 0, .ref h16, .int 0, .int 0, .int 0, .int 0]))] H ∧ va_D A [(h1, .inl (w0, 373, .inl x)), (h0, .inr (11, [.int 0, .ref h2, .int 0, .int 0, .int 900, .int 0, .int 0, .int 0, .int 0, .int 0, .int 0, .int 0, .long 0, .int 0, .ref h1, .ref h3, .ref h4, .ref h5, .ref h6, .ref h7, .ref h8, .ref h9, .ref h10, .int 0, .int 0, .int 0, .int 0, .int (-1), .int (-1), .long 0, .long 0, .ref h11, .ref h12, .int 0, .int (-1), .int 0, .ref h13, .int 0, .ref h14, .ref h15, .int 0, .int 0, .ref h16, .int 0, .int 0, .int 0, .int 0]))] ∧ va_S A s.heap H locs ∧ lv_has ls 2 [(1, .int (nI k)), (0, .ref h0)]) 373 ?_ ?_ 61 f0 _ _ _ (by omega) ⟨by omega, hP, hD, hS, hl⟩
  · rintro k1 f2 H locs ls hkk1 ⟨hmk1, hP, hD, hS, hl⟩ ih
    have hP : va_P (dC, dI) vwCl [(h1, .inl (w0, 373, .inl f2)), (h0, .inr (11, [.int 0, .ref h2, .int 0, .int 0, .int 900, .int 0, .int 0, .int 0, .int 0, .int 0, .int 0, .int 0, .long 0, .int 0, .ref h1, .ref h3, .ref h4, .ref h5, .ref h6, .ref h7, .ref h8, .ref h9, .ref h10, .int 0, .int 0, .int 0, .int 0, .int (-1), .int (-1), .long 0, .long 0, .ref h11, .ref h12, .int 0, .int (-1), .int 0, .ref h13, .int 0, .ref h14, .ref h15, .int 0, .int 0, .ref h16, .int 0, .int 0, .int 0, .int 0]))] H := hP
    have hD : va_D A [(h1, .inl (w0, 373, .inl f2)), (h0, .inr (11, [.int 0, .ref h2, .int 0, .int 0, .int 900, .int 0, .int 0, .int 0, .int 0, .int 0, .int 0, .int 0, .long 0, .int 0, .ref h1, .ref h3, .ref h4, .ref h5, .ref h6, .ref h7, .ref h8, .ref h9, .ref h10, .int 0, .int 0, .int 0, .int 0, .int (-1), .int (-1), .long 0, .long 0, .ref h11, .ref h12, .int 0, .int (-1), .int 0, .ref h13, .int 0, .ref h14, .ref h15, .int 0, .int 0, .ref h16, .int 0, .int 0, .int 0, .int 0]))] := hD
    have hl : lv_has ls 2 [(1, .int (nI k1)), (0, .ref h0)] := hl
    refine lv_iload_n hx hb dX12_startSo_3 rfl (lv_at hl 0 rfl) ?_
    refine lv_sipush (v := 373) hx hb dX12_startSo_4 (by decide) ?_
    refine lv_icmp_ge (tgt := 23) hx hb dX12_startSo_7 (by decide) (fun c9 => absurd c9 (nI_ge (a := k1) (b := 373) (by omega) (by omega))) (fun _ => ?_)
    refine lv_aload_n hx hb dX12_startSo_10 rfl (lv_at hl 1 rfl) ?_
    refine va_get (D := (dC, dI)) (ci := 11) (v := .ref h1) (C := RX12) (T := TX12) (N := 47) hx hb hts ii_X12_startSo_X12 hown hK hP 1 rfl rfl 14 (by decide) (hts _ mm_X12_startSo_1) (fun _ h9 => h9) rfl dX12_startSo_11 ?_
    refine lv_iload_n hx hb dX12_startSo_14 rfl (lv_at hl 0 rfl) ?_
    refine lv_iconst (v := 0) hx hb dX12_startSo_15 (by decide) ?_
    refine va_iast hx hb hK hP hD hS 0 0 rfl rfl (i := (nI k1)) (vp_in_nI (by omega) (by decide)) dX12_startSo_16 (fun H locs hP hD hS => ?_)
    have hP : va_P (dC, dI) vwCl [(h1, .inl (w0, 373, .inl (upd f2 (nI k1).toNatClampNeg 0))), (h0, .inr (11, [.int 0, .ref h2, .int 0, .int 0, .int 900, .int 0, .int 0, .int 0, .int 0, .int 0, .int 0, .int 0, .long 0, .int 0, .ref h1, .ref h3, .ref h4, .ref h5, .ref h6, .ref h7, .ref h8, .ref h9, .ref h10, .int 0, .int 0, .int 0, .int 0, .int (-1), .int (-1), .long 0, .long 0, .ref h11, .ref h12, .int 0, .int (-1), .int 0, .ref h13, .int 0, .ref h14, .ref h15, .int 0, .int 0, .ref h16, .int 0, .int 0, .int 0, .int 0]))] H := hP
    have hD : va_D A [(h1, .inl (w0, 373, .inl (upd f2 (nI k1).toNatClampNeg 0))), (h0, .inr (11, [.int 0, .ref h2, .int 0, .int 0, .int 900, .int 0, .int 0, .int 0, .int 0, .int 0, .int 0, .int 0, .long 0, .int 0, .ref h1, .ref h3, .ref h4, .ref h5, .ref h6, .ref h7, .ref h8, .ref h9, .ref h10, .int 0, .int 0, .int 0, .int 0, .int (-1), .int (-1), .long 0, .long 0, .ref h11, .ref h12, .int 0, .int (-1), .int 0, .ref h13, .int 0, .ref h14, .ref h15, .int 0, .int 0, .ref h16, .int 0, .int 0, .int 0, .int 0]))] := hD
    refine lv_iinc (v := (nI (k1 + 1))) (lv' := [(1, .int (nI (k1 + 1))), (0, .ref h0)]) hx hb dX12_startSo_17 hl (k := 0) rfl (zz_addr k1 1) (by decide) rfl (fun ls hl => ?_)
    refine lv_goto (tgt := 3) hx hb dX12_startSo_20 (by decide) ?_
    exact ih ((upd f2 (nI k1).toNatClampNeg 0)) _ _ _ ⟨by omega, hP, hD, hS, lv_sub hl [0, 1] rfl⟩
  rintro f2 H locs ls ⟨-, hP, hD, hS, hl⟩
  have hP : va_P (dC, dI) vwCl [(h1, .inl (w0, 373, .inl f2)), (h0, .inr (11, [.int 0, .ref h2, .int 0, .int 0, .int 900, .int 0, .int 0, .int 0, .int 0, .int 0, .int 0, .int 0, .long 0, .int 0, .ref h1, .ref h3, .ref h4, .ref h5, .ref h6, .ref h7, .ref h8, .ref h9, .ref h10, .int 0, .int 0, .int 0, .int 0, .int (-1), .int (-1), .long 0, .long 0, .ref h11, .ref h12, .int 0, .int (-1), .int 0, .ref h13, .int 0, .ref h14, .ref h15, .int 0, .int 0, .ref h16, .int 0, .int 0, .int 0, .int 0]))] H := hP
  have hD : va_D A [(h1, .inl (w0, 373, .inl f2)), (h0, .inr (11, [.int 0, .ref h2, .int 0, .int 0, .int 900, .int 0, .int 0, .int 0, .int 0, .int 0, .int 0, .int 0, .long 0, .int 0, .ref h1, .ref h3, .ref h4, .ref h5, .ref h6, .ref h7, .ref h8, .ref h9, .ref h10, .int 0, .int 0, .int 0, .int 0, .int (-1), .int (-1), .long 0, .long 0, .ref h11, .ref h12, .int 0, .int (-1), .int 0, .ref h13, .int 0, .ref h14, .ref h15, .int 0, .int 0, .ref h16, .int 0, .int 0, .int 0, .int 0]))] := hD
  have hl : lv_has ls 2 [(1, .int 373), (0, .ref h0)] := hl
  refine lv_iload_n hx hb dX12_startSo_3 rfl (lv_at hl 0 rfl) ?_
  refine lv_sipush (v := 373) hx hb dX12_startSo_4 (by decide) ?_
  refine lv_icmp_ge (tgt := 23) hx hb dX12_startSo_7 (by decide) (fun _ => ?_) (fun c3 => absurd (by decide) c3)
  refine lv_aload_n hx hb dX12_startSo_23 rfl (lv_at hl 1 rfl) ?_
  refine va_get (D := (dC, dI)) (ci := 11) (v := .ref h1) (C := RX12) (T := TX12) (N := 47) hx hb hts ii_X12_startSo_X12 hown hK hP 1 rfl rfl 14 (by decide) (hts _ mm_X12_startSo_1) (fun _ h9 => h9) rfl dX12_startSo_24 ?_
  refine lv_bipush (v := 62) hx hb dX12_startSo_27 (by decide) ?_
  refine lv_aload_n hx hb dX12_startSo_29 rfl (lv_at hl 1 rfl) ?_
  refine va_get (D := (dC, dI)) (ci := 11) (v := .ref h1) (C := RX12) (T := TX12) (N := 47) hx hb hts ii_X12_startSo_X12 hown hK hP 1 rfl rfl 14 (by decide) (hts _ mm_X12_startSo_1) (fun _ h9 => h9) rfl dX12_startSo_30 ?_
  refine lv_bipush (v := 60) hx hb dX12_startSo_33 (by decide) ?_
  refine va_iald hx hb hK hP 0 0 rfl rfl (i := 60) (zz_in (by decide)) dX12_startSo_35 ?_
  refine lv_topi (fun z4 ez4 => ?_)
  refine va_iast hx hb hK hP hD hS 0 0 rfl rfl (i := 62) (zz_in (by decide)) dX12_startSo_36 (fun H locs hP hD hS => ?_)
  have hP : va_P (dC, dI) vwCl [(h1, .inl (w0, 373, .inl (upd f2 62 z4))), (h0, .inr (11, [.int 0, .ref h2, .int 0, .int 0, .int 900, .int 0, .int 0, .int 0, .int 0, .int 0, .int 0, .int 0, .long 0, .int 0, .ref h1, .ref h3, .ref h4, .ref h5, .ref h6, .ref h7, .ref h8, .ref h9, .ref h10, .int 0, .int 0, .int 0, .int 0, .int (-1), .int (-1), .long 0, .long 0, .ref h11, .ref h12, .int 0, .int (-1), .int 0, .ref h13, .int 0, .ref h14, .ref h15, .int 0, .int 0, .ref h16, .int 0, .int 0, .int 0, .int 0]))] H := hP
  have hD : va_D A [(h1, .inl (w0, 373, .inl (upd f2 62 z4))), (h0, .inr (11, [.int 0, .ref h2, .int 0, .int 0, .int 900, .int 0, .int 0, .int 0, .int 0, .int 0, .int 0, .int 0, .long 0, .int 0, .ref h1, .ref h3, .ref h4, .ref h5, .ref h6, .ref h7, .ref h8, .ref h9, .ref h10, .int 0, .int 0, .int 0, .int 0, .int (-1), .int (-1), .long 0, .long 0, .ref h11, .ref h12, .int 0, .int (-1), .int 0, .ref h13, .int 0, .ref h14, .ref h15, .int 0, .int 0, .ref h16, .int 0, .int 0, .int 0, .int 0]))] := hD
  refine lv_aload_n hx hb dX12_startSo_37 rfl (lv_at hl 1 rfl) ?_
  refine va_get (D := (dC, dI)) (ci := 11) (v := .ref h1) (C := RX12) (T := TX12) (N := 47) hx hb hts ii_X12_startSo_X12 hown hK hP 1 rfl rfl 14 (by decide) (hts _ mm_X12_startSo_1) (fun _ h9 => h9) rfl dX12_startSo_38 ?_
  refine lv_bipush (v := 65) hx hb dX12_startSo_41 (by decide) ?_
  refine lv_aload_n hx hb dX12_startSo_43 rfl (lv_at hl 1 rfl) ?_
  refine va_get (D := (dC, dI)) (ci := 11) (v := .ref h1) (C := RX12) (T := TX12) (N := 47) hx hb hts ii_X12_startSo_X12 hown hK hP 1 rfl rfl 14 (by decide) (hts _ mm_X12_startSo_1) (fun _ h9 => h9) rfl dX12_startSo_44 ?_
  refine lv_bipush (v := 9) hx hb dX12_startSo_47 (by decide) ?_
  refine va_iald hx hb hK hP 0 0 rfl rfl (i := 9) (zz_in (by decide)) dX12_startSo_49 ?_
  refine lv_topi (fun z5 ez5 => ?_)
  refine va_iast hx hb hK hP hD hS 0 0 rfl rfl (i := 65) (zz_in (by decide)) dX12_startSo_50 (fun H locs hP hD hS => ?_)
  have hP : va_P (dC, dI) vwCl [(h1, .inl (w0, 373, .inl (upd (upd f2 62 z4) 65 z5))), (h0, .inr (11, [.int 0, .ref h2, .int 0, .int 0, .int 900, .int 0, .int 0, .int 0, .int 0, .int 0, .int 0, .int 0, .long 0, .int 0, .ref h1, .ref h3, .ref h4, .ref h5, .ref h6, .ref h7, .ref h8, .ref h9, .ref h10, .int 0, .int 0, .int 0, .int 0, .int (-1), .int (-1), .long 0, .long 0, .ref h11, .ref h12, .int 0, .int (-1), .int 0, .ref h13, .int 0, .ref h14, .ref h15, .int 0, .int 0, .ref h16, .int 0, .int 0, .int 0, .int 0]))] H := hP
  have hD : va_D A [(h1, .inl (w0, 373, .inl (upd (upd f2 62 z4) 65 z5))), (h0, .inr (11, [.int 0, .ref h2, .int 0, .int 0, .int 900, .int 0, .int 0, .int 0, .int 0, .int 0, .int 0, .int 0, .long 0, .int 0, .ref h1, .ref h3, .ref h4, .ref h5, .ref h6, .ref h7, .ref h8, .ref h9, .ref h10, .int 0, .int 0, .int 0, .int 0, .int (-1), .int (-1), .long 0, .long 0, .ref h11, .ref h12, .int 0, .int (-1), .int 0, .ref h13, .int 0, .ref h14, .ref h15, .int 0, .int 0, .ref h16, .int 0, .int 0, .int 0, .int 0]))] := hD
  refine lv_iconst (v := 0) hx hb dX12_startSo_51 (by decide) ?_
  refine lv_istore_n (lv' := [(1, .int 0), (0, .ref h0)]) hx hb dX12_startSo_52 rfl hl (by decide) rfl (fun ls hl => ?_)
  refine lv_iload_n hx hb dX12_startSo_53 rfl (lv_at hl 0 rfl) ?_
  refine lv_iconst (v := 5) hx hb dX12_startSo_54 (by decide) ?_
  refine lv_icmp_ge (tgt := 81) hx hb dX12_startSo_55 (by decide) (fun c6 => absurd c6 (by decide)) (fun _ => ?_)
  refine lv_aload_n hx hb dX12_startSo_58 rfl (lv_at hl 1 rfl) ?_
  refine va_get (D := (dC, dI)) (ci := 11) (v := .ref h1) (C := RX12) (T := TX12) (N := 47) hx hb hts ii_X12_startSo_X12 hown hK hP 1 rfl rfl 14 (by decide) (hts _ mm_X12_startSo_1) (fun _ h9 => h9) rfl dX12_startSo_59 ?_
  refine lv_bipush (v := 66) hx hb dX12_startSo_62 (by decide) ?_
  refine lv_iload_n hx hb dX12_startSo_64 rfl (lv_at hl 0 rfl) ?_
  refine lv_iadd hx hb dX12_startSo_65 ?_
  refine zz_top (v := 66) (by decide) ?_
  refine lv_aload_n hx hb dX12_startSo_66 rfl (lv_at hl 1 rfl) ?_
  refine va_get (D := (dC, dI)) (ci := 11) (v := .ref h1) (C := RX12) (T := TX12) (N := 47) hx hb hts ii_X12_startSo_X12 hown hK hP 1 rfl rfl 14 (by decide) (hts _ mm_X12_startSo_1) (fun _ h9 => h9) rfl dX12_startSo_67 ?_
  refine lv_iconst (v := 4) hx hb dX12_startSo_70 (by decide) ?_
  refine lv_iload_n hx hb dX12_startSo_71 rfl (lv_at hl 0 rfl) ?_
  refine lv_iadd hx hb dX12_startSo_72 ?_
  refine zz_top (v := 4) (by decide) ?_
  refine va_iald hx hb hK hP 0 0 rfl rfl (i := 4) (zz_in (by decide)) dX12_startSo_73 ?_
  refine lv_topi (fun z7 ez7 => ?_)
  refine va_iast hx hb hK hP hD hS 0 0 rfl rfl (i := 66) (zz_in (by decide)) dX12_startSo_74 (fun H locs hP hD hS => ?_)
  have hP : va_P (dC, dI) vwCl [(h1, .inl (w0, 373, .inl (upd (upd (upd f2 62 z4) 65 z5) 66 z7))), (h0, .inr (11, [.int 0, .ref h2, .int 0, .int 0, .int 900, .int 0, .int 0, .int 0, .int 0, .int 0, .int 0, .int 0, .long 0, .int 0, .ref h1, .ref h3, .ref h4, .ref h5, .ref h6, .ref h7, .ref h8, .ref h9, .ref h10, .int 0, .int 0, .int 0, .int 0, .int (-1), .int (-1), .long 0, .long 0, .ref h11, .ref h12, .int 0, .int (-1), .int 0, .ref h13, .int 0, .ref h14, .ref h15, .int 0, .int 0, .ref h16, .int 0, .int 0, .int 0, .int 0]))] H := hP
  have hD : va_D A [(h1, .inl (w0, 373, .inl (upd (upd (upd f2 62 z4) 65 z5) 66 z7))), (h0, .inr (11, [.int 0, .ref h2, .int 0, .int 0, .int 900, .int 0, .int 0, .int 0, .int 0, .int 0, .int 0, .int 0, .long 0, .int 0, .ref h1, .ref h3, .ref h4, .ref h5, .ref h6, .ref h7, .ref h8, .ref h9, .ref h10, .int 0, .int 0, .int 0, .int 0, .int (-1), .int (-1), .long 0, .long 0, .ref h11, .ref h12, .int 0, .int (-1), .int 0, .ref h13, .int 0, .ref h14, .ref h15, .int 0, .int 0, .ref h16, .int 0, .int 0, .int 0, .int 0]))] := hD
  refine lv_iinc (v := 1) (lv' := [(1, .int 1), (0, .ref h0)]) hx hb dX12_startSo_75 hl (k := 0) rfl (by decide) (by decide) rfl (fun ls hl => ?_)
  refine lv_goto (tgt := 53) hx hb dX12_startSo_78 (by decide) ?_
  refine lv_iload_n hx hb dX12_startSo_53 rfl (lv_at hl 0 rfl) ?_
  refine lv_iconst (v := 5) hx hb dX12_startSo_54 (by decide) ?_
  refine lv_icmp_ge (tgt := 81) hx hb dX12_startSo_55 (by decide) (fun c8 => absurd c8 (by decide)) (fun _ => ?_)
  refine lv_aload_n hx hb dX12_startSo_58 rfl (lv_at hl 1 rfl) ?_
  refine va_get (D := (dC, dI)) (ci := 11) (v := .ref h1) (C := RX12) (T := TX12) (N := 47) hx hb hts ii_X12_startSo_X12 hown hK hP 1 rfl rfl 14 (by decide) (hts _ mm_X12_startSo_1) (fun _ h9 => h9) rfl dX12_startSo_59 ?_
  refine lv_bipush (v := 66) hx hb dX12_startSo_62 (by decide) ?_
  refine lv_iload_n hx hb dX12_startSo_64 rfl (lv_at hl 0 rfl) ?_
  refine lv_iadd hx hb dX12_startSo_65 ?_
  refine zz_top (v := 67) (by decide) ?_
  refine lv_aload_n hx hb dX12_startSo_66 rfl (lv_at hl 1 rfl) ?_
  refine va_get (D := (dC, dI)) (ci := 11) (v := .ref h1) (C := RX12) (T := TX12) (N := 47) hx hb hts ii_X12_startSo_X12 hown hK hP 1 rfl rfl 14 (by decide) (hts _ mm_X12_startSo_1) (fun _ h9 => h9) rfl dX12_startSo_67 ?_
  refine lv_iconst (v := 4) hx hb dX12_startSo_70 (by decide) ?_
  refine lv_iload_n hx hb dX12_startSo_71 rfl (lv_at hl 0 rfl) ?_
  refine lv_iadd hx hb dX12_startSo_72 ?_
  refine zz_top (v := 5) (by decide) ?_
  refine va_iald hx hb hK hP 0 0 rfl rfl (i := 5) (zz_in (by decide)) dX12_startSo_73 ?_
  refine lv_topi (fun z9 ez9 => ?_)
  refine va_iast hx hb hK hP hD hS 0 0 rfl rfl (i := 67) (zz_in (by decide)) dX12_startSo_74 (fun H locs hP hD hS => ?_)
  have hP : va_P (dC, dI) vwCl [(h1, .inl (w0, 373, .inl (upd (upd (upd (upd f2 62 z4) 65 z5) 66 z7) 67 z9))), (h0, .inr (11, [.int 0, .ref h2, .int 0, .int 0, .int 900, .int 0, .int 0, .int 0, .int 0, .int 0, .int 0, .int 0, .long 0, .int 0, .ref h1, .ref h3, .ref h4, .ref h5, .ref h6, .ref h7, .ref h8, .ref h9, .ref h10, .int 0, .int 0, .int 0, .int 0, .int (-1), .int (-1), .long 0, .long 0, .ref h11, .ref h12, .int 0, .int (-1), .int 0, .ref h13, .int 0, .ref h14, .ref h15, .int 0, .int 0, .ref h16, .int 0, .int 0, .int 0, .int 0]))] H := hP
  have hD : va_D A [(h1, .inl (w0, 373, .inl (upd (upd (upd (upd f2 62 z4) 65 z5) 66 z7) 67 z9))), (h0, .inr (11, [.int 0, .ref h2, .int 0, .int 0, .int 900, .int 0, .int 0, .int 0, .int 0, .int 0, .int 0, .int 0, .long 0, .int 0, .ref h1, .ref h3, .ref h4, .ref h5, .ref h6, .ref h7, .ref h8, .ref h9, .ref h10, .int 0, .int 0, .int 0, .int 0, .int (-1), .int (-1), .long 0, .long 0, .ref h11, .ref h12, .int 0, .int (-1), .int 0, .ref h13, .int 0, .ref h14, .ref h15, .int 0, .int 0, .ref h16, .int 0, .int 0, .int 0, .int 0]))] := hD
  refine lv_iinc (v := 2) (lv' := [(1, .int 2), (0, .ref h0)]) hx hb dX12_startSo_75 hl (k := 0) rfl (by decide) (by decide) rfl (fun ls hl => ?_)
  refine lv_goto (tgt := 53) hx hb dX12_startSo_78 (by decide) ?_
  refine lv_iload_n hx hb dX12_startSo_53 rfl (lv_at hl 0 rfl) ?_
  refine lv_iconst (v := 5) hx hb dX12_startSo_54 (by decide) ?_
  refine lv_icmp_ge (tgt := 81) hx hb dX12_startSo_55 (by decide) (fun c10 => absurd c10 (by decide)) (fun _ => ?_)
  refine lv_aload_n hx hb dX12_startSo_58 rfl (lv_at hl 1 rfl) ?_
  refine va_get (D := (dC, dI)) (ci := 11) (v := .ref h1) (C := RX12) (T := TX12) (N := 47) hx hb hts ii_X12_startSo_X12 hown hK hP 1 rfl rfl 14 (by decide) (hts _ mm_X12_startSo_1) (fun _ h9 => h9) rfl dX12_startSo_59 ?_
  refine lv_bipush (v := 66) hx hb dX12_startSo_62 (by decide) ?_
  refine lv_iload_n hx hb dX12_startSo_64 rfl (lv_at hl 0 rfl) ?_
  refine lv_iadd hx hb dX12_startSo_65 ?_
  refine zz_top (v := 68) (by decide) ?_
  refine lv_aload_n hx hb dX12_startSo_66 rfl (lv_at hl 1 rfl) ?_
  refine va_get (D := (dC, dI)) (ci := 11) (v := .ref h1) (C := RX12) (T := TX12) (N := 47) hx hb hts ii_X12_startSo_X12 hown hK hP 1 rfl rfl 14 (by decide) (hts _ mm_X12_startSo_1) (fun _ h9 => h9) rfl dX12_startSo_67 ?_
  refine lv_iconst (v := 4) hx hb dX12_startSo_70 (by decide) ?_
  refine lv_iload_n hx hb dX12_startSo_71 rfl (lv_at hl 0 rfl) ?_
  refine lv_iadd hx hb dX12_startSo_72 ?_
  refine zz_top (v := 6) (by decide) ?_
  refine va_iald hx hb hK hP 0 0 rfl rfl (i := 6) (zz_in (by decide)) dX12_startSo_73 ?_
  refine lv_topi (fun z11 ez11 => ?_)
  refine va_iast hx hb hK hP hD hS 0 0 rfl rfl (i := 68) (zz_in (by decide)) dX12_startSo_74 (fun H locs hP hD hS => ?_)
  have hP : va_P (dC, dI) vwCl [(h1, .inl (w0, 373, .inl (upd (upd (upd (upd (upd f2 62 z4) 65 z5) 66 z7) 67 z9) 68 z11))), (h0, .inr (11, [.int 0, .ref h2, .int 0, .int 0, .int 900, .int 0, .int 0, .int 0, .int 0, .int 0, .int 0, .int 0, .long 0, .int 0, .ref h1, .ref h3, .ref h4, .ref h5, .ref h6, .ref h7, .ref h8, .ref h9, .ref h10, .int 0, .int 0, .int 0, .int 0, .int (-1), .int (-1), .long 0, .long 0, .ref h11, .ref h12, .int 0, .int (-1), .int 0, .ref h13, .int 0, .ref h14, .ref h15, .int 0, .int 0, .ref h16, .int 0, .int 0, .int 0, .int 0]))] H := hP
  have hD : va_D A [(h1, .inl (w0, 373, .inl (upd (upd (upd (upd (upd f2 62 z4) 65 z5) 66 z7) 67 z9) 68 z11))), (h0, .inr (11, [.int 0, .ref h2, .int 0, .int 0, .int 900, .int 0, .int 0, .int 0, .int 0, .int 0, .int 0, .int 0, .long 0, .int 0, .ref h1, .ref h3, .ref h4, .ref h5, .ref h6, .ref h7, .ref h8, .ref h9, .ref h10, .int 0, .int 0, .int 0, .int 0, .int (-1), .int (-1), .long 0, .long 0, .ref h11, .ref h12, .int 0, .int (-1), .int 0, .ref h13, .int 0, .ref h14, .ref h15, .int 0, .int 0, .ref h16, .int 0, .int 0, .int 0, .int 0]))] := hD
  refine lv_iinc (v := 3) (lv' := [(1, .int 3), (0, .ref h0)]) hx hb dX12_startSo_75 hl (k := 0) rfl (by decide) (by decide) rfl (fun ls hl => ?_)
  refine lv_goto (tgt := 53) hx hb dX12_startSo_78 (by decide) ?_
  refine lv_iload_n hx hb dX12_startSo_53 rfl (lv_at hl 0 rfl) ?_
  refine lv_iconst (v := 5) hx hb dX12_startSo_54 (by decide) ?_
  refine lv_icmp_ge (tgt := 81) hx hb dX12_startSo_55 (by decide) (fun c12 => absurd c12 (by decide)) (fun _ => ?_)
  refine lv_aload_n hx hb dX12_startSo_58 rfl (lv_at hl 1 rfl) ?_
  refine va_get (D := (dC, dI)) (ci := 11) (v := .ref h1) (C := RX12) (T := TX12) (N := 47) hx hb hts ii_X12_startSo_X12 hown hK hP 1 rfl rfl 14 (by decide) (hts _ mm_X12_startSo_1) (fun _ h9 => h9) rfl dX12_startSo_59 ?_
  refine lv_bipush (v := 66) hx hb dX12_startSo_62 (by decide) ?_
  refine lv_iload_n hx hb dX12_startSo_64 rfl (lv_at hl 0 rfl) ?_
  refine lv_iadd hx hb dX12_startSo_65 ?_
  refine zz_top (v := 69) (by decide) ?_
  refine lv_aload_n hx hb dX12_startSo_66 rfl (lv_at hl 1 rfl) ?_
  refine va_get (D := (dC, dI)) (ci := 11) (v := .ref h1) (C := RX12) (T := TX12) (N := 47) hx hb hts ii_X12_startSo_X12 hown hK hP 1 rfl rfl 14 (by decide) (hts _ mm_X12_startSo_1) (fun _ h9 => h9) rfl dX12_startSo_67 ?_
  refine lv_iconst (v := 4) hx hb dX12_startSo_70 (by decide) ?_
  refine lv_iload_n hx hb dX12_startSo_71 rfl (lv_at hl 0 rfl) ?_
  refine lv_iadd hx hb dX12_startSo_72 ?_
  refine zz_top (v := 7) (by decide) ?_
  refine va_iald hx hb hK hP 0 0 rfl rfl (i := 7) (zz_in (by decide)) dX12_startSo_73 ?_
  refine lv_topi (fun z13 ez13 => ?_)
  refine va_iast hx hb hK hP hD hS 0 0 rfl rfl (i := 69) (zz_in (by decide)) dX12_startSo_74 (fun H locs hP hD hS => ?_)
  have hP : va_P (dC, dI) vwCl [(h1, .inl (w0, 373, .inl (upd (upd (upd (upd (upd (upd f2 62 z4) 65 z5) 66 z7) 67 z9) 68 z11) 69 z13))), (h0, .inr (11, [.int 0, .ref h2, .int 0, .int 0, .int 900, .int 0, .int 0, .int 0, .int 0, .int 0, .int 0, .int 0, .long 0, .int 0, .ref h1, .ref h3, .ref h4, .ref h5, .ref h6, .ref h7, .ref h8, .ref h9, .ref h10, .int 0, .int 0, .int 0, .int 0, .int (-1), .int (-1), .long 0, .long 0, .ref h11, .ref h12, .int 0, .int (-1), .int 0, .ref h13, .int 0, .ref h14, .ref h15, .int 0, .int 0, .ref h16, .int 0, .int 0, .int 0, .int 0]))] H := hP
  have hD : va_D A [(h1, .inl (w0, 373, .inl (upd (upd (upd (upd (upd (upd f2 62 z4) 65 z5) 66 z7) 67 z9) 68 z11) 69 z13))), (h0, .inr (11, [.int 0, .ref h2, .int 0, .int 0, .int 900, .int 0, .int 0, .int 0, .int 0, .int 0, .int 0, .int 0, .long 0, .int 0, .ref h1, .ref h3, .ref h4, .ref h5, .ref h6, .ref h7, .ref h8, .ref h9, .ref h10, .int 0, .int 0, .int 0, .int 0, .int (-1), .int (-1), .long 0, .long 0, .ref h11, .ref h12, .int 0, .int (-1), .int 0, .ref h13, .int 0, .ref h14, .ref h15, .int 0, .int 0, .ref h16, .int 0, .int 0, .int 0, .int 0]))] := hD
  refine lv_iinc (v := 4) (lv' := [(1, .int 4), (0, .ref h0)]) hx hb dX12_startSo_75 hl (k := 0) rfl (by decide) (by decide) rfl (fun ls hl => ?_)
  refine lv_goto (tgt := 53) hx hb dX12_startSo_78 (by decide) ?_
  refine lv_iload_n hx hb dX12_startSo_53 rfl (lv_at hl 0 rfl) ?_
  refine lv_iconst (v := 5) hx hb dX12_startSo_54 (by decide) ?_
  refine lv_icmp_ge (tgt := 81) hx hb dX12_startSo_55 (by decide) (fun c14 => absurd c14 (by decide)) (fun _ => ?_)
  refine lv_aload_n hx hb dX12_startSo_58 rfl (lv_at hl 1 rfl) ?_
  refine va_get (D := (dC, dI)) (ci := 11) (v := .ref h1) (C := RX12) (T := TX12) (N := 47) hx hb hts ii_X12_startSo_X12 hown hK hP 1 rfl rfl 14 (by decide) (hts _ mm_X12_startSo_1) (fun _ h9 => h9) rfl dX12_startSo_59 ?_
  refine lv_bipush (v := 66) hx hb dX12_startSo_62 (by decide) ?_
  refine lv_iload_n hx hb dX12_startSo_64 rfl (lv_at hl 0 rfl) ?_
  refine lv_iadd hx hb dX12_startSo_65 ?_
  refine zz_top (v := 70) (by decide) ?_
  refine lv_aload_n hx hb dX12_startSo_66 rfl (lv_at hl 1 rfl) ?_
  refine va_get (D := (dC, dI)) (ci := 11) (v := .ref h1) (C := RX12) (T := TX12) (N := 47) hx hb hts ii_X12_startSo_X12 hown hK hP 1 rfl rfl 14 (by decide) (hts _ mm_X12_startSo_1) (fun _ h9 => h9) rfl dX12_startSo_67 ?_
  refine lv_iconst (v := 4) hx hb dX12_startSo_70 (by decide) ?_
  refine lv_iload_n hx hb dX12_startSo_71 rfl (lv_at hl 0 rfl) ?_
  refine lv_iadd hx hb dX12_startSo_72 ?_
  refine zz_top (v := 8) (by decide) ?_
  refine va_iald hx hb hK hP 0 0 rfl rfl (i := 8) (zz_in (by decide)) dX12_startSo_73 ?_
  refine lv_topi (fun z15 ez15 => ?_)
  refine va_iast hx hb hK hP hD hS 0 0 rfl rfl (i := 70) (zz_in (by decide)) dX12_startSo_74 (fun H locs hP hD hS => ?_)
  have hP : va_P (dC, dI) vwCl [(h1, .inl (w0, 373, .inl (upd (upd (upd (upd (upd (upd (upd f2 62 z4) 65 z5) 66 z7) 67 z9) 68 z11) 69 z13) 70 z15))), (h0, .inr (11, [.int 0, .ref h2, .int 0, .int 0, .int 900, .int 0, .int 0, .int 0, .int 0, .int 0, .int 0, .int 0, .long 0, .int 0, .ref h1, .ref h3, .ref h4, .ref h5, .ref h6, .ref h7, .ref h8, .ref h9, .ref h10, .int 0, .int 0, .int 0, .int 0, .int (-1), .int (-1), .long 0, .long 0, .ref h11, .ref h12, .int 0, .int (-1), .int 0, .ref h13, .int 0, .ref h14, .ref h15, .int 0, .int 0, .ref h16, .int 0, .int 0, .int 0, .int 0]))] H := hP
  have hD : va_D A [(h1, .inl (w0, 373, .inl (upd (upd (upd (upd (upd (upd (upd f2 62 z4) 65 z5) 66 z7) 67 z9) 68 z11) 69 z13) 70 z15))), (h0, .inr (11, [.int 0, .ref h2, .int 0, .int 0, .int 900, .int 0, .int 0, .int 0, .int 0, .int 0, .int 0, .int 0, .long 0, .int 0, .ref h1, .ref h3, .ref h4, .ref h5, .ref h6, .ref h7, .ref h8, .ref h9, .ref h10, .int 0, .int 0, .int 0, .int 0, .int (-1), .int (-1), .long 0, .long 0, .ref h11, .ref h12, .int 0, .int (-1), .int 0, .ref h13, .int 0, .ref h14, .ref h15, .int 0, .int 0, .ref h16, .int 0, .int 0, .int 0, .int 0]))] := hD
  refine lv_iinc (v := 5) (lv' := [(1, .int 5), (0, .ref h0)]) hx hb dX12_startSo_75 hl (k := 0) rfl (by decide) (by decide) rfl (fun ls hl => ?_)
  refine lv_goto (tgt := 53) hx hb dX12_startSo_78 (by decide) ?_
  refine lv_iload_n hx hb dX12_startSo_53 rfl (lv_at hl 0 rfl) ?_
  refine lv_iconst (v := 5) hx hb dX12_startSo_54 (by decide) ?_
  refine lv_icmp_ge (tgt := 81) hx hb dX12_startSo_55 (by decide) (fun _ => ?_) (fun c16 => absurd (by decide) c16)
  refine lv_iconst (v := 0) hx hb dX12_startSo_81 (by decide) ?_
  refine lv_istore_n (lv' := [(1, .int 0), (0, .ref h0)]) hx hb dX12_startSo_82 rfl hl (by decide) rfl (fun ls hl => ?_)
  refine lv_iload_n hx hb dX12_startSo_83 rfl (lv_at hl 0 rfl) ?_
  refine lv_bipush (v := 8) hx hb dX12_startSo_84 (by decide) ?_
  refine lv_icmp_ge (tgt := 149) hx hb dX12_startSo_86 (by decide) (fun c17 => absurd c17 (by decide)) (fun _ => ?_)
  refine lv_aload_n hx hb dX12_startSo_89 rfl (lv_at hl 1 rfl) ?_
  refine va_get (D := (dC, dI)) (ci := 11) (v := .ref h1) (C := RX12) (T := TX12) (N := 47) hx hb hts ii_X12_startSo_X12 hown hK hP 1 rfl rfl 14 (by decide) (hts _ mm_X12_startSo_1) (fun _ h9 => h9) rfl dX12_startSo_90 ?_
  refine lv_bipush (v := 71) hx hb dX12_startSo_93 (by decide) ?_
  refine lv_iload_n hx hb dX12_startSo_95 rfl (lv_at hl 0 rfl) ?_
  refine lv_iadd hx hb dX12_startSo_96 ?_
  refine zz_top (v := 71) (by decide) ?_
  refine lv_aload_n hx hb dX12_startSo_97 rfl (lv_at hl 1 rfl) ?_
  refine va_get (D := (dC, dI)) (ci := 11) (v := .ref h1) (C := RX12) (T := TX12) (N := 47) hx hb hts ii_X12_startSo_X12 hown hK hP 1 rfl rfl 14 (by decide) (hts _ mm_X12_startSo_1) (fun _ h9 => h9) rfl dX12_startSo_98 ?_
  refine lv_bipush (v := 10) hx hb dX12_startSo_101 (by decide) ?_
  refine lv_iload_n hx hb dX12_startSo_103 rfl (lv_at hl 0 rfl) ?_
  refine lv_iadd hx hb dX12_startSo_104 ?_
  refine zz_top (v := 10) (by decide) ?_
  refine va_iald hx hb hK hP 0 0 rfl rfl (i := 10) (zz_in (by decide)) dX12_startSo_105 ?_
  refine lv_topi (fun z18 ez18 => ?_)
  refine va_iast hx hb hK hP hD hS 0 0 rfl rfl (i := 71) (zz_in (by decide)) dX12_startSo_106 (fun H locs hP hD hS => ?_)
  have hP : va_P (dC, dI) vwCl [(h1, .inl (w0, 373, .inl (upd (upd (upd (upd (upd (upd (upd (upd f2 62 z4) 65 z5) 66 z7) 67 z9) 68 z11) 69 z13) 70 z15) 71 z18))), (h0, .inr (11, [.int 0, .ref h2, .int 0, .int 0, .int 900, .int 0, .int 0, .int 0, .int 0, .int 0, .int 0, .int 0, .long 0, .int 0, .ref h1, .ref h3, .ref h4, .ref h5, .ref h6, .ref h7, .ref h8, .ref h9, .ref h10, .int 0, .int 0, .int 0, .int 0, .int (-1), .int (-1), .long 0, .long 0, .ref h11, .ref h12, .int 0, .int (-1), .int 0, .ref h13, .int 0, .ref h14, .ref h15, .int 0, .int 0, .ref h16, .int 0, .int 0, .int 0, .int 0]))] H := hP
  have hD : va_D A [(h1, .inl (w0, 373, .inl (upd (upd (upd (upd (upd (upd (upd (upd f2 62 z4) 65 z5) 66 z7) 67 z9) 68 z11) 69 z13) 70 z15) 71 z18))), (h0, .inr (11, [.int 0, .ref h2, .int 0, .int 0, .int 900, .int 0, .int 0, .int 0, .int 0, .int 0, .int 0, .int 0, .long 0, .int 0, .ref h1, .ref h3, .ref h4, .ref h5, .ref h6, .ref h7, .ref h8, .ref h9, .ref h10, .int 0, .int 0, .int 0, .int 0, .int (-1), .int (-1), .long 0, .long 0, .ref h11, .ref h12, .int 0, .int (-1), .int 0, .ref h13, .int 0, .ref h14, .ref h15, .int 0, .int 0, .ref h16, .int 0, .int 0, .int 0, .int 0]))] := hD
  refine lv_aload_n hx hb dX12_startSo_107 rfl (lv_at hl 1 rfl) ?_
  refine va_get (D := (dC, dI)) (ci := 11) (v := .ref h1) (C := RX12) (T := TX12) (N := 47) hx hb hts ii_X12_startSo_X12 hown hK hP 1 rfl rfl 14 (by decide) (hts _ mm_X12_startSo_1) (fun _ h9 => h9) rfl dX12_startSo_108 ?_
  refine lv_bipush (v := 79) hx hb dX12_startSo_111 (by decide) ?_
  refine lv_iload_n hx hb dX12_startSo_113 rfl (lv_at hl 0 rfl) ?_
  refine lv_iadd hx hb dX12_startSo_114 ?_
  refine zz_top (v := 79) (by decide) ?_
  refine lv_aload_n hx hb dX12_startSo_115 rfl (lv_at hl 1 rfl) ?_
  refine va_get (D := (dC, dI)) (ci := 11) (v := .ref h1) (C := RX12) (T := TX12) (N := 47) hx hb hts ii_X12_startSo_X12 hown hK hP 1 rfl rfl 14 (by decide) (hts _ mm_X12_startSo_1) (fun _ h9 => h9) rfl dX12_startSo_116 ?_
  refine lv_bipush (v := 18) hx hb dX12_startSo_119 (by decide) ?_
  refine lv_iload_n hx hb dX12_startSo_121 rfl (lv_at hl 0 rfl) ?_
  refine lv_iadd hx hb dX12_startSo_122 ?_
  refine zz_top (v := 18) (by decide) ?_
  refine va_iald hx hb hK hP 0 0 rfl rfl (i := 18) (zz_in (by decide)) dX12_startSo_123 ?_
  refine lv_topi (fun z19 ez19 => ?_)
  refine va_iast hx hb hK hP hD hS 0 0 rfl rfl (i := 79) (zz_in (by decide)) dX12_startSo_124 (fun H locs hP hD hS => ?_)
  have hP : va_P (dC, dI) vwCl [(h1, .inl (w0, 373, .inl (upd (upd (upd (upd (upd (upd (upd (upd (upd f2 62 z4) 65 z5) 66 z7) 67 z9) 68 z11) 69 z13) 70 z15) 71 z18) 79 z19))), (h0, .inr (11, [.int 0, .ref h2, .int 0, .int 0, .int 900, .int 0, .int 0, .int 0, .int 0, .int 0, .int 0, .int 0, .long 0, .int 0, .ref h1, .ref h3, .ref h4, .ref h5, .ref h6, .ref h7, .ref h8, .ref h9, .ref h10, .int 0, .int 0, .int 0, .int 0, .int (-1), .int (-1), .long 0, .long 0, .ref h11, .ref h12, .int 0, .int (-1), .int 0, .ref h13, .int 0, .ref h14, .ref h15, .int 0, .int 0, .ref h16, .int 0, .int 0, .int 0, .int 0]))] H := hP
  have hD : va_D A [(h1, .inl (w0, 373, .inl (upd (upd (upd (upd (upd (upd (upd (upd (upd f2 62 z4) 65 z5) 66 z7) 67 z9) 68 z11) 69 z13) 70 z15) 71 z18) 79 z19))), (h0, .inr (11, [.int 0, .ref h2, .int 0, .int 0, .int 900, .int 0, .int 0, .int 0, .int 0, .int 0, .int 0, .int 0, .long 0, .int 0, .ref h1, .ref h3, .ref h4, .ref h5, .ref h6, .ref h7, .ref h8, .ref h9, .ref h10, .int 0, .int 0, .int 0, .int 0, .int (-1), .int (-1), .long 0, .long 0, .ref h11, .ref h12, .int 0, .int (-1), .int 0, .ref h13, .int 0, .ref h14, .ref h15, .int 0, .int 0, .ref h16, .int 0, .int 0, .int 0, .int 0]))] := hD
  refine lv_aload_n hx hb dX12_startSo_125 rfl (lv_at hl 1 rfl) ?_
  refine va_get (D := (dC, dI)) (ci := 11) (v := .ref h1) (C := RX12) (T := TX12) (N := 47) hx hb hts ii_X12_startSo_X12 hown hK hP 1 rfl rfl 14 (by decide) (hts _ mm_X12_startSo_1) (fun _ h9 => h9) rfl dX12_startSo_126 ?_
  refine lv_bipush (v := 87) hx hb dX12_startSo_129 (by decide) ?_
  refine lv_iload_n hx hb dX12_startSo_131 rfl (lv_at hl 0 rfl) ?_
  refine lv_iadd hx hb dX12_startSo_132 ?_
  refine zz_top (v := 87) (by decide) ?_
  refine lv_aload_n hx hb dX12_startSo_133 rfl (lv_at hl 1 rfl) ?_
  refine va_get (D := (dC, dI)) (ci := 11) (v := .ref h1) (C := RX12) (T := TX12) (N := 47) hx hb hts ii_X12_startSo_X12 hown hK hP 1 rfl rfl 14 (by decide) (hts _ mm_X12_startSo_1) (fun _ h9 => h9) rfl dX12_startSo_134 ?_
  refine lv_bipush (v := 26) hx hb dX12_startSo_137 (by decide) ?_
  refine lv_iload_n hx hb dX12_startSo_139 rfl (lv_at hl 0 rfl) ?_
  refine lv_iadd hx hb dX12_startSo_140 ?_
  refine zz_top (v := 26) (by decide) ?_
  refine va_iald hx hb hK hP 0 0 rfl rfl (i := 26) (zz_in (by decide)) dX12_startSo_141 ?_
  refine lv_topi (fun z20 ez20 => ?_)
  refine va_iast hx hb hK hP hD hS 0 0 rfl rfl (i := 87) (zz_in (by decide)) dX12_startSo_142 (fun H locs hP hD hS => ?_)
  have hP : va_P (dC, dI) vwCl [(h1, .inl (w0, 373, .inl (upd (upd (upd (upd (upd (upd (upd (upd (upd (upd f2 62 z4) 65 z5) 66 z7) 67 z9) 68 z11) 69 z13) 70 z15) 71 z18) 79 z19) 87 z20))), (h0, .inr (11, [.int 0, .ref h2, .int 0, .int 0, .int 900, .int 0, .int 0, .int 0, .int 0, .int 0, .int 0, .int 0, .long 0, .int 0, .ref h1, .ref h3, .ref h4, .ref h5, .ref h6, .ref h7, .ref h8, .ref h9, .ref h10, .int 0, .int 0, .int 0, .int 0, .int (-1), .int (-1), .long 0, .long 0, .ref h11, .ref h12, .int 0, .int (-1), .int 0, .ref h13, .int 0, .ref h14, .ref h15, .int 0, .int 0, .ref h16, .int 0, .int 0, .int 0, .int 0]))] H := hP
  have hD : va_D A [(h1, .inl (w0, 373, .inl (upd (upd (upd (upd (upd (upd (upd (upd (upd (upd f2 62 z4) 65 z5) 66 z7) 67 z9) 68 z11) 69 z13) 70 z15) 71 z18) 79 z19) 87 z20))), (h0, .inr (11, [.int 0, .ref h2, .int 0, .int 0, .int 900, .int 0, .int 0, .int 0, .int 0, .int 0, .int 0, .int 0, .long 0, .int 0, .ref h1, .ref h3, .ref h4, .ref h5, .ref h6, .ref h7, .ref h8, .ref h9, .ref h10, .int 0, .int 0, .int 0, .int 0, .int (-1), .int (-1), .long 0, .long 0, .ref h11, .ref h12, .int 0, .int (-1), .int 0, .ref h13, .int 0, .ref h14, .ref h15, .int 0, .int 0, .ref h16, .int 0, .int 0, .int 0, .int 0]))] := hD
  refine lv_iinc (v := 1) (lv' := [(1, .int 1), (0, .ref h0)]) hx hb dX12_startSo_143 hl (k := 0) rfl (by decide) (by decide) rfl (fun ls hl => ?_)
  refine lv_goto (tgt := 83) hx hb dX12_startSo_146 (by decide) ?_
  refine lv_iload_n hx hb dX12_startSo_83 rfl (lv_at hl 0 rfl) ?_
  refine lv_bipush (v := 8) hx hb dX12_startSo_84 (by decide) ?_
  refine lv_icmp_ge (tgt := 149) hx hb dX12_startSo_86 (by decide) (fun c21 => absurd c21 (by decide)) (fun _ => ?_)
  refine lv_aload_n hx hb dX12_startSo_89 rfl (lv_at hl 1 rfl) ?_
  refine va_get (D := (dC, dI)) (ci := 11) (v := .ref h1) (C := RX12) (T := TX12) (N := 47) hx hb hts ii_X12_startSo_X12 hown hK hP 1 rfl rfl 14 (by decide) (hts _ mm_X12_startSo_1) (fun _ h9 => h9) rfl dX12_startSo_90 ?_
  refine lv_bipush (v := 71) hx hb dX12_startSo_93 (by decide) ?_
  refine lv_iload_n hx hb dX12_startSo_95 rfl (lv_at hl 0 rfl) ?_
  refine lv_iadd hx hb dX12_startSo_96 ?_
  refine zz_top (v := 72) (by decide) ?_
  refine lv_aload_n hx hb dX12_startSo_97 rfl (lv_at hl 1 rfl) ?_
  refine va_get (D := (dC, dI)) (ci := 11) (v := .ref h1) (C := RX12) (T := TX12) (N := 47) hx hb hts ii_X12_startSo_X12 hown hK hP 1 rfl rfl 14 (by decide) (hts _ mm_X12_startSo_1) (fun _ h9 => h9) rfl dX12_startSo_98 ?_
  refine lv_bipush (v := 10) hx hb dX12_startSo_101 (by decide) ?_
  refine lv_iload_n hx hb dX12_startSo_103 rfl (lv_at hl 0 rfl) ?_
  refine lv_iadd hx hb dX12_startSo_104 ?_
  refine zz_top (v := 11) (by decide) ?_
  refine va_iald hx hb hK hP 0 0 rfl rfl (i := 11) (zz_in (by decide)) dX12_startSo_105 ?_
  refine lv_topi (fun z22 ez22 => ?_)
  refine va_iast hx hb hK hP hD hS 0 0 rfl rfl (i := 72) (zz_in (by decide)) dX12_startSo_106 (fun H locs hP hD hS => ?_)
  have hP : va_P (dC, dI) vwCl [(h1, .inl (w0, 373, .inl (upd (upd (upd (upd (upd (upd (upd (upd (upd (upd (upd f2 62 z4) 65 z5) 66 z7) 67 z9) 68 z11) 69 z13) 70 z15) 71 z18) 79 z19) 87 z20) 72 z22))), (h0, .inr (11, [.int 0, .ref h2, .int 0, .int 0, .int 900, .int 0, .int 0, .int 0, .int 0, .int 0, .int 0, .int 0, .long 0, .int 0, .ref h1, .ref h3, .ref h4, .ref h5, .ref h6, .ref h7, .ref h8, .ref h9, .ref h10, .int 0, .int 0, .int 0, .int 0, .int (-1), .int (-1), .long 0, .long 0, .ref h11, .ref h12, .int 0, .int (-1), .int 0, .ref h13, .int 0, .ref h14, .ref h15, .int 0, .int 0, .ref h16, .int 0, .int 0, .int 0, .int 0]))] H := hP
  have hD : va_D A [(h1, .inl (w0, 373, .inl (upd (upd (upd (upd (upd (upd (upd (upd (upd (upd (upd f2 62 z4) 65 z5) 66 z7) 67 z9) 68 z11) 69 z13) 70 z15) 71 z18) 79 z19) 87 z20) 72 z22))), (h0, .inr (11, [.int 0, .ref h2, .int 0, .int 0, .int 900, .int 0, .int 0, .int 0, .int 0, .int 0, .int 0, .int 0, .long 0, .int 0, .ref h1, .ref h3, .ref h4, .ref h5, .ref h6, .ref h7, .ref h8, .ref h9, .ref h10, .int 0, .int 0, .int 0, .int 0, .int (-1), .int (-1), .long 0, .long 0, .ref h11, .ref h12, .int 0, .int (-1), .int 0, .ref h13, .int 0, .ref h14, .ref h15, .int 0, .int 0, .ref h16, .int 0, .int 0, .int 0, .int 0]))] := hD
  refine lv_aload_n hx hb dX12_startSo_107 rfl (lv_at hl 1 rfl) ?_
  refine va_get (D := (dC, dI)) (ci := 11) (v := .ref h1) (C := RX12) (T := TX12) (N := 47) hx hb hts ii_X12_startSo_X12 hown hK hP 1 rfl rfl 14 (by decide) (hts _ mm_X12_startSo_1) (fun _ h9 => h9) rfl dX12_startSo_108 ?_
  refine lv_bipush (v := 79) hx hb dX12_startSo_111 (by decide) ?_
  refine lv_iload_n hx hb dX12_startSo_113 rfl (lv_at hl 0 rfl) ?_
  refine lv_iadd hx hb dX12_startSo_114 ?_
  refine zz_top (v := 80) (by decide) ?_
  refine lv_aload_n hx hb dX12_startSo_115 rfl (lv_at hl 1 rfl) ?_
  refine va_get (D := (dC, dI)) (ci := 11) (v := .ref h1) (C := RX12) (T := TX12) (N := 47) hx hb hts ii_X12_startSo_X12 hown hK hP 1 rfl rfl 14 (by decide) (hts _ mm_X12_startSo_1) (fun _ h9 => h9) rfl dX12_startSo_116 ?_
  refine lv_bipush (v := 18) hx hb dX12_startSo_119 (by decide) ?_
  refine lv_iload_n hx hb dX12_startSo_121 rfl (lv_at hl 0 rfl) ?_
  refine lv_iadd hx hb dX12_startSo_122 ?_
  refine zz_top (v := 19) (by decide) ?_
  refine va_iald hx hb hK hP 0 0 rfl rfl (i := 19) (zz_in (by decide)) dX12_startSo_123 ?_
  refine lv_topi (fun z23 ez23 => ?_)
  refine va_iast hx hb hK hP hD hS 0 0 rfl rfl (i := 80) (zz_in (by decide)) dX12_startSo_124 (fun H locs hP hD hS => ?_)
  have hP : va_P (dC, dI) vwCl [(h1, .inl (w0, 373, .inl (upd (upd (upd (upd (upd (upd (upd (upd (upd (upd (upd (upd f2 62 z4) 65 z5) 66 z7) 67 z9) 68 z11) 69 z13) 70 z15) 71 z18) 79 z19) 87 z20) 72 z22) 80 z23))), (h0, .inr (11, [.int 0, .ref h2, .int 0, .int 0, .int 900, .int 0, .int 0, .int 0, .int 0, .int 0, .int 0, .int 0, .long 0, .int 0, .ref h1, .ref h3, .ref h4, .ref h5, .ref h6, .ref h7, .ref h8, .ref h9, .ref h10, .int 0, .int 0, .int 0, .int 0, .int (-1), .int (-1), .long 0, .long 0, .ref h11, .ref h12, .int 0, .int (-1), .int 0, .ref h13, .int 0, .ref h14, .ref h15, .int 0, .int 0, .ref h16, .int 0, .int 0, .int 0, .int 0]))] H := hP
  have hD : va_D A [(h1, .inl (w0, 373, .inl (upd (upd (upd (upd (upd (upd (upd (upd (upd (upd (upd (upd f2 62 z4) 65 z5) 66 z7) 67 z9) 68 z11) 69 z13) 70 z15) 71 z18) 79 z19) 87 z20) 72 z22) 80 z23))), (h0, .inr (11, [.int 0, .ref h2, .int 0, .int 0, .int 900, .int 0, .int 0, .int 0, .int 0, .int 0, .int 0, .int 0, .long 0, .int 0, .ref h1, .ref h3, .ref h4, .ref h5, .ref h6, .ref h7, .ref h8, .ref h9, .ref h10, .int 0, .int 0, .int 0, .int 0, .int (-1), .int (-1), .long 0, .long 0, .ref h11, .ref h12, .int 0, .int (-1), .int 0, .ref h13, .int 0, .ref h14, .ref h15, .int 0, .int 0, .ref h16, .int 0, .int 0, .int 0, .int 0]))] := hD
  refine lv_aload_n hx hb dX12_startSo_125 rfl (lv_at hl 1 rfl) ?_
  refine va_get (D := (dC, dI)) (ci := 11) (v := .ref h1) (C := RX12) (T := TX12) (N := 47) hx hb hts ii_X12_startSo_X12 hown hK hP 1 rfl rfl 14 (by decide) (hts _ mm_X12_startSo_1) (fun _ h9 => h9) rfl dX12_startSo_126 ?_
  refine lv_bipush (v := 87) hx hb dX12_startSo_129 (by decide) ?_
  refine lv_iload_n hx hb dX12_startSo_131 rfl (lv_at hl 0 rfl) ?_
  refine lv_iadd hx hb dX12_startSo_132 ?_
  refine zz_top (v := 88) (by decide) ?_
  refine lv_aload_n hx hb dX12_startSo_133 rfl (lv_at hl 1 rfl) ?_
  refine va_get (D := (dC, dI)) (ci := 11) (v := .ref h1) (C := RX12) (T := TX12) (N := 47) hx hb hts ii_X12_startSo_X12 hown hK hP 1 rfl rfl 14 (by decide) (hts _ mm_X12_startSo_1) (fun _ h9 => h9) rfl dX12_startSo_134 ?_
  refine lv_bipush (v := 26) hx hb dX12_startSo_137 (by decide) ?_
  refine lv_iload_n hx hb dX12_startSo_139 rfl (lv_at hl 0 rfl) ?_
  refine lv_iadd hx hb dX12_startSo_140 ?_
  refine zz_top (v := 27) (by decide) ?_
  refine va_iald hx hb hK hP 0 0 rfl rfl (i := 27) (zz_in (by decide)) dX12_startSo_141 ?_
  refine lv_topi (fun z24 ez24 => ?_)
  refine va_iast hx hb hK hP hD hS 0 0 rfl rfl (i := 88) (zz_in (by decide)) dX12_startSo_142 (fun H locs hP hD hS => ?_)
  have hP : va_P (dC, dI) vwCl [(h1, .inl (w0, 373, .inl (upd (upd (upd (upd (upd (upd (upd (upd (upd (upd (upd (upd (upd f2 62 z4) 65 z5) 66 z7) 67 z9) 68 z11) 69 z13) 70 z15) 71 z18) 79 z19) 87 z20) 72 z22) 80 z23) 88 z24))), (h0, .inr (11, [.int 0, .ref h2, .int 0, .int 0, .int 900, .int 0, .int 0, .int 0, .int 0, .int 0, .int 0, .int 0, .long 0, .int 0, .ref h1, .ref h3, .ref h4, .ref h5, .ref h6, .ref h7, .ref h8, .ref h9, .ref h10, .int 0, .int 0, .int 0, .int 0, .int (-1), .int (-1), .long 0, .long 0, .ref h11, .ref h12, .int 0, .int (-1), .int 0, .ref h13, .int 0, .ref h14, .ref h15, .int 0, .int 0, .ref h16, .int 0, .int 0, .int 0, .int 0]))] H := hP
  have hD : va_D A [(h1, .inl (w0, 373, .inl (upd (upd (upd (upd (upd (upd (upd (upd (upd (upd (upd (upd (upd f2 62 z4) 65 z5) 66 z7) 67 z9) 68 z11) 69 z13) 70 z15) 71 z18) 79 z19) 87 z20) 72 z22) 80 z23) 88 z24))), (h0, .inr (11, [.int 0, .ref h2, .int 0, .int 0, .int 900, .int 0, .int 0, .int 0, .int 0, .int 0, .int 0, .int 0, .long 0, .int 0, .ref h1, .ref h3, .ref h4, .ref h5, .ref h6, .ref h7, .ref h8, .ref h9, .ref h10, .int 0, .int 0, .int 0, .int 0, .int (-1), .int (-1), .long 0, .long 0, .ref h11, .ref h12, .int 0, .int (-1), .int 0, .ref h13, .int 0, .ref h14, .ref h15, .int 0, .int 0, .ref h16, .int 0, .int 0, .int 0, .int 0]))] := hD
  refine lv_iinc (v := 2) (lv' := [(1, .int 2), (0, .ref h0)]) hx hb dX12_startSo_143 hl (k := 0) rfl (by decide) (by decide) rfl (fun ls hl => ?_)
  refine lv_goto (tgt := 83) hx hb dX12_startSo_146 (by decide) ?_
  refine lv_iload_n hx hb dX12_startSo_83 rfl (lv_at hl 0 rfl) ?_
  refine lv_bipush (v := 8) hx hb dX12_startSo_84 (by decide) ?_
  refine lv_icmp_ge (tgt := 149) hx hb dX12_startSo_86 (by decide) (fun c25 => absurd c25 (by decide)) (fun _ => ?_)
  refine lv_aload_n hx hb dX12_startSo_89 rfl (lv_at hl 1 rfl) ?_
  refine va_get (D := (dC, dI)) (ci := 11) (v := .ref h1) (C := RX12) (T := TX12) (N := 47) hx hb hts ii_X12_startSo_X12 hown hK hP 1 rfl rfl 14 (by decide) (hts _ mm_X12_startSo_1) (fun _ h9 => h9) rfl dX12_startSo_90 ?_
  refine lv_bipush (v := 71) hx hb dX12_startSo_93 (by decide) ?_
  refine lv_iload_n hx hb dX12_startSo_95 rfl (lv_at hl 0 rfl) ?_
  refine lv_iadd hx hb dX12_startSo_96 ?_
  refine zz_top (v := 73) (by decide) ?_
  refine lv_aload_n hx hb dX12_startSo_97 rfl (lv_at hl 1 rfl) ?_
  refine va_get (D := (dC, dI)) (ci := 11) (v := .ref h1) (C := RX12) (T := TX12) (N := 47) hx hb hts ii_X12_startSo_X12 hown hK hP 1 rfl rfl 14 (by decide) (hts _ mm_X12_startSo_1) (fun _ h9 => h9) rfl dX12_startSo_98 ?_
  refine lv_bipush (v := 10) hx hb dX12_startSo_101 (by decide) ?_
  refine lv_iload_n hx hb dX12_startSo_103 rfl (lv_at hl 0 rfl) ?_
  refine lv_iadd hx hb dX12_startSo_104 ?_
  refine zz_top (v := 12) (by decide) ?_
  refine va_iald hx hb hK hP 0 0 rfl rfl (i := 12) (zz_in (by decide)) dX12_startSo_105 ?_
  refine lv_topi (fun z26 ez26 => ?_)
  refine va_iast hx hb hK hP hD hS 0 0 rfl rfl (i := 73) (zz_in (by decide)) dX12_startSo_106 (fun H locs hP hD hS => ?_)
  have hP : va_P (dC, dI) vwCl [(h1, .inl (w0, 373, .inl (upd (upd (upd (upd (upd (upd (upd (upd (upd (upd (upd (upd (upd (upd f2 62 z4) 65 z5) 66 z7) 67 z9) 68 z11) 69 z13) 70 z15) 71 z18) 79 z19) 87 z20) 72 z22) 80 z23) 88 z24) 73 z26))), (h0, .inr (11, [.int 0, .ref h2, .int 0, .int 0, .int 900, .int 0, .int 0, .int 0, .int 0, .int 0, .int 0, .int 0, .long 0, .int 0, .ref h1, .ref h3, .ref h4, .ref h5, .ref h6, .ref h7, .ref h8, .ref h9, .ref h10, .int 0, .int 0, .int 0, .int 0, .int (-1), .int (-1), .long 0, .long 0, .ref h11, .ref h12, .int 0, .int (-1), .int 0, .ref h13, .int 0, .ref h14, .ref h15, .int 0, .int 0, .ref h16, .int 0, .int 0, .int 0, .int 0]))] H := hP
  have hD : va_D A [(h1, .inl (w0, 373, .inl (upd (upd (upd (upd (upd (upd (upd (upd (upd (upd (upd (upd (upd (upd f2 62 z4) 65 z5) 66 z7) 67 z9) 68 z11) 69 z13) 70 z15) 71 z18) 79 z19) 87 z20) 72 z22) 80 z23) 88 z24) 73 z26))), (h0, .inr (11, [.int 0, .ref h2, .int 0, .int 0, .int 900, .int 0, .int 0, .int 0, .int 0, .int 0, .int 0, .int 0, .long 0, .int 0, .ref h1, .ref h3, .ref h4, .ref h5, .ref h6, .ref h7, .ref h8, .ref h9, .ref h10, .int 0, .int 0, .int 0, .int 0, .int (-1), .int (-1), .long 0, .long 0, .ref h11, .ref h12, .int 0, .int (-1), .int 0, .ref h13, .int 0, .ref h14, .ref h15, .int 0, .int 0, .ref h16, .int 0, .int 0, .int 0, .int 0]))] := hD
  refine lv_aload_n hx hb dX12_startSo_107 rfl (lv_at hl 1 rfl) ?_
  refine va_get (D := (dC, dI)) (ci := 11) (v := .ref h1) (C := RX12) (T := TX12) (N := 47) hx hb hts ii_X12_startSo_X12 hown hK hP 1 rfl rfl 14 (by decide) (hts _ mm_X12_startSo_1) (fun _ h9 => h9) rfl dX12_startSo_108 ?_
  refine lv_bipush (v := 79) hx hb dX12_startSo_111 (by decide) ?_
  refine lv_iload_n hx hb dX12_startSo_113 rfl (lv_at hl 0 rfl) ?_
  refine lv_iadd hx hb dX12_startSo_114 ?_
  refine zz_top (v := 81) (by decide) ?_
  refine lv_aload_n hx hb dX12_startSo_115 rfl (lv_at hl 1 rfl) ?_
  refine va_get (D := (dC, dI)) (ci := 11) (v := .ref h1) (C := RX12) (T := TX12) (N := 47) hx hb hts ii_X12_startSo_X12 hown hK hP 1 rfl rfl 14 (by decide) (hts _ mm_X12_startSo_1) (fun _ h9 => h9) rfl dX12_startSo_116 ?_
  refine lv_bipush (v := 18) hx hb dX12_startSo_119 (by decide) ?_
  refine lv_iload_n hx hb dX12_startSo_121 rfl (lv_at hl 0 rfl) ?_
  refine lv_iadd hx hb dX12_startSo_122 ?_
  refine zz_top (v := 20) (by decide) ?_
  refine va_iald hx hb hK hP 0 0 rfl rfl (i := 20) (zz_in (by decide)) dX12_startSo_123 ?_
  refine lv_topi (fun z27 ez27 => ?_)
  refine va_iast hx hb hK hP hD hS 0 0 rfl rfl (i := 81) (zz_in (by decide)) dX12_startSo_124 (fun H locs hP hD hS => ?_)
  have hP : va_P (dC, dI) vwCl [(h1, .inl (w0, 373, .inl (upd (upd (upd (upd (upd (upd (upd (upd (upd (upd (upd (upd (upd (upd (upd f2 62 z4) 65 z5) 66 z7) 67 z9) 68 z11) 69 z13) 70 z15) 71 z18) 79 z19) 87 z20) 72 z22) 80 z23) 88 z24) 73 z26) 81 z27))), (h0, .inr (11, [.int 0, .ref h2, .int 0, .int 0, .int 900, .int 0, .int 0, .int 0, .int 0, .int 0, .int 0, .int 0, .long 0, .int 0, .ref h1, .ref h3, .ref h4, .ref h5, .ref h6, .ref h7, .ref h8, .ref h9, .ref h10, .int 0, .int 0, .int 0, .int 0, .int (-1), .int (-1), .long 0, .long 0, .ref h11, .ref h12, .int 0, .int (-1), .int 0, .ref h13, .int 0, .ref h14, .ref h15, .int 0, .int 0, .ref h16, .int 0, .int 0, .int 0, .int 0]))] H := hP
  have hD : va_D A [(h1, .inl (w0, 373, .inl (upd (upd (upd (upd (upd (upd (upd (upd (upd (upd (upd (upd (upd (upd (upd f2 62 z4) 65 z5) 66 z7) 67 z9) 68 z11) 69 z13) 70 z15) 71 z18) 79 z19) 87 z20) 72 z22) 80 z23) 88 z24) 73 z26) 81 z27))), (h0, .inr (11, [.int 0, .ref h2, .int 0, .int 0, .int 900, .int 0, .int 0, .int 0, .int 0, .int 0, .int 0, .int 0, .long 0, .int 0, .ref h1, .ref h3, .ref h4, .ref h5, .ref h6, .ref h7, .ref h8, .ref h9, .ref h10, .int 0, .int 0, .int 0, .int 0, .int (-1), .int (-1), .long 0, .long 0, .ref h11, .ref h12, .int 0, .int (-1), .int 0, .ref h13, .int 0, .ref h14, .ref h15, .int 0, .int 0, .ref h16, .int 0, .int 0, .int 0, .int 0]))] := hD
  refine lv_aload_n hx hb dX12_startSo_125 rfl (lv_at hl 1 rfl) ?_
  refine va_get (D := (dC, dI)) (ci := 11) (v := .ref h1) (C := RX12) (T := TX12) (N := 47) hx hb hts ii_X12_startSo_X12 hown hK hP 1 rfl rfl 14 (by decide) (hts _ mm_X12_startSo_1) (fun _ h9 => h9) rfl dX12_startSo_126 ?_
  refine lv_bipush (v := 87) hx hb dX12_startSo_129 (by decide) ?_
  refine lv_iload_n hx hb dX12_startSo_131 rfl (lv_at hl 0 rfl) ?_
  refine lv_iadd hx hb dX12_startSo_132 ?_
  refine zz_top (v := 89) (by decide) ?_
  refine lv_aload_n hx hb dX12_startSo_133 rfl (lv_at hl 1 rfl) ?_
  refine va_get (D := (dC, dI)) (ci := 11) (v := .ref h1) (C := RX12) (T := TX12) (N := 47) hx hb hts ii_X12_startSo_X12 hown hK hP 1 rfl rfl 14 (by decide) (hts _ mm_X12_startSo_1) (fun _ h9 => h9) rfl dX12_startSo_134 ?_
  refine lv_bipush (v := 26) hx hb dX12_startSo_137 (by decide) ?_
  refine lv_iload_n hx hb dX12_startSo_139 rfl (lv_at hl 0 rfl) ?_
  refine lv_iadd hx hb dX12_startSo_140 ?_
  refine zz_top (v := 28) (by decide) ?_
  refine va_iald hx hb hK hP 0 0 rfl rfl (i := 28) (zz_in (by decide)) dX12_startSo_141 ?_
  refine lv_topi (fun z28 ez28 => ?_)
  refine va_iast hx hb hK hP hD hS 0 0 rfl rfl (i := 89) (zz_in (by decide)) dX12_startSo_142 (fun H locs hP hD hS => ?_)
  have hP : va_P (dC, dI) vwCl [(h1, .inl (w0, 373, .inl (upd (upd (upd (upd (upd (upd (upd (upd (upd (upd (upd (upd (upd (upd (upd (upd f2 62 z4) 65 z5) 66 z7) 67 z9) 68 z11) 69 z13) 70 z15) 71 z18) 79 z19) 87 z20) 72 z22) 80 z23) 88 z24) 73 z26) 81 z27) 89 z28))), (h0, .inr (11, [.int 0, .ref h2, .int 0, .int 0, .int 900, .int 0, .int 0, .int 0, .int 0, .int 0, .int 0, .int 0, .long 0, .int 0, .ref h1, .ref h3, .ref h4, .ref h5, .ref h6, .ref h7, .ref h8, .ref h9, .ref h10, .int 0, .int 0, .int 0, .int 0, .int (-1), .int (-1), .long 0, .long 0, .ref h11, .ref h12, .int 0, .int (-1), .int 0, .ref h13, .int 0, .ref h14, .ref h15, .int 0, .int 0, .ref h16, .int 0, .int 0, .int 0, .int 0]))] H := hP
  have hD : va_D A [(h1, .inl (w0, 373, .inl (upd (upd (upd (upd (upd (upd (upd (upd (upd (upd (upd (upd (upd (upd (upd (upd f2 62 z4) 65 z5) 66 z7) 67 z9) 68 z11) 69 z13) 70 z15) 71 z18) 79 z19) 87 z20) 72 z22) 80 z23) 88 z24) 73 z26) 81 z27) 89 z28))), (h0, .inr (11, [.int 0, .ref h2, .int 0, .int 0, .int 900, .int 0, .int 0, .int 0, .int 0, .int 0, .int 0, .int 0, .long 0, .int 0, .ref h1, .ref h3, .ref h4, .ref h5, .ref h6, .ref h7, .ref h8, .ref h9, .ref h10, .int 0, .int 0, .int 0, .int 0, .int (-1), .int (-1), .long 0, .long 0, .ref h11, .ref h12, .int 0, .int (-1), .int 0, .ref h13, .int 0, .ref h14, .ref h15, .int 0, .int 0, .ref h16, .int 0, .int 0, .int 0, .int 0]))] := hD
  refine lv_iinc (v := 3) (lv' := [(1, .int 3), (0, .ref h0)]) hx hb dX12_startSo_143 hl (k := 0) rfl (by decide) (by decide) rfl (fun ls hl => ?_)
  refine lv_goto (tgt := 83) hx hb dX12_startSo_146 (by decide) ?_
  refine lv_iload_n hx hb dX12_startSo_83 rfl (lv_at hl 0 rfl) ?_
  refine lv_bipush (v := 8) hx hb dX12_startSo_84 (by decide) ?_
  refine lv_icmp_ge (tgt := 149) hx hb dX12_startSo_86 (by decide) (fun c29 => absurd c29 (by decide)) (fun _ => ?_)
  refine lv_aload_n hx hb dX12_startSo_89 rfl (lv_at hl 1 rfl) ?_
  refine va_get (D := (dC, dI)) (ci := 11) (v := .ref h1) (C := RX12) (T := TX12) (N := 47) hx hb hts ii_X12_startSo_X12 hown hK hP 1 rfl rfl 14 (by decide) (hts _ mm_X12_startSo_1) (fun _ h9 => h9) rfl dX12_startSo_90 ?_
  refine lv_bipush (v := 71) hx hb dX12_startSo_93 (by decide) ?_
  refine lv_iload_n hx hb dX12_startSo_95 rfl (lv_at hl 0 rfl) ?_
  refine lv_iadd hx hb dX12_startSo_96 ?_
  refine zz_top (v := 74) (by decide) ?_
  refine lv_aload_n hx hb dX12_startSo_97 rfl (lv_at hl 1 rfl) ?_
  refine va_get (D := (dC, dI)) (ci := 11) (v := .ref h1) (C := RX12) (T := TX12) (N := 47) hx hb hts ii_X12_startSo_X12 hown hK hP 1 rfl rfl 14 (by decide) (hts _ mm_X12_startSo_1) (fun _ h9 => h9) rfl dX12_startSo_98 ?_
  refine lv_bipush (v := 10) hx hb dX12_startSo_101 (by decide) ?_
  refine lv_iload_n hx hb dX12_startSo_103 rfl (lv_at hl 0 rfl) ?_
  refine lv_iadd hx hb dX12_startSo_104 ?_
  refine zz_top (v := 13) (by decide) ?_
  refine va_iald hx hb hK hP 0 0 rfl rfl (i := 13) (zz_in (by decide)) dX12_startSo_105 ?_
  refine lv_topi (fun z30 ez30 => ?_)
  refine va_iast hx hb hK hP hD hS 0 0 rfl rfl (i := 74) (zz_in (by decide)) dX12_startSo_106 (fun H locs hP hD hS => ?_)
  have hP : va_P (dC, dI) vwCl [(h1, .inl (w0, 373, .inl (upd (upd (upd (upd (upd (upd (upd (upd (upd (upd (upd (upd (upd (upd (upd (upd (upd f2 62 z4) 65 z5) 66 z7) 67 z9) 68 z11) 69 z13) 70 z15) 71 z18) 79 z19) 87 z20) 72 z22) 80 z23) 88 z24) 73 z26) 81 z27) 89 z28) 74 z30))), (h0, .inr (11, [.int 0, .ref h2, .int 0, .int 0, .int 900, .int 0, .int 0, .int 0, .int 0, .int 0, .int 0, .int 0, .long 0, .int 0, .ref h1, .ref h3, .ref h4, .ref h5, .ref h6, .ref h7, .ref h8, .ref h9, .ref h10, .int 0, .int 0, .int 0, .int 0, .int (-1), .int (-1), .long 0, .long 0, .ref h11, .ref h12, .int 0, .int (-1), .int 0, .ref h13, .int 0, .ref h14, .ref h15, .int 0, .int 0, .ref h16, .int 0, .int 0, .int 0, .int 0]))] H := hP
  have hD : va_D A [(h1, .inl (w0, 373, .inl (upd (upd (upd (upd (upd (upd (upd (upd (upd (upd (upd (upd (upd (upd (upd (upd (upd f2 62 z4) 65 z5) 66 z7) 67 z9) 68 z11) 69 z13) 70 z15) 71 z18) 79 z19) 87 z20) 72 z22) 80 z23) 88 z24) 73 z26) 81 z27) 89 z28) 74 z30))), (h0, .inr (11, [.int 0, .ref h2, .int 0, .int 0, .int 900, .int 0, .int 0, .int 0, .int 0, .int 0, .int 0, .int 0, .long 0, .int 0, .ref h1, .ref h3, .ref h4, .ref h5, .ref h6, .ref h7, .ref h8, .ref h9, .ref h10, .int 0, .int 0, .int 0, .int 0, .int (-1), .int (-1), .long 0, .long 0, .ref h11, .ref h12, .int 0, .int (-1), .int 0, .ref h13, .int 0, .ref h14, .ref h15, .int 0, .int 0, .ref h16, .int 0, .int 0, .int 0, .int 0]))] := hD
  refine lv_aload_n hx hb dX12_startSo_107 rfl (lv_at hl 1 rfl) ?_
  refine va_get (D := (dC, dI)) (ci := 11) (v := .ref h1) (C := RX12) (T := TX12) (N := 47) hx hb hts ii_X12_startSo_X12 hown hK hP 1 rfl rfl 14 (by decide) (hts _ mm_X12_startSo_1) (fun _ h9 => h9) rfl dX12_startSo_108 ?_
  refine lv_bipush (v := 79) hx hb dX12_startSo_111 (by decide) ?_
  refine lv_iload_n hx hb dX12_startSo_113 rfl (lv_at hl 0 rfl) ?_
  refine lv_iadd hx hb dX12_startSo_114 ?_
  refine zz_top (v := 82) (by decide) ?_
  refine lv_aload_n hx hb dX12_startSo_115 rfl (lv_at hl 1 rfl) ?_
  refine va_get (D := (dC, dI)) (ci := 11) (v := .ref h1) (C := RX12) (T := TX12) (N := 47) hx hb hts ii_X12_startSo_X12 hown hK hP 1 rfl rfl 14 (by decide) (hts _ mm_X12_startSo_1) (fun _ h9 => h9) rfl dX12_startSo_116 ?_
  refine lv_bipush (v := 18) hx hb dX12_startSo_119 (by decide) ?_
  refine lv_iload_n hx hb dX12_startSo_121 rfl (lv_at hl 0 rfl) ?_
  refine lv_iadd hx hb dX12_startSo_122 ?_
  refine zz_top (v := 21) (by decide) ?_
  refine va_iald hx hb hK hP 0 0 rfl rfl (i := 21) (zz_in (by decide)) dX12_startSo_123 ?_
  refine lv_topi (fun z31 ez31 => ?_)
  refine va_iast hx hb hK hP hD hS 0 0 rfl rfl (i := 82) (zz_in (by decide)) dX12_startSo_124 (fun H locs hP hD hS => ?_)
  have hP : va_P (dC, dI) vwCl [(h1, .inl (w0, 373, .inl (upd (upd (upd (upd (upd (upd (upd (upd (upd (upd (upd (upd (upd (upd (upd (upd (upd (upd f2 62 z4) 65 z5) 66 z7) 67 z9) 68 z11) 69 z13) 70 z15) 71 z18) 79 z19) 87 z20) 72 z22) 80 z23) 88 z24) 73 z26) 81 z27) 89 z28) 74 z30) 82 z31))), (h0, .inr (11, [.int 0, .ref h2, .int 0, .int 0, .int 900, .int 0, .int 0, .int 0, .int 0, .int 0, .int 0, .int 0, .long 0, .int 0, .ref h1, .ref h3, .ref h4, .ref h5, .ref h6, .ref h7, .ref h8, .ref h9, .ref h10, .int 0, .int 0, .int 0, .int 0, .int (-1), .int (-1), .long 0, .long 0, .ref h11, .ref h12, .int 0, .int (-1), .int 0, .ref h13, .int 0, .ref h14, .ref h15, .int 0, .int 0, .ref h16, .int 0, .int 0, .int 0, .int 0]))] H := hP
  have hD : va_D A [(h1, .inl (w0, 373, .inl (upd (upd (upd (upd (upd (upd (upd (upd (upd (upd (upd (upd (upd (upd (upd (upd (upd (upd f2 62 z4) 65 z5) 66 z7) 67 z9) 68 z11) 69 z13) 70 z15) 71 z18) 79 z19) 87 z20) 72 z22) 80 z23) 88 z24) 73 z26) 81 z27) 89 z28) 74 z30) 82 z31))), (h0, .inr (11, [.int 0, .ref h2, .int 0, .int 0, .int 900, .int 0, .int 0, .int 0, .int 0, .int 0, .int 0, .int 0, .long 0, .int 0, .ref h1, .ref h3, .ref h4, .ref h5, .ref h6, .ref h7, .ref h8, .ref h9, .ref h10, .int 0, .int 0, .int 0, .int 0, .int (-1), .int (-1), .long 0, .long 0, .ref h11, .ref h12, .int 0, .int (-1), .int 0, .ref h13, .int 0, .ref h14, .ref h15, .int 0, .int 0, .ref h16, .int 0, .int 0, .int 0, .int 0]))] := hD
  refine lv_aload_n hx hb dX12_startSo_125 rfl (lv_at hl 1 rfl) ?_
  refine va_get (D := (dC, dI)) (ci := 11) (v := .ref h1) (C := RX12) (T := TX12) (N := 47) hx hb hts ii_X12_startSo_X12 hown hK hP 1 rfl rfl 14 (by decide) (hts _ mm_X12_startSo_1) (fun _ h9 => h9) rfl dX12_startSo_126 ?_
  refine lv_bipush (v := 87) hx hb dX12_startSo_129 (by decide) ?_
  refine lv_iload_n hx hb dX12_startSo_131 rfl (lv_at hl 0 rfl) ?_
  refine lv_iadd hx hb dX12_startSo_132 ?_
  refine zz_top (v := 90) (by decide) ?_
  refine lv_aload_n hx hb dX12_startSo_133 rfl (lv_at hl 1 rfl) ?_
  refine va_get (D := (dC, dI)) (ci := 11) (v := .ref h1) (C := RX12) (T := TX12) (N := 47) hx hb hts ii_X12_startSo_X12 hown hK hP 1 rfl rfl 14 (by decide) (hts _ mm_X12_startSo_1) (fun _ h9 => h9) rfl dX12_startSo_134 ?_
  refine lv_bipush (v := 26) hx hb dX12_startSo_137 (by decide) ?_
  refine lv_iload_n hx hb dX12_startSo_139 rfl (lv_at hl 0 rfl) ?_
  refine lv_iadd hx hb dX12_startSo_140 ?_
  refine zz_top (v := 29) (by decide) ?_
  refine va_iald hx hb hK hP 0 0 rfl rfl (i := 29) (zz_in (by decide)) dX12_startSo_141 ?_
  refine lv_topi (fun z32 ez32 => ?_)
  refine va_iast hx hb hK hP hD hS 0 0 rfl rfl (i := 90) (zz_in (by decide)) dX12_startSo_142 (fun H locs hP hD hS => ?_)
  have hP : va_P (dC, dI) vwCl [(h1, .inl (w0, 373, .inl (upd (upd (upd (upd (upd (upd (upd (upd (upd (upd (upd (upd (upd (upd (upd (upd (upd (upd (upd f2 62 z4) 65 z5) 66 z7) 67 z9) 68 z11) 69 z13) 70 z15) 71 z18) 79 z19) 87 z20) 72 z22) 80 z23) 88 z24) 73 z26) 81 z27) 89 z28) 74 z30) 82 z31) 90 z32))), (h0, .inr (11, [.int 0, .ref h2, .int 0, .int 0, .int 900, .int 0, .int 0, .int 0, .int 0, .int 0, .int 0, .int 0, .long 0, .int 0, .ref h1, .ref h3, .ref h4, .ref h5, .ref h6, .ref h7, .ref h8, .ref h9, .ref h10, .int 0, .int 0, .int 0, .int 0, .int (-1), .int (-1), .long 0, .long 0, .ref h11, .ref h12, .int 0, .int (-1), .int 0, .ref h13, .int 0, .ref h14, .ref h15, .int 0, .int 0, .ref h16, .int 0, .int 0, .int 0, .int 0]))] H := hP
  have hD : va_D A [(h1, .inl (w0, 373, .inl (upd (upd (upd (upd (upd (upd (upd (upd (upd (upd (upd (upd (upd (upd (upd (upd (upd (upd (upd f2 62 z4) 65 z5) 66 z7) 67 z9) 68 z11) 69 z13) 70 z15) 71 z18) 79 z19) 87 z20) 72 z22) 80 z23) 88 z24) 73 z26) 81 z27) 89 z28) 74 z30) 82 z31) 90 z32))), (h0, .inr (11, [.int 0, .ref h2, .int 0, .int 0, .int 900, .int 0, .int 0, .int 0, .int 0, .int 0, .int 0, .int 0, .long 0, .int 0, .ref h1, .ref h3, .ref h4, .ref h5, .ref h6, .ref h7, .ref h8, .ref h9, .ref h10, .int 0, .int 0, .int 0, .int 0, .int (-1), .int (-1), .long 0, .long 0, .ref h11, .ref h12, .int 0, .int (-1), .int 0, .ref h13, .int 0, .ref h14, .ref h15, .int 0, .int 0, .ref h16, .int 0, .int 0, .int 0, .int 0]))] := hD
  refine lv_iinc (v := 4) (lv' := [(1, .int 4), (0, .ref h0)]) hx hb dX12_startSo_143 hl (k := 0) rfl (by decide) (by decide) rfl (fun ls hl => ?_)
  refine lv_goto (tgt := 83) hx hb dX12_startSo_146 (by decide) ?_
  refine lv_iload_n hx hb dX12_startSo_83 rfl (lv_at hl 0 rfl) ?_
  refine lv_bipush (v := 8) hx hb dX12_startSo_84 (by decide) ?_
  refine lv_icmp_ge (tgt := 149) hx hb dX12_startSo_86 (by decide) (fun c33 => absurd c33 (by decide)) (fun _ => ?_)
  refine lv_aload_n hx hb dX12_startSo_89 rfl (lv_at hl 1 rfl) ?_
  refine va_get (D := (dC, dI)) (ci := 11) (v := .ref h1) (C := RX12) (T := TX12) (N := 47) hx hb hts ii_X12_startSo_X12 hown hK hP 1 rfl rfl 14 (by decide) (hts _ mm_X12_startSo_1) (fun _ h9 => h9) rfl dX12_startSo_90 ?_
  refine lv_bipush (v := 71) hx hb dX12_startSo_93 (by decide) ?_
  refine lv_iload_n hx hb dX12_startSo_95 rfl (lv_at hl 0 rfl) ?_
  refine lv_iadd hx hb dX12_startSo_96 ?_
  refine zz_top (v := 75) (by decide) ?_
  refine lv_aload_n hx hb dX12_startSo_97 rfl (lv_at hl 1 rfl) ?_
  refine va_get (D := (dC, dI)) (ci := 11) (v := .ref h1) (C := RX12) (T := TX12) (N := 47) hx hb hts ii_X12_startSo_X12 hown hK hP 1 rfl rfl 14 (by decide) (hts _ mm_X12_startSo_1) (fun _ h9 => h9) rfl dX12_startSo_98 ?_
  refine lv_bipush (v := 10) hx hb dX12_startSo_101 (by decide) ?_
  refine lv_iload_n hx hb dX12_startSo_103 rfl (lv_at hl 0 rfl) ?_
  refine lv_iadd hx hb dX12_startSo_104 ?_
  refine zz_top (v := 14) (by decide) ?_
  refine va_iald hx hb hK hP 0 0 rfl rfl (i := 14) (zz_in (by decide)) dX12_startSo_105 ?_
  refine lv_topi (fun z34 ez34 => ?_)
  refine va_iast hx hb hK hP hD hS 0 0 rfl rfl (i := 75) (zz_in (by decide)) dX12_startSo_106 (fun H locs hP hD hS => ?_)
  have hP : va_P (dC, dI) vwCl [(h1, .inl (w0, 373, .inl (upd (upd (upd (upd (upd (upd (upd (upd (upd (upd (upd (upd (upd (upd (upd (upd (upd (upd (upd (upd f2 62 z4) 65 z5) 66 z7) 67 z9) 68 z11) 69 z13) 70 z15) 71 z18) 79 z19) 87 z20) 72 z22) 80 z23) 88 z24) 73 z26) 81 z27) 89 z28) 74 z30) 82 z31) 90 z32) 75 z34))), (h0, .inr (11, [.int 0, .ref h2, .int 0, .int 0, .int 900, .int 0, .int 0, .int 0, .int 0, .int 0, .int 0, .int 0, .long 0, .int 0, .ref h1, .ref h3, .ref h4, .ref h5, .ref h6, .ref h7, .ref h8, .ref h9, .ref h10, .int 0, .int 0, .int 0, .int 0, .int (-1), .int (-1), .long 0, .long 0, .ref h11, .ref h12, .int 0, .int (-1), .int 0, .ref h13, .int 0, .ref h14, .ref h15, .int 0, .int 0, .ref h16, .int 0, .int 0, .int 0, .int 0]))] H := hP
  have hD : va_D A [(h1, .inl (w0, 373, .inl (upd (upd (upd (upd (upd (upd (upd (upd (upd (upd (upd (upd (upd (upd (upd (upd (upd (upd (upd (upd f2 62 z4) 65 z5) 66 z7) 67 z9) 68 z11) 69 z13) 70 z15) 71 z18) 79 z19) 87 z20) 72 z22) 80 z23) 88 z24) 73 z26) 81 z27) 89 z28) 74 z30) 82 z31) 90 z32) 75 z34))), (h0, .inr (11, [.int 0, .ref h2, .int 0, .int 0, .int 900, .int 0, .int 0, .int 0, .int 0, .int 0, .int 0, .int 0, .long 0, .int 0, .ref h1, .ref h3, .ref h4, .ref h5, .ref h6, .ref h7, .ref h8, .ref h9, .ref h10, .int 0, .int 0, .int 0, .int 0, .int (-1), .int (-1), .long 0, .long 0, .ref h11, .ref h12, .int 0, .int (-1), .int 0, .ref h13, .int 0, .ref h14, .ref h15, .int 0, .int 0, .ref h16, .int 0, .int 0, .int 0, .int 0]))] := hD
  refine lv_aload_n hx hb dX12_startSo_107 rfl (lv_at hl 1 rfl) ?_
  refine va_get (D := (dC, dI)) (ci := 11) (v := .ref h1) (C := RX12) (T := TX12) (N := 47) hx hb hts ii_X12_startSo_X12 hown hK hP 1 rfl rfl 14 (by decide) (hts _ mm_X12_startSo_1) (fun _ h9 => h9) rfl dX12_startSo_108 ?_
  refine lv_bipush (v := 79) hx hb dX12_startSo_111 (by decide) ?_
  refine lv_iload_n hx hb dX12_startSo_113 rfl (lv_at hl 0 rfl) ?_
  refine lv_iadd hx hb dX12_startSo_114 ?_
  refine zz_top (v := 83) (by decide) ?_
  refine lv_aload_n hx hb dX12_startSo_115 rfl (lv_at hl 1 rfl) ?_
  refine va_get (D := (dC, dI)) (ci := 11) (v := .ref h1) (C := RX12) (T := TX12) (N := 47) hx hb hts ii_X12_startSo_X12 hown hK hP 1 rfl rfl 14 (by decide) (hts _ mm_X12_startSo_1) (fun _ h9 => h9) rfl dX12_startSo_116 ?_
  refine lv_bipush (v := 18) hx hb dX12_startSo_119 (by decide) ?_
  refine lv_iload_n hx hb dX12_startSo_121 rfl (lv_at hl 0 rfl) ?_
  refine lv_iadd hx hb dX12_startSo_122 ?_
  refine zz_top (v := 22) (by decide) ?_
  refine va_iald hx hb hK hP 0 0 rfl rfl (i := 22) (zz_in (by decide)) dX12_startSo_123 ?_
  refine lv_topi (fun z35 ez35 => ?_)
  refine va_iast hx hb hK hP hD hS 0 0 rfl rfl (i := 83) (zz_in (by decide)) dX12_startSo_124 (fun H locs hP hD hS => ?_)
  have hP : va_P (dC, dI) vwCl [(h1, .inl (w0, 373, .inl (upd (upd (upd (upd (upd (upd (upd (upd (upd (upd (upd (upd (upd (upd (upd (upd (upd (upd (upd (upd (upd f2 62 z4) 65 z5) 66 z7) 67 z9) 68 z11) 69 z13) 70 z15) 71 z18) 79 z19) 87 z20) 72 z22) 80 z23) 88 z24) 73 z26) 81 z27) 89 z28) 74 z30) 82 z31) 90 z32) 75 z34) 83 z35))), (h0, .inr (11, [.int 0, .ref h2, .int 0, .int 0, .int 900, .int 0, .int 0, .int 0, .int 0, .int 0, .int 0, .int 0, .long 0, .int 0, .ref h1, .ref h3, .ref h4, .ref h5, .ref h6, .ref h7, .ref h8, .ref h9, .ref h10, .int 0, .int 0, .int 0, .int 0, .int (-1), .int (-1), .long 0, .long 0, .ref h11, .ref h12, .int 0, .int (-1), .int 0, .ref h13, .int 0, .ref h14, .ref h15, .int 0, .int 0, .ref h16, .int 0, .int 0, .int 0, .int 0]))] H := hP
  have hD : va_D A [(h1, .inl (w0, 373, .inl (upd (upd (upd (upd (upd (upd (upd (upd (upd (upd (upd (upd (upd (upd (upd (upd (upd (upd (upd (upd (upd f2 62 z4) 65 z5) 66 z7) 67 z9) 68 z11) 69 z13) 70 z15) 71 z18) 79 z19) 87 z20) 72 z22) 80 z23) 88 z24) 73 z26) 81 z27) 89 z28) 74 z30) 82 z31) 90 z32) 75 z34) 83 z35))), (h0, .inr (11, [.int 0, .ref h2, .int 0, .int 0, .int 900, .int 0, .int 0, .int 0, .int 0, .int 0, .int 0, .int 0, .long 0, .int 0, .ref h1, .ref h3, .ref h4, .ref h5, .ref h6, .ref h7, .ref h8, .ref h9, .ref h10, .int 0, .int 0, .int 0, .int 0, .int (-1), .int (-1), .long 0, .long 0, .ref h11, .ref h12, .int 0, .int (-1), .int 0, .ref h13, .int 0, .ref h14, .ref h15, .int 0, .int 0, .ref h16, .int 0, .int 0, .int 0, .int 0]))] := hD
  refine lv_aload_n hx hb dX12_startSo_125 rfl (lv_at hl 1 rfl) ?_
  refine va_get (D := (dC, dI)) (ci := 11) (v := .ref h1) (C := RX12) (T := TX12) (N := 47) hx hb hts ii_X12_startSo_X12 hown hK hP 1 rfl rfl 14 (by decide) (hts _ mm_X12_startSo_1) (fun _ h9 => h9) rfl dX12_startSo_126 ?_
  refine lv_bipush (v := 87) hx hb dX12_startSo_129 (by decide) ?_
  refine lv_iload_n hx hb dX12_startSo_131 rfl (lv_at hl 0 rfl) ?_
  refine lv_iadd hx hb dX12_startSo_132 ?_
  refine zz_top (v := 91) (by decide) ?_
  refine lv_aload_n hx hb dX12_startSo_133 rfl (lv_at hl 1 rfl) ?_
  refine va_get (D := (dC, dI)) (ci := 11) (v := .ref h1) (C := RX12) (T := TX12) (N := 47) hx hb hts ii_X12_startSo_X12 hown hK hP 1 rfl rfl 14 (by decide) (hts _ mm_X12_startSo_1) (fun _ h9 => h9) rfl dX12_startSo_134 ?_
  refine lv_bipush (v := 26) hx hb dX12_startSo_137 (by decide) ?_
  refine lv_iload_n hx hb dX12_startSo_139 rfl (lv_at hl 0 rfl) ?_
  refine lv_iadd hx hb dX12_startSo_140 ?_
  refine zz_top (v := 30) (by decide) ?_
  refine va_iald hx hb hK hP 0 0 rfl rfl (i := 30) (zz_in (by decide)) dX12_startSo_141 ?_
  refine lv_topi (fun z36 ez36 => ?_)
  refine va_iast hx hb hK hP hD hS 0 0 rfl rfl (i := 91) (zz_in (by decide)) dX12_startSo_142 (fun H locs hP hD hS => ?_)
  have hP : va_P (dC, dI) vwCl [(h1, .inl (w0, 373, .inl (upd (upd (upd (upd (upd (upd (upd (upd (upd (upd (upd (upd (upd (upd (upd (upd (upd (upd (upd (upd (upd (upd f2 62 z4) 65 z5) 66 z7) 67 z9) 68 z11) 69 z13) 70 z15) 71 z18) 79 z19) 87 z20) 72 z22) 80 z23) 88 z24) 73 z26) 81 z27) 89 z28) 74 z30) 82 z31) 90 z32) 75 z34) 83 z35) 91 z36))), (h0, .inr (11, [.int 0, .ref h2, .int 0, .int 0, .int 900, .int 0, .int 0, .int 0, .int 0, .int 0, .int 0, .int 0, .long 0, .int 0, .ref h1, .ref h3, .ref h4, .ref h5, .ref h6, .ref h7, .ref h8, .ref h9, .ref h10, .int 0, .int 0, .int 0, .int 0, .int (-1), .int (-1), .long 0, .long 0, .ref h11, .ref h12, .int 0, .int (-1), .int 0, .ref h13, .int 0, .ref h14, .ref h15, .int 0, .int 0, .ref h16, .int 0, .int 0, .int 0, .int 0]))] H := hP
  have hD : va_D A [(h1, .inl (w0, 373, .inl (upd (upd (upd (upd (upd (upd (upd (upd (upd (upd (upd (upd (upd (upd (upd (upd (upd (upd (upd (upd (upd (upd f2 62 z4) 65 z5) 66 z7) 67 z9) 68 z11) 69 z13) 70 z15) 71 z18) 79 z19) 87 z20) 72 z22) 80 z23) 88 z24) 73 z26) 81 z27) 89 z28) 74 z30) 82 z31) 90 z32) 75 z34) 83 z35) 91 z36))), (h0, .inr (11, [.int 0, .ref h2, .int 0, .int 0, .int 900, .int 0, .int 0, .int 0, .int 0, .int 0, .int 0, .int 0, .long 0, .int 0, .ref h1, .ref h3, .ref h4, .ref h5, .ref h6, .ref h7, .ref h8, .ref h9, .ref h10, .int 0, .int 0, .int 0, .int 0, .int (-1), .int (-1), .long 0, .long 0, .ref h11, .ref h12, .int 0, .int (-1), .int 0, .ref h13, .int 0, .ref h14, .ref h15, .int 0, .int 0, .ref h16, .int 0, .int 0, .int 0, .int 0]))] := hD
  refine lv_iinc (v := 5) (lv' := [(1, .int 5), (0, .ref h0)]) hx hb dX12_startSo_143 hl (k := 0) rfl (by decide) (by decide) rfl (fun ls hl => ?_)
  refine lv_goto (tgt := 83) hx hb dX12_startSo_146 (by decide) ?_
  refine lv_iload_n hx hb dX12_startSo_83 rfl (lv_at hl 0 rfl) ?_
  refine lv_bipush (v := 8) hx hb dX12_startSo_84 (by decide) ?_
  refine lv_icmp_ge (tgt := 149) hx hb dX12_startSo_86 (by decide) (fun c37 => absurd c37 (by decide)) (fun _ => ?_)
  refine lv_aload_n hx hb dX12_startSo_89 rfl (lv_at hl 1 rfl) ?_
  refine va_get (D := (dC, dI)) (ci := 11) (v := .ref h1) (C := RX12) (T := TX12) (N := 47) hx hb hts ii_X12_startSo_X12 hown hK hP 1 rfl rfl 14 (by decide) (hts _ mm_X12_startSo_1) (fun _ h9 => h9) rfl dX12_startSo_90 ?_
  refine lv_bipush (v := 71) hx hb dX12_startSo_93 (by decide) ?_
  refine lv_iload_n hx hb dX12_startSo_95 rfl (lv_at hl 0 rfl) ?_
  refine lv_iadd hx hb dX12_startSo_96 ?_
  refine zz_top (v := 76) (by decide) ?_
  refine lv_aload_n hx hb dX12_startSo_97 rfl (lv_at hl 1 rfl) ?_
  refine va_get (D := (dC, dI)) (ci := 11) (v := .ref h1) (C := RX12) (T := TX12) (N := 47) hx hb hts ii_X12_startSo_X12 hown hK hP 1 rfl rfl 14 (by decide) (hts _ mm_X12_startSo_1) (fun _ h9 => h9) rfl dX12_startSo_98 ?_
  refine lv_bipush (v := 10) hx hb dX12_startSo_101 (by decide) ?_
  refine lv_iload_n hx hb dX12_startSo_103 rfl (lv_at hl 0 rfl) ?_
  refine lv_iadd hx hb dX12_startSo_104 ?_
  refine zz_top (v := 15) (by decide) ?_
  refine va_iald hx hb hK hP 0 0 rfl rfl (i := 15) (zz_in (by decide)) dX12_startSo_105 ?_
  refine lv_topi (fun z38 ez38 => ?_)
  refine va_iast hx hb hK hP hD hS 0 0 rfl rfl (i := 76) (zz_in (by decide)) dX12_startSo_106 (fun H locs hP hD hS => ?_)
  have hP : va_P (dC, dI) vwCl [(h1, .inl (w0, 373, .inl (upd (upd (upd (upd (upd (upd (upd (upd (upd (upd (upd (upd (upd (upd (upd (upd (upd (upd (upd (upd (upd (upd (upd f2 62 z4) 65 z5) 66 z7) 67 z9) 68 z11) 69 z13) 70 z15) 71 z18) 79 z19) 87 z20) 72 z22) 80 z23) 88 z24) 73 z26) 81 z27) 89 z28) 74 z30) 82 z31) 90 z32) 75 z34) 83 z35) 91 z36) 76 z38))), (h0, .inr (11, [.int 0, .ref h2, .int 0, .int 0, .int 900, .int 0, .int 0, .int 0, .int 0, .int 0, .int 0, .int 0, .long 0, .int 0, .ref h1, .ref h3, .ref h4, .ref h5, .ref h6, .ref h7, .ref h8, .ref h9, .ref h10, .int 0, .int 0, .int 0, .int 0, .int (-1), .int (-1), .long 0, .long 0, .ref h11, .ref h12, .int 0, .int (-1), .int 0, .ref h13, .int 0, .ref h14, .ref h15, .int 0, .int 0, .ref h16, .int 0, .int 0, .int 0, .int 0]))] H := hP
  have hD : va_D A [(h1, .inl (w0, 373, .inl (upd (upd (upd (upd (upd (upd (upd (upd (upd (upd (upd (upd (upd (upd (upd (upd (upd (upd (upd (upd (upd (upd (upd f2 62 z4) 65 z5) 66 z7) 67 z9) 68 z11) 69 z13) 70 z15) 71 z18) 79 z19) 87 z20) 72 z22) 80 z23) 88 z24) 73 z26) 81 z27) 89 z28) 74 z30) 82 z31) 90 z32) 75 z34) 83 z35) 91 z36) 76 z38))), (h0, .inr (11, [.int 0, .ref h2, .int 0, .int 0, .int 900, .int 0, .int 0, .int 0, .int 0, .int 0, .int 0, .int 0, .long 0, .int 0, .ref h1, .ref h3, .ref h4, .ref h5, .ref h6, .ref h7, .ref h8, .ref h9, .ref h10, .int 0, .int 0, .int 0, .int 0, .int (-1), .int (-1), .long 0, .long 0, .ref h11, .ref h12, .int 0, .int (-1), .int 0, .ref h13, .int 0, .ref h14, .ref h15, .int 0, .int 0, .ref h16, .int 0, .int 0, .int 0, .int 0]))] := hD
  refine lv_aload_n hx hb dX12_startSo_107 rfl (lv_at hl 1 rfl) ?_
  refine va_get (D := (dC, dI)) (ci := 11) (v := .ref h1) (C := RX12) (T := TX12) (N := 47) hx hb hts ii_X12_startSo_X12 hown hK hP 1 rfl rfl 14 (by decide) (hts _ mm_X12_startSo_1) (fun _ h9 => h9) rfl dX12_startSo_108 ?_
  refine lv_bipush (v := 79) hx hb dX12_startSo_111 (by decide) ?_
  refine lv_iload_n hx hb dX12_startSo_113 rfl (lv_at hl 0 rfl) ?_
  refine lv_iadd hx hb dX12_startSo_114 ?_
  refine zz_top (v := 84) (by decide) ?_
  refine lv_aload_n hx hb dX12_startSo_115 rfl (lv_at hl 1 rfl) ?_
  refine va_get (D := (dC, dI)) (ci := 11) (v := .ref h1) (C := RX12) (T := TX12) (N := 47) hx hb hts ii_X12_startSo_X12 hown hK hP 1 rfl rfl 14 (by decide) (hts _ mm_X12_startSo_1) (fun _ h9 => h9) rfl dX12_startSo_116 ?_
  refine lv_bipush (v := 18) hx hb dX12_startSo_119 (by decide) ?_
  refine lv_iload_n hx hb dX12_startSo_121 rfl (lv_at hl 0 rfl) ?_
  refine lv_iadd hx hb dX12_startSo_122 ?_
  refine zz_top (v := 23) (by decide) ?_
  refine va_iald hx hb hK hP 0 0 rfl rfl (i := 23) (zz_in (by decide)) dX12_startSo_123 ?_
  refine lv_topi (fun z39 ez39 => ?_)
  refine va_iast hx hb hK hP hD hS 0 0 rfl rfl (i := 84) (zz_in (by decide)) dX12_startSo_124 (fun H locs hP hD hS => ?_)
  have hP : va_P (dC, dI) vwCl [(h1, .inl (w0, 373, .inl (upd (upd (upd (upd (upd (upd (upd (upd (upd (upd (upd (upd (upd (upd (upd (upd (upd (upd (upd (upd (upd (upd (upd (upd f2 62 z4) 65 z5) 66 z7) 67 z9) 68 z11) 69 z13) 70 z15) 71 z18) 79 z19) 87 z20) 72 z22) 80 z23) 88 z24) 73 z26) 81 z27) 89 z28) 74 z30) 82 z31) 90 z32) 75 z34) 83 z35) 91 z36) 76 z38) 84 z39))), (h0, .inr (11, [.int 0, .ref h2, .int 0, .int 0, .int 900, .int 0, .int 0, .int 0, .int 0, .int 0, .int 0, .int 0, .long 0, .int 0, .ref h1, .ref h3, .ref h4, .ref h5, .ref h6, .ref h7, .ref h8, .ref h9, .ref h10, .int 0, .int 0, .int 0, .int 0, .int (-1), .int (-1), .long 0, .long 0, .ref h11, .ref h12, .int 0, .int (-1), .int 0, .ref h13, .int 0, .ref h14, .ref h15, .int 0, .int 0, .ref h16, .int 0, .int 0, .int 0, .int 0]))] H := hP
  have hD : va_D A [(h1, .inl (w0, 373, .inl (upd (upd (upd (upd (upd (upd (upd (upd (upd (upd (upd (upd (upd (upd (upd (upd (upd (upd (upd (upd (upd (upd (upd (upd f2 62 z4) 65 z5) 66 z7) 67 z9) 68 z11) 69 z13) 70 z15) 71 z18) 79 z19) 87 z20) 72 z22) 80 z23) 88 z24) 73 z26) 81 z27) 89 z28) 74 z30) 82 z31) 90 z32) 75 z34) 83 z35) 91 z36) 76 z38) 84 z39))), (h0, .inr (11, [.int 0, .ref h2, .int 0, .int 0, .int 900, .int 0, .int 0, .int 0, .int 0, .int 0, .int 0, .int 0, .long 0, .int 0, .ref h1, .ref h3, .ref h4, .ref h5, .ref h6, .ref h7, .ref h8, .ref h9, .ref h10, .int 0, .int 0, .int 0, .int 0, .int (-1), .int (-1), .long 0, .long 0, .ref h11, .ref h12, .int 0, .int (-1), .int 0, .ref h13, .int 0, .ref h14, .ref h15, .int 0, .int 0, .ref h16, .int 0, .int 0, .int 0, .int 0]))] := hD
  refine lv_aload_n hx hb dX12_startSo_125 rfl (lv_at hl 1 rfl) ?_
  refine va_get (D := (dC, dI)) (ci := 11) (v := .ref h1) (C := RX12) (T := TX12) (N := 47) hx hb hts ii_X12_startSo_X12 hown hK hP 1 rfl rfl 14 (by decide) (hts _ mm_X12_startSo_1) (fun _ h9 => h9) rfl dX12_startSo_126 ?_
  refine lv_bipush (v := 87) hx hb dX12_startSo_129 (by decide) ?_
  refine lv_iload_n hx hb dX12_startSo_131 rfl (lv_at hl 0 rfl) ?_
  refine lv_iadd hx hb dX12_startSo_132 ?_
  refine zz_top (v := 92) (by decide) ?_
  refine lv_aload_n hx hb dX12_startSo_133 rfl (lv_at hl 1 rfl) ?_
  refine va_get (D := (dC, dI)) (ci := 11) (v := .ref h1) (C := RX12) (T := TX12) (N := 47) hx hb hts ii_X12_startSo_X12 hown hK hP 1 rfl rfl 14 (by decide) (hts _ mm_X12_startSo_1) (fun _ h9 => h9) rfl dX12_startSo_134 ?_
  refine lv_bipush (v := 26) hx hb dX12_startSo_137 (by decide) ?_
  refine lv_iload_n hx hb dX12_startSo_139 rfl (lv_at hl 0 rfl) ?_
  refine lv_iadd hx hb dX12_startSo_140 ?_
  refine zz_top (v := 31) (by decide) ?_
  refine va_iald hx hb hK hP 0 0 rfl rfl (i := 31) (zz_in (by decide)) dX12_startSo_141 ?_
  refine lv_topi (fun z40 ez40 => ?_)
  refine va_iast hx hb hK hP hD hS 0 0 rfl rfl (i := 92) (zz_in (by decide)) dX12_startSo_142 (fun H locs hP hD hS => ?_)
  have hP : va_P (dC, dI) vwCl [(h1, .inl (w0, 373, .inl (upd (upd (upd (upd (upd (upd (upd (upd (upd (upd (upd (upd (upd (upd (upd (upd (upd (upd (upd (upd (upd (upd (upd (upd (upd f2 62 z4) 65 z5) 66 z7) 67 z9) 68 z11) 69 z13) 70 z15) 71 z18) 79 z19) 87 z20) 72 z22) 80 z23) 88 z24) 73 z26) 81 z27) 89 z28) 74 z30) 82 z31) 90 z32) 75 z34) 83 z35) 91 z36) 76 z38) 84 z39) 92 z40))), (h0, .inr (11, [.int 0, .ref h2, .int 0, .int 0, .int 900, .int 0, .int 0, .int 0, .int 0, .int 0, .int 0, .int 0, .long 0, .int 0, .ref h1, .ref h3, .ref h4, .ref h5, .ref h6, .ref h7, .ref h8, .ref h9, .ref h10, .int 0, .int 0, .int 0, .int 0, .int (-1), .int (-1), .long 0, .long 0, .ref h11, .ref h12, .int 0, .int (-1), .int 0, .ref h13, .int 0, .ref h14, .ref h15, .int 0, .int 0, .ref h16, .int 0, .int 0, .int 0, .int 0]))] H := hP
  have hD : va_D A [(h1, .inl (w0, 373, .inl (upd (upd (upd (upd (upd (upd (upd (upd (upd (upd (upd (upd (upd (upd (upd (upd (upd (upd (upd (upd (upd (upd (upd (upd (upd f2 62 z4) 65 z5) 66 z7) 67 z9) 68 z11) 69 z13) 70 z15) 71 z18) 79 z19) 87 z20) 72 z22) 80 z23) 88 z24) 73 z26) 81 z27) 89 z28) 74 z30) 82 z31) 90 z32) 75 z34) 83 z35) 91 z36) 76 z38) 84 z39) 92 z40))), (h0, .inr (11, [.int 0, .ref h2, .int 0, .int 0, .int 900, .int 0, .int 0, .int 0, .int 0, .int 0, .int 0, .int 0, .long 0, .int 0, .ref h1, .ref h3, .ref h4, .ref h5, .ref h6, .ref h7, .ref h8, .ref h9, .ref h10, .int 0, .int 0, .int 0, .int 0, .int (-1), .int (-1), .long 0, .long 0, .ref h11, .ref h12, .int 0, .int (-1), .int 0, .ref h13, .int 0, .ref h14, .ref h15, .int 0, .int 0, .ref h16, .int 0, .int 0, .int 0, .int 0]))] := hD
  refine lv_iinc (v := 6) (lv' := [(1, .int 6), (0, .ref h0)]) hx hb dX12_startSo_143 hl (k := 0) rfl (by decide) (by decide) rfl (fun ls hl => ?_)
  refine lv_goto (tgt := 83) hx hb dX12_startSo_146 (by decide) ?_
  refine lv_iload_n hx hb dX12_startSo_83 rfl (lv_at hl 0 rfl) ?_
  refine lv_bipush (v := 8) hx hb dX12_startSo_84 (by decide) ?_
  refine lv_icmp_ge (tgt := 149) hx hb dX12_startSo_86 (by decide) (fun c41 => absurd c41 (by decide)) (fun _ => ?_)
  refine lv_aload_n hx hb dX12_startSo_89 rfl (lv_at hl 1 rfl) ?_
  refine va_get (D := (dC, dI)) (ci := 11) (v := .ref h1) (C := RX12) (T := TX12) (N := 47) hx hb hts ii_X12_startSo_X12 hown hK hP 1 rfl rfl 14 (by decide) (hts _ mm_X12_startSo_1) (fun _ h9 => h9) rfl dX12_startSo_90 ?_
  refine lv_bipush (v := 71) hx hb dX12_startSo_93 (by decide) ?_
  refine lv_iload_n hx hb dX12_startSo_95 rfl (lv_at hl 0 rfl) ?_
  refine lv_iadd hx hb dX12_startSo_96 ?_
  refine zz_top (v := 77) (by decide) ?_
  refine lv_aload_n hx hb dX12_startSo_97 rfl (lv_at hl 1 rfl) ?_
  refine va_get (D := (dC, dI)) (ci := 11) (v := .ref h1) (C := RX12) (T := TX12) (N := 47) hx hb hts ii_X12_startSo_X12 hown hK hP 1 rfl rfl 14 (by decide) (hts _ mm_X12_startSo_1) (fun _ h9 => h9) rfl dX12_startSo_98 ?_
  refine lv_bipush (v := 10) hx hb dX12_startSo_101 (by decide) ?_
  refine lv_iload_n hx hb dX12_startSo_103 rfl (lv_at hl 0 rfl) ?_
  refine lv_iadd hx hb dX12_startSo_104 ?_
  refine zz_top (v := 16) (by decide) ?_
  refine va_iald hx hb hK hP 0 0 rfl rfl (i := 16) (zz_in (by decide)) dX12_startSo_105 ?_
  refine lv_topi (fun z42 ez42 => ?_)
  refine va_iast hx hb hK hP hD hS 0 0 rfl rfl (i := 77) (zz_in (by decide)) dX12_startSo_106 (fun H locs hP hD hS => ?_)
  have hP : va_P (dC, dI) vwCl [(h1, .inl (w0, 373, .inl (upd (upd (upd (upd (upd (upd (upd (upd (upd (upd (upd (upd (upd (upd (upd (upd (upd (upd (upd (upd (upd (upd (upd (upd (upd (upd f2 62 z4) 65 z5) 66 z7) 67 z9) 68 z11) 69 z13) 70 z15) 71 z18) 79 z19) 87 z20) 72 z22) 80 z23) 88 z24) 73 z26) 81 z27) 89 z28) 74 z30) 82 z31) 90 z32) 75 z34) 83 z35) 91 z36) 76 z38) 84 z39) 92 z40) 77 z42))), (h0, .inr (11, [.int 0, .ref h2, .int 0, .int 0, .int 900, .int 0, .int 0, .int 0, .int 0, .int 0, .int 0, .int 0, .long 0, .int 0, .ref h1, .ref h3, .ref h4, .ref h5, .ref h6, .ref h7, .ref h8, .ref h9, .ref h10, .int 0, .int 0, .int 0, .int 0, .int (-1), .int (-1), .long 0, .long 0, .ref h11, .ref h12, .int 0, .int (-1), .int 0, .ref h13, .int 0, .ref h14, .ref h15, .int 0, .int 0, .ref h16, .int 0, .int 0, .int 0, .int 0]))] H := hP
  have hD : va_D A [(h1, .inl (w0, 373, .inl (upd (upd (upd (upd (upd (upd (upd (upd (upd (upd (upd (upd (upd (upd (upd (upd (upd (upd (upd (upd (upd (upd (upd (upd (upd (upd f2 62 z4) 65 z5) 66 z7) 67 z9) 68 z11) 69 z13) 70 z15) 71 z18) 79 z19) 87 z20) 72 z22) 80 z23) 88 z24) 73 z26) 81 z27) 89 z28) 74 z30) 82 z31) 90 z32) 75 z34) 83 z35) 91 z36) 76 z38) 84 z39) 92 z40) 77 z42))), (h0, .inr (11, [.int 0, .ref h2, .int 0, .int 0, .int 900, .int 0, .int 0, .int 0, .int 0, .int 0, .int 0, .int 0, .long 0, .int 0, .ref h1, .ref h3, .ref h4, .ref h5, .ref h6, .ref h7, .ref h8, .ref h9, .ref h10, .int 0, .int 0, .int 0, .int 0, .int (-1), .int (-1), .long 0, .long 0, .ref h11, .ref h12, .int 0, .int (-1), .int 0, .ref h13, .int 0, .ref h14, .ref h15, .int 0, .int 0, .ref h16, .int 0, .int 0, .int 0, .int 0]))] := hD
  refine lv_aload_n hx hb dX12_startSo_107 rfl (lv_at hl 1 rfl) ?_
  refine va_get (D := (dC, dI)) (ci := 11) (v := .ref h1) (C := RX12) (T := TX12) (N := 47) hx hb hts ii_X12_startSo_X12 hown hK hP 1 rfl rfl 14 (by decide) (hts _ mm_X12_startSo_1) (fun _ h9 => h9) rfl dX12_startSo_108 ?_
  refine lv_bipush (v := 79) hx hb dX12_startSo_111 (by decide) ?_
  refine lv_iload_n hx hb dX12_startSo_113 rfl (lv_at hl 0 rfl) ?_
  refine lv_iadd hx hb dX12_startSo_114 ?_
  refine zz_top (v := 85) (by decide) ?_
  refine lv_aload_n hx hb dX12_startSo_115 rfl (lv_at hl 1 rfl) ?_
  refine va_get (D := (dC, dI)) (ci := 11) (v := .ref h1) (C := RX12) (T := TX12) (N := 47) hx hb hts ii_X12_startSo_X12 hown hK hP 1 rfl rfl 14 (by decide) (hts _ mm_X12_startSo_1) (fun _ h9 => h9) rfl dX12_startSo_116 ?_
  refine lv_bipush (v := 18) hx hb dX12_startSo_119 (by decide) ?_
  refine lv_iload_n hx hb dX12_startSo_121 rfl (lv_at hl 0 rfl) ?_
  refine lv_iadd hx hb dX12_startSo_122 ?_
  refine zz_top (v := 24) (by decide) ?_
  refine va_iald hx hb hK hP 0 0 rfl rfl (i := 24) (zz_in (by decide)) dX12_startSo_123 ?_
  refine lv_topi (fun z43 ez43 => ?_)
  refine va_iast hx hb hK hP hD hS 0 0 rfl rfl (i := 85) (zz_in (by decide)) dX12_startSo_124 (fun H locs hP hD hS => ?_)
  have hP : va_P (dC, dI) vwCl [(h1, .inl (w0, 373, .inl (upd (upd (upd (upd (upd (upd (upd (upd (upd (upd (upd (upd (upd (upd (upd (upd (upd (upd (upd (upd (upd (upd (upd (upd (upd (upd (upd f2 62 z4) 65 z5) 66 z7) 67 z9) 68 z11) 69 z13) 70 z15) 71 z18) 79 z19) 87 z20) 72 z22) 80 z23) 88 z24) 73 z26) 81 z27) 89 z28) 74 z30) 82 z31) 90 z32) 75 z34) 83 z35) 91 z36) 76 z38) 84 z39) 92 z40) 77 z42) 85 z43))), (h0, .inr (11, [.int 0, .ref h2, .int 0, .int 0, .int 900, .int 0, .int 0, .int 0, .int 0, .int 0, .int 0, .int 0, .long 0, .int 0, .ref h1, .ref h3, .ref h4, .ref h5, .ref h6, .ref h7, .ref h8, .ref h9, .ref h10, .int 0, .int 0, .int 0, .int 0, .int (-1), .int (-1), .long 0, .long 0, .ref h11, .ref h12, .int 0, .int (-1), .int 0, .ref h13, .int 0, .ref h14, .ref h15, .int 0, .int 0, .ref h16, .int 0, .int 0, .int 0, .int 0]))] H := hP
  have hD : va_D A [(h1, .inl (w0, 373, .inl (upd (upd (upd (upd (upd (upd (upd (upd (upd (upd (upd (upd (upd (upd (upd (upd (upd (upd (upd (upd (upd (upd (upd (upd (upd (upd (upd f2 62 z4) 65 z5) 66 z7) 67 z9) 68 z11) 69 z13) 70 z15) 71 z18) 79 z19) 87 z20) 72 z22) 80 z23) 88 z24) 73 z26) 81 z27) 89 z28) 74 z30) 82 z31) 90 z32) 75 z34) 83 z35) 91 z36) 76 z38) 84 z39) 92 z40) 77 z42) 85 z43))), (h0, .inr (11, [.int 0, .ref h2, .int 0, .int 0, .int 900, .int 0, .int 0, .int 0, .int 0, .int 0, .int 0, .int 0, .long 0, .int 0, .ref h1, .ref h3, .ref h4, .ref h5, .ref h6, .ref h7, .ref h8, .ref h9, .ref h10, .int 0, .int 0, .int 0, .int 0, .int (-1), .int (-1), .long 0, .long 0, .ref h11, .ref h12, .int 0, .int (-1), .int 0, .ref h13, .int 0, .ref h14, .ref h15, .int 0, .int 0, .ref h16, .int 0, .int 0, .int 0, .int 0]))] := hD
  refine lv_aload_n hx hb dX12_startSo_125 rfl (lv_at hl 1 rfl) ?_
  refine va_get (D := (dC, dI)) (ci := 11) (v := .ref h1) (C := RX12) (T := TX12) (N := 47) hx hb hts ii_X12_startSo_X12 hown hK hP 1 rfl rfl 14 (by decide) (hts _ mm_X12_startSo_1) (fun _ h9 => h9) rfl dX12_startSo_126 ?_
  refine lv_bipush (v := 87) hx hb dX12_startSo_129 (by decide) ?_
  refine lv_iload_n hx hb dX12_startSo_131 rfl (lv_at hl 0 rfl) ?_
  refine lv_iadd hx hb dX12_startSo_132 ?_
  refine zz_top (v := 93) (by decide) ?_
  refine lv_aload_n hx hb dX12_startSo_133 rfl (lv_at hl 1 rfl) ?_
  refine va_get (D := (dC, dI)) (ci := 11) (v := .ref h1) (C := RX12) (T := TX12) (N := 47) hx hb hts ii_X12_startSo_X12 hown hK hP 1 rfl rfl 14 (by decide) (hts _ mm_X12_startSo_1) (fun _ h9 => h9) rfl dX12_startSo_134 ?_
  refine lv_bipush (v := 26) hx hb dX12_startSo_137 (by decide) ?_
  refine lv_iload_n hx hb dX12_startSo_139 rfl (lv_at hl 0 rfl) ?_
  refine lv_iadd hx hb dX12_startSo_140 ?_
  refine zz_top (v := 32) (by decide) ?_
  refine va_iald hx hb hK hP 0 0 rfl rfl (i := 32) (zz_in (by decide)) dX12_startSo_141 ?_
  refine lv_topi (fun z44 ez44 => ?_)
  refine va_iast hx hb hK hP hD hS 0 0 rfl rfl (i := 93) (zz_in (by decide)) dX12_startSo_142 (fun H locs hP hD hS => ?_)
  have hP : va_P (dC, dI) vwCl [(h1, .inl (w0, 373, .inl (upd (upd (upd (upd (upd (upd (upd (upd (upd (upd (upd (upd (upd (upd (upd (upd (upd (upd (upd (upd (upd (upd (upd (upd (upd (upd (upd (upd f2 62 z4) 65 z5) 66 z7) 67 z9) 68 z11) 69 z13) 70 z15) 71 z18) 79 z19) 87 z20) 72 z22) 80 z23) 88 z24) 73 z26) 81 z27) 89 z28) 74 z30) 82 z31) 90 z32) 75 z34) 83 z35) 91 z36) 76 z38) 84 z39) 92 z40) 77 z42) 85 z43) 93 z44))), (h0, .inr (11, [.int 0, .ref h2, .int 0, .int 0, .int 900, .int 0, .int 0, .int 0, .int 0, .int 0, .int 0, .int 0, .long 0, .int 0, .ref h1, .ref h3, .ref h4, .ref h5, .ref h6, .ref h7, .ref h8, .ref h9, .ref h10, .int 0, .int 0, .int 0, .int 0, .int (-1), .int (-1), .long 0, .long 0, .ref h11, .ref h12, .int 0, .int (-1), .int 0, .ref h13, .int 0, .ref h14, .ref h15, .int 0, .int 0, .ref h16, .int 0, .int 0, .int 0, .int 0]))] H := hP
  have hD : va_D A [(h1, .inl (w0, 373, .inl (upd (upd (upd (upd (upd (upd (upd (upd (upd (upd (upd (upd (upd (upd (upd (upd (upd (upd (upd (upd (upd (upd (upd (upd (upd (upd (upd (upd f2 62 z4) 65 z5) 66 z7) 67 z9) 68 z11) 69 z13) 70 z15) 71 z18) 79 z19) 87 z20) 72 z22) 80 z23) 88 z24) 73 z26) 81 z27) 89 z28) 74 z30) 82 z31) 90 z32) 75 z34) 83 z35) 91 z36) 76 z38) 84 z39) 92 z40) 77 z42) 85 z43) 93 z44))), (h0, .inr (11, [.int 0, .ref h2, .int 0, .int 0, .int 900, .int 0, .int 0, .int 0, .int 0, .int 0, .int 0, .int 0, .long 0, .int 0, .ref h1, .ref h3, .ref h4, .ref h5, .ref h6, .ref h7, .ref h8, .ref h9, .ref h10, .int 0, .int 0, .int 0, .int 0, .int (-1), .int (-1), .long 0, .long 0, .ref h11, .ref h12, .int 0, .int (-1), .int 0, .ref h13, .int 0, .ref h14, .ref h15, .int 0, .int 0, .ref h16, .int 0, .int 0, .int 0, .int 0]))] := hD
  refine lv_iinc (v := 7) (lv' := [(1, .int 7), (0, .ref h0)]) hx hb dX12_startSo_143 hl (k := 0) rfl (by decide) (by decide) rfl (fun ls hl => ?_)
  refine lv_goto (tgt := 83) hx hb dX12_startSo_146 (by decide) ?_
  refine lv_iload_n hx hb dX12_startSo_83 rfl (lv_at hl 0 rfl) ?_
  refine lv_bipush (v := 8) hx hb dX12_startSo_84 (by decide) ?_
  refine lv_icmp_ge (tgt := 149) hx hb dX12_startSo_86 (by decide) (fun c45 => absurd c45 (by decide)) (fun _ => ?_)
  refine lv_aload_n hx hb dX12_startSo_89 rfl (lv_at hl 1 rfl) ?_
  refine va_get (D := (dC, dI)) (ci := 11) (v := .ref h1) (C := RX12) (T := TX12) (N := 47) hx hb hts ii_X12_startSo_X12 hown hK hP 1 rfl rfl 14 (by decide) (hts _ mm_X12_startSo_1) (fun _ h9 => h9) rfl dX12_startSo_90 ?_
  refine lv_bipush (v := 71) hx hb dX12_startSo_93 (by decide) ?_
  refine lv_iload_n hx hb dX12_startSo_95 rfl (lv_at hl 0 rfl) ?_
  refine lv_iadd hx hb dX12_startSo_96 ?_
  refine zz_top (v := 78) (by decide) ?_
  refine lv_aload_n hx hb dX12_startSo_97 rfl (lv_at hl 1 rfl) ?_
  refine va_get (D := (dC, dI)) (ci := 11) (v := .ref h1) (C := RX12) (T := TX12) (N := 47) hx hb hts ii_X12_startSo_X12 hown hK hP 1 rfl rfl 14 (by decide) (hts _ mm_X12_startSo_1) (fun _ h9 => h9) rfl dX12_startSo_98 ?_
  refine lv_bipush (v := 10) hx hb dX12_startSo_101 (by decide) ?_
  refine lv_iload_n hx hb dX12_startSo_103 rfl (lv_at hl 0 rfl) ?_
  refine lv_iadd hx hb dX12_startSo_104 ?_
  refine zz_top (v := 17) (by decide) ?_
  refine va_iald hx hb hK hP 0 0 rfl rfl (i := 17) (zz_in (by decide)) dX12_startSo_105 ?_
  refine lv_topi (fun z46 ez46 => ?_)
  refine va_iast hx hb hK hP hD hS 0 0 rfl rfl (i := 78) (zz_in (by decide)) dX12_startSo_106 (fun H locs hP hD hS => ?_)
  have hP : va_P (dC, dI) vwCl [(h1, .inl (w0, 373, .inl (upd (upd (upd (upd (upd (upd (upd (upd (upd (upd (upd (upd (upd (upd (upd (upd (upd (upd (upd (upd (upd (upd (upd (upd (upd (upd (upd (upd (upd f2 62 z4) 65 z5) 66 z7) 67 z9) 68 z11) 69 z13) 70 z15) 71 z18) 79 z19) 87 z20) 72 z22) 80 z23) 88 z24) 73 z26) 81 z27) 89 z28) 74 z30) 82 z31) 90 z32) 75 z34) 83 z35) 91 z36) 76 z38) 84 z39) 92 z40) 77 z42) 85 z43) 93 z44) 78 z46))), (h0, .inr (11, [.int 0, .ref h2, .int 0, .int 0, .int 900, .int 0, .int 0, .int 0, .int 0, .int 0, .int 0, .int 0, .long 0, .int 0, .ref h1, .ref h3, .ref h4, .ref h5, .ref h6, .ref h7, .ref h8, .ref h9, .ref h10, .int 0, .int 0, .int 0, .int 0, .int (-1), .int (-1), .long 0, .long 0, .ref h11, .ref h12, .int 0, .int (-1), .int 0, .ref h13, .int 0, .ref h14, .ref h15, .int 0, .int 0, .ref h16, .int 0, .int 0, .int 0, .int 0]))] H := hP
  have hD : va_D A [(h1, .inl (w0, 373, .inl (upd (upd (upd (upd (upd (upd (upd (upd (upd (upd (upd (upd (upd (upd (upd (upd (upd (upd (upd (upd (upd (upd (upd (upd (upd (upd (upd (upd (upd f2 62 z4) 65 z5) 66 z7) 67 z9) 68 z11) 69 z13) 70 z15) 71 z18) 79 z19) 87 z20) 72 z22) 80 z23) 88 z24) 73 z26) 81 z27) 89 z28) 74 z30) 82 z31) 90 z32) 75 z34) 83 z35) 91 z36) 76 z38) 84 z39) 92 z40) 77 z42) 85 z43) 93 z44) 78 z46))), (h0, .inr (11, [.int 0, .ref h2, .int 0, .int 0, .int 900, .int 0, .int 0, .int 0, .int 0, .int 0, .int 0, .int 0, .long 0, .int 0, .ref h1, .ref h3, .ref h4, .ref h5, .ref h6, .ref h7, .ref h8, .ref h9, .ref h10, .int 0, .int 0, .int 0, .int 0, .int (-1), .int (-1), .long 0, .long 0, .ref h11, .ref h12, .int 0, .int (-1), .int 0, .ref h13, .int 0, .ref h14, .ref h15, .int 0, .int 0, .ref h16, .int 0, .int 0, .int 0, .int 0]))] := hD
  refine lv_aload_n hx hb dX12_startSo_107 rfl (lv_at hl 1 rfl) ?_
  refine va_get (D := (dC, dI)) (ci := 11) (v := .ref h1) (C := RX12) (T := TX12) (N := 47) hx hb hts ii_X12_startSo_X12 hown hK hP 1 rfl rfl 14 (by decide) (hts _ mm_X12_startSo_1) (fun _ h9 => h9) rfl dX12_startSo_108 ?_
  refine lv_bipush (v := 79) hx hb dX12_startSo_111 (by decide) ?_
  refine lv_iload_n hx hb dX12_startSo_113 rfl (lv_at hl 0 rfl) ?_
  refine lv_iadd hx hb dX12_startSo_114 ?_
  refine zz_top (v := 86) (by decide) ?_
  refine lv_aload_n hx hb dX12_startSo_115 rfl (lv_at hl 1 rfl) ?_
  refine va_get (D := (dC, dI)) (ci := 11) (v := .ref h1) (C := RX12) (T := TX12) (N := 47) hx hb hts ii_X12_startSo_X12 hown hK hP 1 rfl rfl 14 (by decide) (hts _ mm_X12_startSo_1) (fun _ h9 => h9) rfl dX12_startSo_116 ?_
  refine lv_bipush (v := 18) hx hb dX12_startSo_119 (by decide) ?_
  refine lv_iload_n hx hb dX12_startSo_121 rfl (lv_at hl 0 rfl) ?_
  refine lv_iadd hx hb dX12_startSo_122 ?_
  refine zz_top (v := 25) (by decide) ?_
  refine va_iald hx hb hK hP 0 0 rfl rfl (i := 25) (zz_in (by decide)) dX12_startSo_123 ?_
  refine lv_topi (fun z47 ez47 => ?_)
  refine va_iast hx hb hK hP hD hS 0 0 rfl rfl (i := 86) (zz_in (by decide)) dX12_startSo_124 (fun H locs hP hD hS => ?_)
  have hP : va_P (dC, dI) vwCl [(h1, .inl (w0, 373, .inl (upd (upd (upd (upd (upd (upd (upd (upd (upd (upd (upd (upd (upd (upd (upd (upd (upd (upd (upd (upd (upd (upd (upd (upd (upd (upd (upd (upd (upd (upd f2 62 z4) 65 z5) 66 z7) 67 z9) 68 z11) 69 z13) 70 z15) 71 z18) 79 z19) 87 z20) 72 z22) 80 z23) 88 z24) 73 z26) 81 z27) 89 z28) 74 z30) 82 z31) 90 z32) 75 z34) 83 z35) 91 z36) 76 z38) 84 z39) 92 z40) 77 z42) 85 z43) 93 z44) 78 z46) 86 z47))), (h0, .inr (11, [.int 0, .ref h2, .int 0, .int 0, .int 900, .int 0, .int 0, .int 0, .int 0, .int 0, .int 0, .int 0, .long 0, .int 0, .ref h1, .ref h3, .ref h4, .ref h5, .ref h6, .ref h7, .ref h8, .ref h9, .ref h10, .int 0, .int 0, .int 0, .int 0, .int (-1), .int (-1), .long 0, .long 0, .ref h11, .ref h12, .int 0, .int (-1), .int 0, .ref h13, .int 0, .ref h14, .ref h15, .int 0, .int 0, .ref h16, .int 0, .int 0, .int 0, .int 0]))] H := hP
  have hD : va_D A [(h1, .inl (w0, 373, .inl (upd (upd (upd (upd (upd (upd (upd (upd (upd (upd (upd (upd (upd (upd (upd (upd (upd (upd (upd (upd (upd (upd (upd (upd (upd (upd (upd (upd (upd (upd f2 62 z4) 65 z5) 66 z7) 67 z9) 68 z11) 69 z13) 70 z15) 71 z18) 79 z19) 87 z20) 72 z22) 80 z23) 88 z24) 73 z26) 81 z27) 89 z28) 74 z30) 82 z31) 90 z32) 75 z34) 83 z35) 91 z36) 76 z38) 84 z39) 92 z40) 77 z42) 85 z43) 93 z44) 78 z46) 86 z47))), (h0, .inr (11, [.int 0, .ref h2, .int 0, .int 0, .int 900, .int 0, .int 0, .int 0, .int 0, .int 0, .int 0, .int 0, .long 0, .int 0, .ref h1, .ref h3, .ref h4, .ref h5, .ref h6, .ref h7, .ref h8, .ref h9, .ref h10, .int 0, .int 0, .int 0, .int 0, .int (-1), .int (-1), .long 0, .long 0, .ref h11, .ref h12, .int 0, .int (-1), .int 0, .ref h13, .int 0, .ref h14, .ref h15, .int 0, .int 0, .ref h16, .int 0, .int 0, .int 0, .int 0]))] := hD
  refine lv_aload_n hx hb dX12_startSo_125 rfl (lv_at hl 1 rfl) ?_
  refine va_get (D := (dC, dI)) (ci := 11) (v := .ref h1) (C := RX12) (T := TX12) (N := 47) hx hb hts ii_X12_startSo_X12 hown hK hP 1 rfl rfl 14 (by decide) (hts _ mm_X12_startSo_1) (fun _ h9 => h9) rfl dX12_startSo_126 ?_
  refine lv_bipush (v := 87) hx hb dX12_startSo_129 (by decide) ?_
  refine lv_iload_n hx hb dX12_startSo_131 rfl (lv_at hl 0 rfl) ?_
  refine lv_iadd hx hb dX12_startSo_132 ?_
  refine zz_top (v := 94) (by decide) ?_
  refine lv_aload_n hx hb dX12_startSo_133 rfl (lv_at hl 1 rfl) ?_
  refine va_get (D := (dC, dI)) (ci := 11) (v := .ref h1) (C := RX12) (T := TX12) (N := 47) hx hb hts ii_X12_startSo_X12 hown hK hP 1 rfl rfl 14 (by decide) (hts _ mm_X12_startSo_1) (fun _ h9 => h9) rfl dX12_startSo_134 ?_
  refine lv_bipush (v := 26) hx hb dX12_startSo_137 (by decide) ?_
  refine lv_iload_n hx hb dX12_startSo_139 rfl (lv_at hl 0 rfl) ?_
  refine lv_iadd hx hb dX12_startSo_140 ?_
  refine zz_top (v := 33) (by decide) ?_
  refine va_iald hx hb hK hP 0 0 rfl rfl (i := 33) (zz_in (by decide)) dX12_startSo_141 ?_
  refine lv_topi (fun z48 ez48 => ?_)
  refine va_iast hx hb hK hP hD hS 0 0 rfl rfl (i := 94) (zz_in (by decide)) dX12_startSo_142 (fun H locs hP hD hS => ?_)
  have hP : va_P (dC, dI) vwCl [(h1, .inl (w0, 373, .inl (upd (upd (upd (upd (upd (upd (upd (upd (upd (upd (upd (upd (upd (upd (upd (upd (upd (upd (upd (upd (upd (upd (upd (upd (upd (upd (upd (upd (upd (upd (upd f2 62 z4) 65 z5) 66 z7) 67 z9) 68 z11) 69 z13) 70 z15) 71 z18) 79 z19) 87 z20) 72 z22) 80 z23) 88 z24) 73 z26) 81 z27) 89 z28) 74 z30) 82 z31) 90 z32) 75 z34) 83 z35) 91 z36) 76 z38) 84 z39) 92 z40) 77 z42) 85 z43) 93 z44) 78 z46) 86 z47) 94 z48))), (h0, .inr (11, [.int 0, .ref h2, .int 0, .int 0, .int 900, .int 0, .int 0, .int 0, .int 0, .int 0, .int 0, .int 0, .long 0, .int 0, .ref h1, .ref h3, .ref h4, .ref h5, .ref h6, .ref h7, .ref h8, .ref h9, .ref h10, .int 0, .int 0, .int 0, .int 0, .int (-1), .int (-1), .long 0, .long 0, .ref h11, .ref h12, .int 0, .int (-1), .int 0, .ref h13, .int 0, .ref h14, .ref h15, .int 0, .int 0, .ref h16, .int 0, .int 0, .int 0, .int 0]))] H := hP
  have hD : va_D A [(h1, .inl (w0, 373, .inl (upd (upd (upd (upd (upd (upd (upd (upd (upd (upd (upd (upd (upd (upd (upd (upd (upd (upd (upd (upd (upd (upd (upd (upd (upd (upd (upd (upd (upd (upd (upd f2 62 z4) 65 z5) 66 z7) 67 z9) 68 z11) 69 z13) 70 z15) 71 z18) 79 z19) 87 z20) 72 z22) 80 z23) 88 z24) 73 z26) 81 z27) 89 z28) 74 z30) 82 z31) 90 z32) 75 z34) 83 z35) 91 z36) 76 z38) 84 z39) 92 z40) 77 z42) 85 z43) 93 z44) 78 z46) 86 z47) 94 z48))), (h0, .inr (11, [.int 0, .ref h2, .int 0, .int 0, .int 900, .int 0, .int 0, .int 0, .int 0, .int 0, .int 0, .int 0, .long 0, .int 0, .ref h1, .ref h3, .ref h4, .ref h5, .ref h6, .ref h7, .ref h8, .ref h9, .ref h10, .int 0, .int 0, .int 0, .int 0, .int (-1), .int (-1), .long 0, .long 0, .ref h11, .ref h12, .int 0, .int (-1), .int 0, .ref h13, .int 0, .ref h14, .ref h15, .int 0, .int 0, .ref h16, .int 0, .int 0, .int 0, .int 0]))] := hD
  refine lv_iinc (v := 8) (lv' := [(1, .int 8), (0, .ref h0)]) hx hb dX12_startSo_143 hl (k := 0) rfl (by decide) (by decide) rfl (fun ls hl => ?_)
  refine lv_goto (tgt := 83) hx hb dX12_startSo_146 (by decide) ?_
  refine lv_iload_n hx hb dX12_startSo_83 rfl (lv_at hl 0 rfl) ?_
  refine lv_bipush (v := 8) hx hb dX12_startSo_84 (by decide) ?_
  refine lv_icmp_ge (tgt := 149) hx hb dX12_startSo_86 (by decide) (fun _ => ?_) (fun c49 => absurd (by decide) c49)
  have hP9 := hP.sub (ws' := [(h1, .inl (w0, 373, .inl (upd (upd (upd (upd (upd (upd (upd (upd (upd (upd (upd (upd (upd (upd (upd (upd (upd (upd (upd (upd (upd (upd (upd (upd (upd (upd (upd (upd (upd (upd (upd f2 62 z4) 65 z5) 66 z7) 67 z9) 68 z11) 69 z13) 70 z15) 71 z18) 79 z19) 87 z20) 72 z22) 80 z23) 88 z24) 73 z26) 81 z27) 89 z28) 74 z30) 82 z31) 90 z32) 75 z34) 83 z35) 91 z36) 76 z38) 84 z39) 92 z40) 77 z42) 85 z43) 93 z44) 78 z46) 86 z47) 94 z48))), (h0, .inr (11, [.int 0, .ref h2, .int 0, .int 0, .int 900, .int 0, .int 0, .int 0, .int 0, .int 0, .int 0, .int 0, .long 0, .int 0, .ref h1, .ref h3, .ref h4, .ref h5, .ref h6, .ref h7, .ref h8, .ref h9, .ref h10, .int 0, .int 0, .int 0, .int 0, .int (-1), .int (-1), .long 0, .long 0, .ref h11, .ref h12, .int 0, .int (-1), .int 0, .ref h13, .int 0, .ref h14, .ref h15, .int 0, .int 0, .ref h16, .int 0, .int 0, .int 0, .int 0]))]) [0, 1] rfl
  have hD9 := hD.sub (ws' := [(h1, .inl (w0, 373, .inl (upd (upd (upd (upd (upd (upd (upd (upd (upd (upd (upd (upd (upd (upd (upd (upd (upd (upd (upd (upd (upd (upd (upd (upd (upd (upd (upd (upd (upd (upd (upd f2 62 z4) 65 z5) 66 z7) 67 z9) 68 z11) 69 z13) 70 z15) 71 z18) 79 z19) 87 z20) 72 z22) 80 z23) 88 z24) 73 z26) 81 z27) 89 z28) 74 z30) 82 z31) 90 z32) 75 z34) 83 z35) 91 z36) 76 z38) 84 z39) 92 z40) 77 z42) 85 z43) 93 z44) 78 z46) 86 z47) 94 z48))), (h0, .inr (11, [.int 0, .ref h2, .int 0, .int 0, .int 900, .int 0, .int 0, .int 0, .int 0, .int 0, .int 0, .int 0, .long 0, .int 0, .ref h1, .ref h3, .ref h4, .ref h5, .ref h6, .ref h7, .ref h8, .ref h9, .ref h10, .int 0, .int 0, .int 0, .int 0, .int (-1), .int (-1), .long 0, .long 0, .ref h11, .ref h12, .int 0, .int (-1), .int 0, .ref h13, .int 0, .ref h14, .ref h15, .int 0, .int 0, .ref h16, .int 0, .int 0, .int 0, .int 0]))]) [0, 1] (by decide) rfl
  have hK9 := hK.sub (tys' := []) [] rfl
  refine W.widen (k := 0) (n := 0) (Nat.le_of_ble_eq_true rfl) (Nat.le_of_ble_eq_true rfl) ?_
  exact W.vret hx hb hr (fun t ht hW => ⟨⟨(), rfl, trivial, (upd (upd (upd (upd (upd (upd (upd (upd (upd (upd (upd (upd (upd (upd (upd (upd (upd (upd (upd (upd (upd (upd (upd (upd (upd (upd (upd (upd (upd (upd (upd f2 62 z4) 65 z5) 66 z7) 67 z9) 68 z11) 69 z13) 70 z15) 71 z18) 79 z19) 87 z20) 72 z22) 80 z23) 88 z24) 73 z26) 81 z27) 89 z28) 74 z30) 82 z31) 90 z32) 75 z34) 83 z35) 91 z36) 76 z38) 84 z39) 92 z40) 77 z42) 85 z43) 93 z44) 78 z46) 86 z47) 94 z48), by rw [ht]; exact hP9, va_K.moved hW.alike hK9, hD9⟩, hS.F ht⟩) hS.2.2 dX12_startSo_149
set_option maxHeartbeats 4000000 in
set_option maxRecDepth 100000 in
theorem k_X12_park (l : Launch) (dC : Nat → ClassId) (dI : Nat → Nat → Nat) (ad : Nat → Nat) (h0 h1 h2 h3 h4 h5 h6 h7 h8 h9 h10 h11 h12 h13 h14 h15 h16 : Nat) (w0 w1 w2 w3 : ClassId) (sz : Nat) : Met l yX12_park wsX12_park ({ frames := 2, cells := 0, slots := 0, locals := 45 }) (va_Pc [.ref h0] (CP (dC, dI) [(h1, .inl (w0, 61, .inl (fun _ => 0))), (h2, .inl (w1, 19, .inr (.inl (fun _ => 0)))), (h3, .inl (w2, 19, .inr (.inl (fun _ => 0)))), (h0, .inr (11, [.int 0, .ref h4, .int 0, .int 0, .int 0, .int 0, .int 0, .int 0, .int 0, .int 0, .int 0, .int 0, .long 0, .int 0, .ref h5, .ref h1, .ref h6, .ref h7, .ref h8, .ref h2, .ref h3, .ref h9, .ref h10, .int 0, .int 0, .int 0, .int 0, .int (-1), .int (-1), .long 0, .long 0, .ref h11, .ref h12, .int 0, .int (-1), .int 0, .ref h13, .int 0, .ref h14, .ref h15, .int 0, .int 0, .ref h16, .int 0, .int 0, .int 0, .int 0])), (h5, .inl (w3, 373, .inl (upd (upd (fun _ => 0) 60 2) 62 2)))] [(w3, .int), (w0, .int), (w1, .long), (w2, .long)] sz ad)) (va_Qi (fun (r : Int32) (_ : Unit) => r = 0) (fun (_ : Unit) (t : State) => CQ (dC, dI) [] [] (va_A [(h1, .inl (w0, 61, .inl (fun _ => 0))), (h2, .inl (w1, 19, .inr (.inl (fun _ => 0)))), (h3, .inl (w2, 19, .inr (.inl (fun _ => 0)))), (h0, .inr (11, [.int 0, .ref h4, .int 0, .int 0, .int 0, .int 0, .int 0, .int 0, .int 0, .int 0, .int 0, .int 0, .long 0, .int 0, .ref h5, .ref h1, .ref h6, .ref h7, .ref h8, .ref h2, .ref h3, .ref h9, .ref h10, .int 0, .int 0, .int 0, .int 0, .int (-1), .int (-1), .long 0, .long 0, .ref h11, .ref h12, .int 0, .int (-1), .int 0, .ref h13, .int 0, .ref h14, .ref h15, .int 0, .int 0, .ref h16, .int 0, .int 0, .int 0, .int 0])), (h5, .inl (w3, 373, .inl (upd (upd (fun _ => 0) 60 2) 62 2)))] sz) t) (va_A [(h1, .inl (w0, 61, .inl (fun _ => 0))), (h2, .inl (w1, 19, .inr (.inl (fun _ => 0)))), (h3, .inl (w2, 19, .inr (.inl (fun _ => 0)))), (h0, .inr (11, [.int 0, .ref h4, .int 0, .int 0, .int 0, .int 0, .int 0, .int 0, .int 0, .int 0, .int 0, .int 0, .long 0, .int 0, .ref h5, .ref h1, .ref h6, .ref h7, .ref h8, .ref h2, .ref h3, .ref h9, .ref h10, .int 0, .int 0, .int 0, .int 0, .int (-1), .int (-1), .long 0, .long 0, .ref h11, .ref h12, .int 0, .int (-1), .int 0, .ref h13, .int 0, .ref h14, .ref h15, .int 0, .int 0, .ref h16, .int 0, .int 0, .int 0, .int 0])), (h5, .inl (w3, 373, .inl (upd (upd (fun _ => 0) 60 2) 62 2)))] sz)) 0 0 (va_A [(h1, .inl (w0, 61, .inl (fun _ => 0))), (h2, .inl (w1, 19, .inr (.inl (fun _ => 0)))), (h3, .inl (w2, 19, .inr (.inl (fun _ => 0)))), (h0, .inr (11, [.int 0, .ref h4, .int 0, .int 0, .int 0, .int 0, .int 0, .int 0, .int 0, .int 0, .int 0, .int 0, .long 0, .int 0, .ref h5, .ref h1, .ref h6, .ref h7, .ref h8, .ref h2, .ref h3, .ref h9, .ref h10, .int 0, .int 0, .int 0, .int 0, .int (-1), .int (-1), .long 0, .long 0, .ref h11, .ref h12, .int 0, .int (-1), .int 0, .ref h13, .int 0, .ref h14, .ref h15, .int 0, .int 0, .ref h16, .int 0, .int 0, .int 0, .int 0])), (h5, .inl (w3, 373, .inl (upd (upd (fun _ => 0) 60 2) 62 2)))] sz) := by
  refine Met.ofW (cc := cX12_park) (maxL := 3) (ret := (some .int)) (by decide) rfl ?_
  intro p e s m args below meth c s₁ B hml hv
  obtain ⟨rfl, hsz, hP, hK, hD0, hE⟩ := hv
  have hx := B.exec
  have hb := B.bytes
  have hr := B.returns
  have hts := atoms_spec (ws := wsX12_park) B.pre
  have hown : s.vm.findClass RX12 = some m.cls := findClass_of_methodNamed B.named
  have hlocks := B.notSynchronized
  subst hsz
  have hD := hD0.self (sz := s.heap.size)
  generalize hAe : va_A [(h1, .inl (w0, 61, .inl (fun _ => 0))), (h2, .inl (w1, 19, .inr (.inl (fun _ => 0)))), (h3, .inl (w2, 19, .inr (.inl (fun _ => 0)))), (h0, .inr (11, [.int 0, .ref h4, .int 0, .int 0, .int 0, .int 0, .int 0, .int 0, .int 0, .int 0, .int 0, .int 0, .long 0, .int 0, .ref h5, .ref h1, .ref h6, .ref h7, .ref h8, .ref h2, .ref h3, .ref h9, .ref h10, .int 0, .int 0, .int 0, .int 0, .int (-1), .int (-1), .long 0, .long 0, .ref h11, .ref h12, .int 0, .int (-1), .int 0, .ref h13, .int 0, .ref h14, .ref h15, .int 0, .int 0, .ref h16, .int 0, .int 0, .int 0, .int 0])), (h5, .inl (w3, 373, .inl (upd (upd (fun _ => 0) 60 2) 62 2)))] s.heap.size = A at hD hE ⊢
  have hA : ∀ q : Nat, s.heap.size ≤ q → A q := fun q h => by rw [← hAe]; exact Or.inr h
  have hS : va_S A s.heap s.heap [] := va_S.rf
  have hl := lv_entry ([.ref h0]) (n := 3) (Nat.le_of_ble_eq_true rfl)
  rw [lg_entry_eq]
  generalize (lg_sl ([.ref h0]) ++ List.replicate (3 - (lg_sl ([.ref h0])).length) Slot.unset).toArray = ls at hl ⊢
  have hl : lv_has ls 3 [(0, .ref h0)] := hl
  refine lv_aload_n hx hb dX12_park_0 rfl (lv_at hl 0 rfl) ?_
  refine lv_sipush (v := 900) hx hb dX12_park_1 (by decide) ?_
  have hPc := hP.sub (ws' := [(h0, .inr (11, [.int 0, .ref h4, .int 0, .int 0, .int 0, .int 0, .int 0, .int 0, .int 0, .int 0, .int 0, .int 0, .long 0, .int 0, .ref h5, .ref h1, .ref h6, .ref h7, .ref h8, .ref h2, .ref h3, .ref h9, .ref h10, .int 0, .int 0, .int 0, .int 0, .int (-1), .int (-1), .long 0, .long 0, .ref h11, .ref h12, .int 0, .int (-1), .int 0, .ref h13, .int 0, .ref h14, .ref h15, .int 0, .int 0, .ref h16, .int 0, .int 0, .int 0, .int 0]))]) [3] rfl
  have hDc := hD.sub (ws' := [(h0, .inr (11, [.int 0, .ref h4, .int 0, .int 0, .int 0, .int 0, .int 0, .int 0, .int 0, .int 0, .int 0, .int 0, .long 0, .int 0, .ref h5, .ref h1, .ref h6, .ref h7, .ref h8, .ref h2, .ref h3, .ref h9, .ref h10, .int 0, .int 0, .int 0, .int 0, .int (-1), .int (-1), .long 0, .long 0, .ref h11, .ref h12, .int 0, .int (-1), .int 0, .ref h13, .int 0, .ref h14, .ref h15, .int 0, .int 0, .ref h16, .int 0, .int 0, .int 0, .int 0]))]) [3] (by decide) rfl
  have hKc := hK.sub (tys' := []) [] rfl
  have hFc := va_free (wc := [(h0, .inr (11, [.int 0, .ref h4, .int 0, .int 0, .int 0, .int 0, .int 0, .int 0, .int 0, .int 0, .int 0, .int 0, .long 0, .int 0, .ref h5, .ref h1, .ref h6, .ref h7, .ref h8, .ref h2, .ref h3, .ref h9, .ref h10, .int 0, .int 0, .int 0, .int 0, .int (-1), .int (-1), .long 0, .long 0, .ref h11, .ref h12, .int 0, .int (-1), .int 0, .ref h13, .int 0, .ref h14, .ref h15, .int 0, .int 0, .ref h16, .int 0, .int 0, .int 0, .int 0]))]) hD hS hA [3] rfl
  refine va_callv (va_runV (As := [.int 900]) (rest := []) ⟨hx, hb, hml, hown, hts⟩ (k_X12_begin l dC dI ad h0 h4 h5 h1 h6 h7 h8 h2 h3 h9 h10 h11 h12 h13 h14 h15 h16 s.heap.size) (cwV 1 hts gX12_park_X12_begin rfl rfl rfl (by decide +kernel) ⟨Nat.le_of_ble_eq_true rfl, Nat.le_of_ble_eq_true rfl⟩) ⟨fun a U g mk q => ⟨q.1, CP.blind q.2⟩, va_recv hKc hPc (ci := 11) (q0 := 0) rfl rfl, fun U hU hW => ⟨rfl, CP.of hPc hKc hDc hE hS hFc hU hW⟩⟩ rfl rfl hl.1 rfl (lv_room (Nat.le_of_ble_eq_true rfl)) dX12_park_4 ⟨Nat.le_of_ble_eq_true rfl, Nat.le_of_ble_eq_true rfl⟩) hS (fun q _ h => hFc q h) hFc (fun u t H1 locs ht hvm hw hB hz1 hk1 hS => ?_)
  obtain ⟨hP1, hK1, hD1⟩ := hB
  rw [ht] at hP1
  obtain ⟨hP, hD⟩ := va_join (wr := [(h1, .inl (w0, 61, .inl (fun _ => 0))), (h2, .inl (w1, 19, .inr (.inl (fun _ => 0)))), (h3, .inl (w2, 19, .inr (.inl (fun _ => 0)))), (h5, .inl (w3, 373, .inl (upd (upd (fun _ => 0) 60 2) 62 2)))]) (w1 := [(h0, .inr (11, [.int 0, .ref h4, .int 0, .int 0, .int 900, .int 0, .int 0, .int 0, .int 0, .int 0, .int 0, .int 0, .long 0, .int 0, .ref h5, .ref h1, .ref h6, .ref h7, .ref h8, .ref h2, .ref h3, .ref h9, .ref h10, .int 0, .int 0, .int 0, .int 0, .int (-1), .int (-1), .long 0, .long 0, .ref h11, .ref h12, .int 0, .int (-1), .int 0, .ref h13, .int 0, .ref h14, .ref h15, .int 0, .int 0, .ref h16, .int 0, .int 0, .int 0, .int 0]))]) hP hD [3] [0, 1, 2, 4] rfl rfl (by decide) (by decide) hk1 hFc hP1 hD1
  generalize H1 = H at hP hS ⊢
  clear hPc hDc hKc hFc hP1 hD1 hK1 hk1 hz1
  have hP : va_P (dC, dI) vwCl [(h1, .inl (w0, 61, .inl (fun _ => 0))), (h2, .inl (w1, 19, .inr (.inl (fun _ => 0)))), (h3, .inl (w2, 19, .inr (.inl (fun _ => 0)))), (h5, .inl (w3, 373, .inl (upd (upd (fun _ => 0) 60 2) 62 2))), (h0, .inr (11, [.int 0, .ref h4, .int 0, .int 0, .int 900, .int 0, .int 0, .int 0, .int 0, .int 0, .int 0, .int 0, .long 0, .int 0, .ref h5, .ref h1, .ref h6, .ref h7, .ref h8, .ref h2, .ref h3, .ref h9, .ref h10, .int 0, .int 0, .int 0, .int 0, .int (-1), .int (-1), .long 0, .long 0, .ref h11, .ref h12, .int 0, .int (-1), .int 0, .ref h13, .int 0, .ref h14, .ref h15, .int 0, .int 0, .ref h16, .int 0, .int 0, .int 0, .int 0]))] H := hP
  have hD : va_D A [(h1, .inl (w0, 61, .inl (fun _ => 0))), (h2, .inl (w1, 19, .inr (.inl (fun _ => 0)))), (h3, .inl (w2, 19, .inr (.inl (fun _ => 0)))), (h5, .inl (w3, 373, .inl (upd (upd (fun _ => 0) 60 2) 62 2))), (h0, .inr (11, [.int 0, .ref h4, .int 0, .int 0, .int 900, .int 0, .int 0, .int 0, .int 0, .int 0, .int 0, .int 0, .long 0, .int 0, .ref h5, .ref h1, .ref h6, .ref h7, .ref h8, .ref h2, .ref h3, .ref h9, .ref h10, .int 0, .int 0, .int 0, .int 0, .int (-1), .int (-1), .long 0, .long 0, .ref h11, .ref h12, .int 0, .int (-1), .int 0, .ref h13, .int 0, .ref h14, .ref h15, .int 0, .int 0, .ref h16, .int 0, .int 0, .int 0, .int 0]))] := hD
  refine lv_iconst (v := 0) hx hb dX12_park_7 (by decide) ?_
  refine lv_istore_n (lv' := [(1, .int 0), (0, .ref h0)]) hx hb dX12_park_8 rfl hl (by decide) rfl (fun ls hl => ?_)
  refine zz_loop (σ := Unit) (fun (k : Nat) (x : Unit) (H : Heap) (locs : List Loc) (ls : Array Slot) => 0 ≤ k ∧ va_P (dC, dI) vwCl [(h1, .inl (w0, 61, .inl (fun _ => 0))), (h2, .inl (w1, 19, .inr (.inl (fun _ => 0)))), (h3, .inl (w2, 19, .inr (.inl (fun _ => 0)))), (h5, .inl (w3, 373, .inl (upd (upd (fun _ => 0) 60 2) 62 2))), (h0, .inr (11, [.int 0, .ref h4, .int 0, .int 0, .int 900, .int 0, .int 0, .int 0, .int 0, .int 0, .int 0, .int 0, .long 0, .int 0, .ref h5, .ref h1, .ref h6, .ref h7, .ref h8, .ref h2, .ref h3, .ref h9, .ref h10, .int 0, .int 0, .int 0, .int 0, .int (-1), .int (-1), .long 0, .long 0, .ref h11, .ref h12, .int 0, .int (-1), .int 0, .ref h13, .int 0, .ref h14, .ref h15, .int 0, .int 0, .ref h16, .int 0, .int 0, .int 0, .int 0]))] H ∧ va_D A [(h1, .inl (w0, 61, .inl (fun _ => 0))), (h2, .inl (w1, 19, .inr (.inl (fun _ => 0)))), (h3, .inl (w2, 19, .inr (.inl (fun _ => 0)))), (h5, .inl (w3, 373, .inl (upd (upd (fun _ => 0) 60 2) 62 2))), (h0, .inr (11, [.int 0, .ref h4, .int 0, .int 0, .int 900, .int 0, .int 0, .int 0, .int 0, .int 0, .int 0, .int 0, .long 0, .int 0, .ref h5, .ref h1, .ref h6, .ref h7, .ref h8, .ref h2, .ref h3, .ref h9, .ref h10, .int 0, .int 0, .int 0, .int 0, .int (-1), .int (-1), .long 0, .long 0, .ref h11, .ref h12, .int 0, .int (-1), .int 0, .ref h13, .int 0, .ref h14, .ref h15, .int 0, .int 0, .ref h16, .int 0, .int 0, .int 0, .int 0]))] ∧ va_S A s.heap H locs ∧ lv_has ls 3 [(1, .int (nI k)), (0, .ref h0)]) 61 ?_ ?_ 0 () _ _ _ (by omega) ⟨by omega, hP, hD, hS, hl⟩
  · rintro k1 _ H locs ls hkk1 ⟨hmk1, hP, hD, hS, hl⟩ ih
    have hP : va_P (dC, dI) vwCl [(h1, .inl (w0, 61, .inl (fun _ => 0))), (h2, .inl (w1, 19, .inr (.inl (fun _ => 0)))), (h3, .inl (w2, 19, .inr (.inl (fun _ => 0)))), (h5, .inl (w3, 373, .inl (upd (upd (fun _ => 0) 60 2) 62 2))), (h0, .inr (11, [.int 0, .ref h4, .int 0, .int 0, .int 900, .int 0, .int 0, .int 0, .int 0, .int 0, .int 0, .int 0, .long 0, .int 0, .ref h5, .ref h1, .ref h6, .ref h7, .ref h8, .ref h2, .ref h3, .ref h9, .ref h10, .int 0, .int 0, .int 0, .int 0, .int (-1), .int (-1), .long 0, .long 0, .ref h11, .ref h12, .int 0, .int (-1), .int 0, .ref h13, .int 0, .ref h14, .ref h15, .int 0, .int 0, .ref h16, .int 0, .int 0, .int 0, .int 0]))] H := hP
    have hD : va_D A [(h1, .inl (w0, 61, .inl (fun _ => 0))), (h2, .inl (w1, 19, .inr (.inl (fun _ => 0)))), (h3, .inl (w2, 19, .inr (.inl (fun _ => 0)))), (h5, .inl (w3, 373, .inl (upd (upd (fun _ => 0) 60 2) 62 2))), (h0, .inr (11, [.int 0, .ref h4, .int 0, .int 0, .int 900, .int 0, .int 0, .int 0, .int 0, .int 0, .int 0, .int 0, .long 0, .int 0, .ref h5, .ref h1, .ref h6, .ref h7, .ref h8, .ref h2, .ref h3, .ref h9, .ref h10, .int 0, .int 0, .int 0, .int 0, .int (-1), .int (-1), .long 0, .long 0, .ref h11, .ref h12, .int 0, .int (-1), .int 0, .ref h13, .int 0, .ref h14, .ref h15, .int 0, .int 0, .ref h16, .int 0, .int 0, .int 0, .int 0]))] := hD
    have hl : lv_has ls 3 [(1, .int (nI k1)), (0, .ref h0)] := hl
    refine lv_iload_n hx hb dX12_park_9 rfl (lv_at hl 0 rfl) ?_
    refine lv_bipush (v := 61) hx hb dX12_park_10 (by decide) ?_
    refine lv_icmp_ge (tgt := 28) hx hb dX12_park_12 (by decide) (fun c9 => absurd c9 (nI_ge (a := k1) (b := 61) (by omega) (by omega))) (fun _ => ?_)
    refine lv_aload_n hx hb dX12_park_15 rfl (lv_at hl 1 rfl) ?_
    refine va_get (D := (dC, dI)) (ci := 11) (v := .ref h1) (C := RX12) (T := TX12) (N := 47) hx hb hts ii_X12_park_X12 hown hK hP 4 rfl rfl 15 (by decide) (hts _ mm_X12_park_1) (fun _ h9 => h9) rfl dX12_park_16 ?_
    refine lv_iload_n hx hb dX12_park_19 rfl (lv_at hl 0 rfl) ?_
    refine lv_iconst (v := 0) hx hb dX12_park_20 (by decide) ?_
    refine va_iast hx hb hK hP hD hS 0 1 rfl rfl (i := (nI k1)) (vp_in_nI (by omega) (by decide)) dX12_park_21 (fun H locs hP hD hS => ?_)
    have hP : va_P (dC, dI) vwCl [(h1, .inl (w0, 61, .inl (upd (fun _ => 0) (nI k1).toNatClampNeg 0))), (h2, .inl (w1, 19, .inr (.inl (fun _ => 0)))), (h3, .inl (w2, 19, .inr (.inl (fun _ => 0)))), (h5, .inl (w3, 373, .inl (upd (upd (fun _ => 0) 60 2) 62 2))), (h0, .inr (11, [.int 0, .ref h4, .int 0, .int 0, .int 900, .int 0, .int 0, .int 0, .int 0, .int 0, .int 0, .int 0, .long 0, .int 0, .ref h5, .ref h1, .ref h6, .ref h7, .ref h8, .ref h2, .ref h3, .ref h9, .ref h10, .int 0, .int 0, .int 0, .int 0, .int (-1), .int (-1), .long 0, .long 0, .ref h11, .ref h12, .int 0, .int (-1), .int 0, .ref h13, .int 0, .ref h14, .ref h15, .int 0, .int 0, .ref h16, .int 0, .int 0, .int 0, .int 0]))] H := hP
    have hD : va_D A [(h1, .inl (w0, 61, .inl (upd (fun _ => 0) (nI k1).toNatClampNeg 0))), (h2, .inl (w1, 19, .inr (.inl (fun _ => 0)))), (h3, .inl (w2, 19, .inr (.inl (fun _ => 0)))), (h5, .inl (w3, 373, .inl (upd (upd (fun _ => 0) 60 2) 62 2))), (h0, .inr (11, [.int 0, .ref h4, .int 0, .int 0, .int 900, .int 0, .int 0, .int 0, .int 0, .int 0, .int 0, .int 0, .long 0, .int 0, .ref h5, .ref h1, .ref h6, .ref h7, .ref h8, .ref h2, .ref h3, .ref h9, .ref h10, .int 0, .int 0, .int 0, .int 0, .int (-1), .int (-1), .long 0, .long 0, .ref h11, .ref h12, .int 0, .int (-1), .int 0, .ref h13, .int 0, .ref h14, .ref h15, .int 0, .int 0, .ref h16, .int 0, .int 0, .int 0, .int 0]))] := hD
    rw [sw_zero k1] at hP hD
    have hP : va_P (dC, dI) vwCl [(h1, .inl (w0, 61, .inl (fun _ => 0))), (h2, .inl (w1, 19, .inr (.inl (fun _ => 0)))), (h3, .inl (w2, 19, .inr (.inl (fun _ => 0)))), (h5, .inl (w3, 373, .inl (upd (upd (fun _ => 0) 60 2) 62 2))), (h0, .inr (11, [.int 0, .ref h4, .int 0, .int 0, .int 900, .int 0, .int 0, .int 0, .int 0, .int 0, .int 0, .int 0, .long 0, .int 0, .ref h5, .ref h1, .ref h6, .ref h7, .ref h8, .ref h2, .ref h3, .ref h9, .ref h10, .int 0, .int 0, .int 0, .int 0, .int (-1), .int (-1), .long 0, .long 0, .ref h11, .ref h12, .int 0, .int (-1), .int 0, .ref h13, .int 0, .ref h14, .ref h15, .int 0, .int 0, .ref h16, .int 0, .int 0, .int 0, .int 0]))] H := hP
    have hD : va_D A [(h1, .inl (w0, 61, .inl (fun _ => 0))), (h2, .inl (w1, 19, .inr (.inl (fun _ => 0)))), (h3, .inl (w2, 19, .inr (.inl (fun _ => 0)))), (h5, .inl (w3, 373, .inl (upd (upd (fun _ => 0) 60 2) 62 2))), (h0, .inr (11, [.int 0, .ref h4, .int 0, .int 0, .int 900, .int 0, .int 0, .int 0, .int 0, .int 0, .int 0, .int 0, .long 0, .int 0, .ref h5, .ref h1, .ref h6, .ref h7, .ref h8, .ref h2, .ref h3, .ref h9, .ref h10, .int 0, .int 0, .int 0, .int 0, .int (-1), .int (-1), .long 0, .long 0, .ref h11, .ref h12, .int 0, .int (-1), .int 0, .ref h13, .int 0, .ref h14, .ref h15, .int 0, .int 0, .ref h16, .int 0, .int 0, .int 0, .int 0]))] := hD
    refine lv_iinc (v := (nI (k1 + 1))) (lv' := [(1, .int (nI (k1 + 1))), (0, .ref h0)]) hx hb dX12_park_22 hl (k := 0) rfl (zz_addr k1 1) (by decide) rfl (fun ls hl => ?_)
    refine lv_goto (tgt := 9) hx hb dX12_park_25 (by decide) ?_
    exact ih () _ _ _ ⟨by omega, hP, hD, hS, lv_sub hl [0, 1] rfl⟩
  rintro _ H locs ls ⟨-, hP, hD, hS, hl⟩
  have hP : va_P (dC, dI) vwCl [(h1, .inl (w0, 61, .inl (fun _ => 0))), (h2, .inl (w1, 19, .inr (.inl (fun _ => 0)))), (h3, .inl (w2, 19, .inr (.inl (fun _ => 0)))), (h5, .inl (w3, 373, .inl (upd (upd (fun _ => 0) 60 2) 62 2))), (h0, .inr (11, [.int 0, .ref h4, .int 0, .int 0, .int 900, .int 0, .int 0, .int 0, .int 0, .int 0, .int 0, .int 0, .long 0, .int 0, .ref h5, .ref h1, .ref h6, .ref h7, .ref h8, .ref h2, .ref h3, .ref h9, .ref h10, .int 0, .int 0, .int 0, .int 0, .int (-1), .int (-1), .long 0, .long 0, .ref h11, .ref h12, .int 0, .int (-1), .int 0, .ref h13, .int 0, .ref h14, .ref h15, .int 0, .int 0, .ref h16, .int 0, .int 0, .int 0, .int 0]))] H := hP
  have hD : va_D A [(h1, .inl (w0, 61, .inl (fun _ => 0))), (h2, .inl (w1, 19, .inr (.inl (fun _ => 0)))), (h3, .inl (w2, 19, .inr (.inl (fun _ => 0)))), (h5, .inl (w3, 373, .inl (upd (upd (fun _ => 0) 60 2) 62 2))), (h0, .inr (11, [.int 0, .ref h4, .int 0, .int 0, .int 900, .int 0, .int 0, .int 0, .int 0, .int 0, .int 0, .int 0, .long 0, .int 0, .ref h5, .ref h1, .ref h6, .ref h7, .ref h8, .ref h2, .ref h3, .ref h9, .ref h10, .int 0, .int 0, .int 0, .int 0, .int (-1), .int (-1), .long 0, .long 0, .ref h11, .ref h12, .int 0, .int (-1), .int 0, .ref h13, .int 0, .ref h14, .ref h15, .int 0, .int 0, .ref h16, .int 0, .int 0, .int 0, .int 0]))] := hD
  have hl : lv_has ls 3 [(1, .int 61), (0, .ref h0)] := hl
  refine lv_iload_n hx hb dX12_park_9 rfl (lv_at hl 0 rfl) ?_
  refine lv_bipush (v := 61) hx hb dX12_park_10 (by decide) ?_
  refine lv_icmp_ge (tgt := 28) hx hb dX12_park_12 (by decide) (fun _ => ?_) (fun c2 => absurd (by decide) c2)
  refine lv_aload_n hx hb dX12_park_28 rfl (lv_at hl 1 rfl) ?_
  refine va_get (D := (dC, dI)) (ci := 11) (v := .ref h1) (C := RX12) (T := TX12) (N := 47) hx hb hts ii_X12_park_X12 hown hK hP 4 rfl rfl 15 (by decide) (hts _ mm_X12_park_1) (fun _ h9 => h9) rfl dX12_park_29 ?_
  refine lv_bipush (v := 60) hx hb dX12_park_32 (by decide) ?_
  refine lv_iconst (v := 2) hx hb dX12_park_34 (by decide) ?_
  refine va_iast hx hb hK hP hD hS 0 1 rfl rfl (i := 60) (zz_in (by decide)) dX12_park_35 (fun H locs hP hD hS => ?_)
  have hP : va_P (dC, dI) vwCl [(h1, .inl (w0, 61, .inl (upd (fun _ => 0) 60 2))), (h2, .inl (w1, 19, .inr (.inl (fun _ => 0)))), (h3, .inl (w2, 19, .inr (.inl (fun _ => 0)))), (h5, .inl (w3, 373, .inl (upd (upd (fun _ => 0) 60 2) 62 2))), (h0, .inr (11, [.int 0, .ref h4, .int 0, .int 0, .int 900, .int 0, .int 0, .int 0, .int 0, .int 0, .int 0, .int 0, .long 0, .int 0, .ref h5, .ref h1, .ref h6, .ref h7, .ref h8, .ref h2, .ref h3, .ref h9, .ref h10, .int 0, .int 0, .int 0, .int 0, .int (-1), .int (-1), .long 0, .long 0, .ref h11, .ref h12, .int 0, .int (-1), .int 0, .ref h13, .int 0, .ref h14, .ref h15, .int 0, .int 0, .ref h16, .int 0, .int 0, .int 0, .int 0]))] H := hP
  have hD : va_D A [(h1, .inl (w0, 61, .inl (upd (fun _ => 0) 60 2))), (h2, .inl (w1, 19, .inr (.inl (fun _ => 0)))), (h3, .inl (w2, 19, .inr (.inl (fun _ => 0)))), (h5, .inl (w3, 373, .inl (upd (upd (fun _ => 0) 60 2) 62 2))), (h0, .inr (11, [.int 0, .ref h4, .int 0, .int 0, .int 900, .int 0, .int 0, .int 0, .int 0, .int 0, .int 0, .int 0, .long 0, .int 0, .ref h5, .ref h1, .ref h6, .ref h7, .ref h8, .ref h2, .ref h3, .ref h9, .ref h10, .int 0, .int 0, .int 0, .int 0, .int (-1), .int (-1), .long 0, .long 0, .ref h11, .ref h12, .int 0, .int (-1), .int 0, .ref h13, .int 0, .ref h14, .ref h15, .int 0, .int 0, .ref h16, .int 0, .int 0, .int 0, .int 0]))] := hD
  refine lv_aload_n hx hb dX12_park_36 rfl (lv_at hl 1 rfl) ?_
  refine lv_iconst (v := 0) hx hb dX12_park_37 (by decide) ?_
  refine va_put (D := (dC, dI)) (ci := 11) (v := .int 0) (ty := .boolean) (C := RX12) (T := TX12) (N := 47) hx hb hts ii_X12_park_X12 tyX12 tyX12_ok nmX12 hown hK hP hD hS 4 rfl rfl 24 (by decide) (hts _ mm_X12_park_2) (fun _ h9 => h9) rfl (by decide +kernel) rfl rfl (Nat.le_of_ble_eq_true rfl) dX12_park_38 (fun H locs hP hD hS => ?_)
  have hP : va_P (dC, dI) vwCl [(h1, .inl (w0, 61, .inl (upd (fun _ => 0) 60 2))), (h2, .inl (w1, 19, .inr (.inl (fun _ => 0)))), (h3, .inl (w2, 19, .inr (.inl (fun _ => 0)))), (h5, .inl (w3, 373, .inl (upd (upd (fun _ => 0) 60 2) 62 2))), (h0, .inr (11, [.int 0, .ref h4, .int 0, .int 0, .int 900, .int 0, .int 0, .int 0, .int 0, .int 0, .int 0, .int 0, .long 0, .int 0, .ref h5, .ref h1, .ref h6, .ref h7, .ref h8, .ref h2, .ref h3, .ref h9, .ref h10, .int 0, .int 0, .int 0, .int 0, .int (-1), .int (-1), .long 0, .long 0, .ref h11, .ref h12, .int 0, .int (-1), .int 0, .ref h13, .int 0, .ref h14, .ref h15, .int 0, .int 0, .ref h16, .int 0, .int 0, .int 0, .int 0]))] H := hP
  have hD : va_D A [(h1, .inl (w0, 61, .inl (upd (fun _ => 0) 60 2))), (h2, .inl (w1, 19, .inr (.inl (fun _ => 0)))), (h3, .inl (w2, 19, .inr (.inl (fun _ => 0)))), (h5, .inl (w3, 373, .inl (upd (upd (fun _ => 0) 60 2) 62 2))), (h0, .inr (11, [.int 0, .ref h4, .int 0, .int 0, .int 900, .int 0, .int 0, .int 0, .int 0, .int 0, .int 0, .int 0, .long 0, .int 0, .ref h5, .ref h1, .ref h6, .ref h7, .ref h8, .ref h2, .ref h3, .ref h9, .ref h10, .int 0, .int 0, .int 0, .int 0, .int (-1), .int (-1), .long 0, .long 0, .ref h11, .ref h12, .int 0, .int (-1), .int 0, .ref h13, .int 0, .ref h14, .ref h15, .int 0, .int 0, .ref h16, .int 0, .int 0, .int 0, .int 0]))] := hD
  refine lv_iconst (v := 0) hx hb dX12_park_41 (by decide) ?_
  refine lv_istore_n (lv' := [(1, .int 0), (0, .ref h0)]) hx hb dX12_park_42 rfl hl (by decide) rfl (fun ls hl => ?_)
  refine lv_aload_n hx hb dX12_park_43 rfl (lv_at hl 1 rfl) ?_
  refine va_get (D := (dC, dI)) (ci := 11) (v := .int 0) (C := RX12) (T := TX12) (N := 47) hx hb hts ii_X12_park_X12 hown hK hP 4 rfl rfl 7 (by decide) (hts _ mm_X12_park_3) (fun _ h9 => h9) rfl dX12_park_44 ?_
  refine lv_if_eq (tgt := 77) hx hb dX12_park_47 (by decide) (fun _ => ?_) (fun c3 => absurd (by decide) c3)
  refine lv_iconst (v := 0) hx hb dX12_park_77 (by decide) ?_
  refine lv_istore_n (lv' := [(2, .int 0), (1, .int 0), (0, .ref h0)]) hx hb dX12_park_78 rfl hl (by decide) rfl (fun ls hl => ?_)
  refine zz_loop (σ := (Nat → Int32)) (fun (k : Nat) (x : (Nat → Int32)) (H : Heap) (locs : List Loc) (ls : Array Slot) => 0 ≤ k ∧ va_P (dC, dI) vwCl [(h1, .inl (w0, 61, .inl (upd (fun _ => 0) 60 2))), (h2, .inl (w1, 19, .inr (.inl (fun _ => 0)))), (h3, .inl (w2, 19, .inr (.inl (fun _ => 0)))), (h5, .inl (w3, 373, .inl x)), (h0, .inr (11, [.int 0, .ref h4, .int 0, .int 0, .int 900, .int 0, .int 0, .int 0, .int 0, .int 0, .int 0, .int 0, .long 0, .int 0, .ref h5, .ref h1, .ref h6, .ref h7, .ref h8, .ref h2, .ref h3, .ref h9, .ref h10, .int 0, .int 0, .int 0, .int 0, .int (-1), .int (-1), .long 0, .long 0, .ref h11, .ref h12, .int 0, .int (-1), .int 0, .ref h13, .int 0, .ref h14, .ref h15, .int 0, .int 0, .ref h16, .int 0, .int 0, .int 0, .int 0]))] H ∧ va_D A [(h1, .inl (w0, 61, .inl (upd (fun _ => 0) 60 2))), (h2, .inl (w1, 19, .inr (.inl (fun _ => 0)))), (h3, .inl (w2, 19, .inr (.inl (fun _ => 0)))), (h5, .inl (w3, 373, .inl x)), (h0, .inr (11, [.int 0, .ref h4, .int 0, .int 0, .int 900, .int 0, .int 0, .int 0, .int 0, .int 0, .int 0, .int 0, .long 0, .int 0, .ref h5, .ref h1, .ref h6, .ref h7, .ref h8, .ref h2, .ref h3, .ref h9, .ref h10, .int 0, .int 0, .int 0, .int 0, .int (-1), .int (-1), .long 0, .long 0, .ref h11, .ref h12, .int 0, .int (-1), .int 0, .ref h13, .int 0, .ref h14, .ref h15, .int 0, .int 0, .ref h16, .int 0, .int 0, .int 0, .int 0]))] ∧ va_S A s.heap H locs ∧ lv_has ls 3 [(2, .int (nI k)), (1, .int 0), (0, .ref h0)]) 61 ?_ ?_ 0 (upd (upd (fun _ => 0) 60 2) 62 2) _ _ _ (by omega) ⟨by omega, hP, hD, hS, hl⟩
  · rintro k4 f5 H locs ls hkk4 ⟨hmk4, hP, hD, hS, hl⟩ ih
    have hP : va_P (dC, dI) vwCl [(h1, .inl (w0, 61, .inl (upd (fun _ => 0) 60 2))), (h2, .inl (w1, 19, .inr (.inl (fun _ => 0)))), (h3, .inl (w2, 19, .inr (.inl (fun _ => 0)))), (h5, .inl (w3, 373, .inl f5)), (h0, .inr (11, [.int 0, .ref h4, .int 0, .int 0, .int 900, .int 0, .int 0, .int 0, .int 0, .int 0, .int 0, .int 0, .long 0, .int 0, .ref h5, .ref h1, .ref h6, .ref h7, .ref h8, .ref h2, .ref h3, .ref h9, .ref h10, .int 0, .int 0, .int 0, .int 0, .int (-1), .int (-1), .long 0, .long 0, .ref h11, .ref h12, .int 0, .int (-1), .int 0, .ref h13, .int 0, .ref h14, .ref h15, .int 0, .int 0, .ref h16, .int 0, .int 0, .int 0, .int 0]))] H := hP
    have hD : va_D A [(h1, .inl (w0, 61, .inl (upd (fun _ => 0) 60 2))), (h2, .inl (w1, 19, .inr (.inl (fun _ => 0)))), (h3, .inl (w2, 19, .inr (.inl (fun _ => 0)))), (h5, .inl (w3, 373, .inl f5)), (h0, .inr (11, [.int 0, .ref h4, .int 0, .int 0, .int 900, .int 0, .int 0, .int 0, .int 0, .int 0, .int 0, .int 0, .long 0, .int 0, .ref h5, .ref h1, .ref h6, .ref h7, .ref h8, .ref h2, .ref h3, .ref h9, .ref h10, .int 0, .int 0, .int 0, .int 0, .int (-1), .int (-1), .long 0, .long 0, .ref h11, .ref h12, .int 0, .int (-1), .int 0, .ref h13, .int 0, .ref h14, .ref h15, .int 0, .int 0, .ref h16, .int 0, .int 0, .int 0, .int 0]))] := hD
    have hl : lv_has ls 3 [(2, .int (nI k4)), (1, .int 0), (0, .ref h0)] := hl
    refine lv_iload_n hx hb dX12_park_79 rfl (lv_at hl 0 rfl) ?_
    refine lv_bipush (v := 61) hx hb dX12_park_80 (by decide) ?_
    refine lv_icmp_ge (tgt := 103) hx hb dX12_park_82 (by decide) (fun c9 => absurd c9 (nI_ge (a := k4) (b := 61) (by omega) (by omega))) (fun _ => ?_)
    refine lv_aload_n hx hb dX12_park_85 rfl (lv_at hl 2 rfl) ?_
    refine va_get (D := (dC, dI)) (ci := 11) (v := .ref h5) (C := RX12) (T := TX12) (N := 47) hx hb hts ii_X12_park_X12 hown hK hP 4 rfl rfl 14 (by decide) (hts _ mm_X12_park_5) (fun _ h9 => h9) rfl dX12_park_86 ?_
    refine lv_iload_n hx hb dX12_park_89 rfl (lv_at hl 0 rfl) ?_
    refine lv_aload_n hx hb dX12_park_90 rfl (lv_at hl 2 rfl) ?_
    refine va_get (D := (dC, dI)) (ci := 11) (v := .ref h1) (C := RX12) (T := TX12) (N := 47) hx hb hts ii_X12_park_X12 hown hK hP 4 rfl rfl 15 (by decide) (hts _ mm_X12_park_1) (fun _ h9 => h9) rfl dX12_park_91 ?_
    refine lv_iload_n hx hb dX12_park_94 rfl (lv_at hl 0 rfl) ?_
    refine va_iald hx hb hK hP 0 1 rfl rfl (i := (nI k4)) (vp_in_nI (by omega) (by decide)) dX12_park_95 ?_
    refine lv_topi (fun z6 ez6 => ?_)
    refine va_iast hx hb hK hP hD hS 3 0 rfl rfl (i := (nI k4)) (vp_in_nI (by omega) (by decide)) dX12_park_96 (fun H locs hP hD hS => ?_)
    have hP : va_P (dC, dI) vwCl [(h1, .inl (w0, 61, .inl (upd (fun _ => 0) 60 2))), (h2, .inl (w1, 19, .inr (.inl (fun _ => 0)))), (h3, .inl (w2, 19, .inr (.inl (fun _ => 0)))), (h5, .inl (w3, 373, .inl (upd f5 (nI k4).toNatClampNeg z6))), (h0, .inr (11, [.int 0, .ref h4, .int 0, .int 0, .int 900, .int 0, .int 0, .int 0, .int 0, .int 0, .int 0, .int 0, .long 0, .int 0, .ref h5, .ref h1, .ref h6, .ref h7, .ref h8, .ref h2, .ref h3, .ref h9, .ref h10, .int 0, .int 0, .int 0, .int 0, .int (-1), .int (-1), .long 0, .long 0, .ref h11, .ref h12, .int 0, .int (-1), .int 0, .ref h13, .int 0, .ref h14, .ref h15, .int 0, .int 0, .ref h16, .int 0, .int 0, .int 0, .int 0]))] H := hP
    have hD : va_D A [(h1, .inl (w0, 61, .inl (upd (fun _ => 0) 60 2))), (h2, .inl (w1, 19, .inr (.inl (fun _ => 0)))), (h3, .inl (w2, 19, .inr (.inl (fun _ => 0)))), (h5, .inl (w3, 373, .inl (upd f5 (nI k4).toNatClampNeg z6))), (h0, .inr (11, [.int 0, .ref h4, .int 0, .int 0, .int 900, .int 0, .int 0, .int 0, .int 0, .int 0, .int 0, .int 0, .long 0, .int 0, .ref h5, .ref h1, .ref h6, .ref h7, .ref h8, .ref h2, .ref h3, .ref h9, .ref h10, .int 0, .int 0, .int 0, .int 0, .int (-1), .int (-1), .long 0, .long 0, .ref h11, .ref h12, .int 0, .int (-1), .int 0, .ref h13, .int 0, .ref h14, .ref h15, .int 0, .int 0, .ref h16, .int 0, .int 0, .int 0, .int 0]))] := hD
    refine lv_iinc (v := (nI (k4 + 1))) (lv' := [(2, .int (nI (k4 + 1))), (1, .int 0), (0, .ref h0)]) hx hb dX12_park_97 hl (k := 0) rfl (zz_addr k4 1) (by decide) rfl (fun ls hl => ?_)
    refine lv_goto (tgt := 79) hx hb dX12_park_100 (by decide) ?_
    exact ih ((upd f5 (nI k4).toNatClampNeg z6)) _ _ _ ⟨by omega, hP, hD, hS, lv_sub hl [0, 1, 2] rfl⟩
  rintro f5 H locs ls ⟨-, hP, hD, hS, hl⟩
  have hP : va_P (dC, dI) vwCl [(h1, .inl (w0, 61, .inl (upd (fun _ => 0) 60 2))), (h2, .inl (w1, 19, .inr (.inl (fun _ => 0)))), (h3, .inl (w2, 19, .inr (.inl (fun _ => 0)))), (h5, .inl (w3, 373, .inl f5)), (h0, .inr (11, [.int 0, .ref h4, .int 0, .int 0, .int 900, .int 0, .int 0, .int 0, .int 0, .int 0, .int 0, .int 0, .long 0, .int 0, .ref h5, .ref h1, .ref h6, .ref h7, .ref h8, .ref h2, .ref h3, .ref h9, .ref h10, .int 0, .int 0, .int 0, .int 0, .int (-1), .int (-1), .long 0, .long 0, .ref h11, .ref h12, .int 0, .int (-1), .int 0, .ref h13, .int 0, .ref h14, .ref h15, .int 0, .int 0, .ref h16, .int 0, .int 0, .int 0, .int 0]))] H := hP
  have hD : va_D A [(h1, .inl (w0, 61, .inl (upd (fun _ => 0) 60 2))), (h2, .inl (w1, 19, .inr (.inl (fun _ => 0)))), (h3, .inl (w2, 19, .inr (.inl (fun _ => 0)))), (h5, .inl (w3, 373, .inl f5)), (h0, .inr (11, [.int 0, .ref h4, .int 0, .int 0, .int 900, .int 0, .int 0, .int 0, .int 0, .int 0, .int 0, .int 0, .long 0, .int 0, .ref h5, .ref h1, .ref h6, .ref h7, .ref h8, .ref h2, .ref h3, .ref h9, .ref h10, .int 0, .int 0, .int 0, .int 0, .int (-1), .int (-1), .long 0, .long 0, .ref h11, .ref h12, .int 0, .int (-1), .int 0, .ref h13, .int 0, .ref h14, .ref h15, .int 0, .int 0, .ref h16, .int 0, .int 0, .int 0, .int 0]))] := hD
  have hl : lv_has ls 3 [(2, .int 61), (1, .int 0), (0, .ref h0)] := hl
  refine lv_iload_n hx hb dX12_park_79 rfl (lv_at hl 0 rfl) ?_
  refine lv_bipush (v := 61) hx hb dX12_park_80 (by decide) ?_
  refine lv_icmp_ge (tgt := 103) hx hb dX12_park_82 (by decide) (fun _ => ?_) (fun c7 => absurd (by decide) c7)
  refine lv_iconst (v := 0) hx hb dX12_park_103 (by decide) ?_
  refine lv_istore_n (lv' := [(2, .int 0), (1, .int 0), (0, .ref h0)]) hx hb dX12_park_104 rfl hl (by decide) rfl (fun ls hl => ?_)
  refine zz_loop (σ := (Nat → Int64)) (fun (k : Nat) (x : (Nat → Int64)) (H : Heap) (locs : List Loc) (ls : Array Slot) => 0 ≤ k ∧ va_P (dC, dI) vwCl [(h1, .inl (w0, 61, .inl (upd (fun _ => 0) 60 2))), (h2, .inl (w1, 19, .inr (.inl x))), (h3, .inl (w2, 19, .inr (.inl (fun _ => 0)))), (h5, .inl (w3, 373, .inl f5)), (h0, .inr (11, [.int 0, .ref h4, .int 0, .int 0, .int 900, .int 0, .int 0, .int 0, .int 0, .int 0, .int 0, .int 0, .long 0, .int 0, .ref h5, .ref h1, .ref h6, .ref h7, .ref h8, .ref h2, .ref h3, .ref h9, .ref h10, .int 0, .int 0, .int 0, .int 0, .int (-1), .int (-1), .long 0, .long 0, .ref h11, .ref h12, .int 0, .int (-1), .int 0, .ref h13, .int 0, .ref h14, .ref h15, .int 0, .int 0, .ref h16, .int 0, .int 0, .int 0, .int 0]))] H ∧ va_D A [(h1, .inl (w0, 61, .inl (upd (fun _ => 0) 60 2))), (h2, .inl (w1, 19, .inr (.inl x))), (h3, .inl (w2, 19, .inr (.inl (fun _ => 0)))), (h5, .inl (w3, 373, .inl f5)), (h0, .inr (11, [.int 0, .ref h4, .int 0, .int 0, .int 900, .int 0, .int 0, .int 0, .int 0, .int 0, .int 0, .int 0, .long 0, .int 0, .ref h5, .ref h1, .ref h6, .ref h7, .ref h8, .ref h2, .ref h3, .ref h9, .ref h10, .int 0, .int 0, .int 0, .int 0, .int (-1), .int (-1), .long 0, .long 0, .ref h11, .ref h12, .int 0, .int (-1), .int 0, .ref h13, .int 0, .ref h14, .ref h15, .int 0, .int 0, .ref h16, .int 0, .int 0, .int 0, .int 0]))] ∧ va_S A s.heap H locs ∧ lv_has ls 3 [(2, .int (nI k)), (1, .int 0), (0, .ref h0)]) 19 ?_ ?_ 0 (fun _ => 0) _ _ _ (by omega) ⟨by omega, hP, hD, hS, hl⟩
  · rintro k8 f9 H locs ls hkk8 ⟨hmk8, hP, hD, hS, hl⟩ ih
    have hP : va_P (dC, dI) vwCl [(h1, .inl (w0, 61, .inl (upd (fun _ => 0) 60 2))), (h2, .inl (w1, 19, .inr (.inl f9))), (h3, .inl (w2, 19, .inr (.inl (fun _ => 0)))), (h5, .inl (w3, 373, .inl f5)), (h0, .inr (11, [.int 0, .ref h4, .int 0, .int 0, .int 900, .int 0, .int 0, .int 0, .int 0, .int 0, .int 0, .int 0, .long 0, .int 0, .ref h5, .ref h1, .ref h6, .ref h7, .ref h8, .ref h2, .ref h3, .ref h9, .ref h10, .int 0, .int 0, .int 0, .int 0, .int (-1), .int (-1), .long 0, .long 0, .ref h11, .ref h12, .int 0, .int (-1), .int 0, .ref h13, .int 0, .ref h14, .ref h15, .int 0, .int 0, .ref h16, .int 0, .int 0, .int 0, .int 0]))] H := hP
    have hD : va_D A [(h1, .inl (w0, 61, .inl (upd (fun _ => 0) 60 2))), (h2, .inl (w1, 19, .inr (.inl f9))), (h3, .inl (w2, 19, .inr (.inl (fun _ => 0)))), (h5, .inl (w3, 373, .inl f5)), (h0, .inr (11, [.int 0, .ref h4, .int 0, .int 0, .int 900, .int 0, .int 0, .int 0, .int 0, .int 0, .int 0, .int 0, .long 0, .int 0, .ref h5, .ref h1, .ref h6, .ref h7, .ref h8, .ref h2, .ref h3, .ref h9, .ref h10, .int 0, .int 0, .int 0, .int 0, .int (-1), .int (-1), .long 0, .long 0, .ref h11, .ref h12, .int 0, .int (-1), .int 0, .ref h13, .int 0, .ref h14, .ref h15, .int 0, .int 0, .ref h16, .int 0, .int 0, .int 0, .int 0]))] := hD
    have hl : lv_has ls 3 [(2, .int (nI k8)), (1, .int 0), (0, .ref h0)] := hl
    refine lv_iload_n hx hb dX12_park_105 rfl (lv_at hl 0 rfl) ?_
    refine lv_bipush (v := 19) hx hb dX12_park_106 (by decide) ?_
    refine lv_icmp_ge (tgt := 129) hx hb dX12_park_108 (by decide) (fun c9 => absurd c9 (nI_ge (a := k8) (b := 19) (by omega) (by omega))) (fun _ => ?_)
    refine lv_aload_n hx hb dX12_park_111 rfl (lv_at hl 2 rfl) ?_
    refine va_get (D := (dC, dI)) (ci := 11) (v := .ref h2) (C := RX12) (T := TX12) (N := 47) hx hb hts ii_X12_park_X12 hown hK hP 4 rfl rfl 19 (by decide) (hts _ mm_X12_park_6) (fun _ h9 => h9) rfl dX12_park_112 ?_
    refine lv_iload_n hx hb dX12_park_115 rfl (lv_at hl 0 rfl) ?_
    refine lv_aload_n hx hb dX12_park_116 rfl (lv_at hl 2 rfl) ?_
    refine va_get (D := (dC, dI)) (ci := 11) (v := .ref h3) (C := RX12) (T := TX12) (N := 47) hx hb hts ii_X12_park_X12 hown hK hP 4 rfl rfl 20 (by decide) (hts _ mm_X12_park_7) (fun _ h9 => h9) rfl dX12_park_117 ?_
    refine lv_iload_n hx hb dX12_park_120 rfl (lv_at hl 0 rfl) ?_
    refine va_lald hx hb hK hP 2 3 rfl rfl (i := (nI k8)) (vp_in_nI (by omega) (by decide)) dX12_park_121 ?_
    refine lv_topl (fun z10 ez10 => ?_)
    refine va_last hx hb hK hP hD hS 1 2 rfl rfl (i := (nI k8)) (vp_in_nI (by omega) (by decide)) dX12_park_122 (fun H locs hP hD hS => ?_)
    have hP : va_P (dC, dI) vwCl [(h1, .inl (w0, 61, .inl (upd (fun _ => 0) 60 2))), (h2, .inl (w1, 19, .inr (.inl (vp_updL f9 (nI k8).toNatClampNeg z10)))), (h3, .inl (w2, 19, .inr (.inl (fun _ => 0)))), (h5, .inl (w3, 373, .inl f5)), (h0, .inr (11, [.int 0, .ref h4, .int 0, .int 0, .int 900, .int 0, .int 0, .int 0, .int 0, .int 0, .int 0, .int 0, .long 0, .int 0, .ref h5, .ref h1, .ref h6, .ref h7, .ref h8, .ref h2, .ref h3, .ref h9, .ref h10, .int 0, .int 0, .int 0, .int 0, .int (-1), .int (-1), .long 0, .long 0, .ref h11, .ref h12, .int 0, .int (-1), .int 0, .ref h13, .int 0, .ref h14, .ref h15, .int 0, .int 0, .ref h16, .int 0, .int 0, .int 0, .int 0]))] H := hP
    have hD : va_D A [(h1, .inl (w0, 61, .inl (upd (fun _ => 0) 60 2))), (h2, .inl (w1, 19, .inr (.inl (vp_updL f9 (nI k8).toNatClampNeg z10)))), (h3, .inl (w2, 19, .inr (.inl (fun _ => 0)))), (h5, .inl (w3, 373, .inl f5)), (h0, .inr (11, [.int 0, .ref h4, .int 0, .int 0, .int 900, .int 0, .int 0, .int 0, .int 0, .int 0, .int 0, .int 0, .long 0, .int 0, .ref h5, .ref h1, .ref h6, .ref h7, .ref h8, .ref h2, .ref h3, .ref h9, .ref h10, .int 0, .int 0, .int 0, .int 0, .int (-1), .int (-1), .long 0, .long 0, .ref h11, .ref h12, .int 0, .int (-1), .int 0, .ref h13, .int 0, .ref h14, .ref h15, .int 0, .int 0, .ref h16, .int 0, .int 0, .int 0, .int 0]))] := hD
    refine lv_iinc (v := (nI (k8 + 1))) (lv' := [(2, .int (nI (k8 + 1))), (1, .int 0), (0, .ref h0)]) hx hb dX12_park_123 hl (k := 0) rfl (zz_addr k8 1) (by decide) rfl (fun ls hl => ?_)
    refine lv_goto (tgt := 105) hx hb dX12_park_126 (by decide) ?_
    exact ih ((vp_updL f9 (nI k8).toNatClampNeg z10)) _ _ _ ⟨by omega, hP, hD, hS, lv_sub hl [0, 1, 2] rfl⟩
  rintro f9 H locs ls ⟨-, hP, hD, hS, hl⟩
  have hP : va_P (dC, dI) vwCl [(h1, .inl (w0, 61, .inl (upd (fun _ => 0) 60 2))), (h2, .inl (w1, 19, .inr (.inl f9))), (h3, .inl (w2, 19, .inr (.inl (fun _ => 0)))), (h5, .inl (w3, 373, .inl f5)), (h0, .inr (11, [.int 0, .ref h4, .int 0, .int 0, .int 900, .int 0, .int 0, .int 0, .int 0, .int 0, .int 0, .int 0, .long 0, .int 0, .ref h5, .ref h1, .ref h6, .ref h7, .ref h8, .ref h2, .ref h3, .ref h9, .ref h10, .int 0, .int 0, .int 0, .int 0, .int (-1), .int (-1), .long 0, .long 0, .ref h11, .ref h12, .int 0, .int (-1), .int 0, .ref h13, .int 0, .ref h14, .ref h15, .int 0, .int 0, .ref h16, .int 0, .int 0, .int 0, .int 0]))] H := hP
  have hD : va_D A [(h1, .inl (w0, 61, .inl (upd (fun _ => 0) 60 2))), (h2, .inl (w1, 19, .inr (.inl f9))), (h3, .inl (w2, 19, .inr (.inl (fun _ => 0)))), (h5, .inl (w3, 373, .inl f5)), (h0, .inr (11, [.int 0, .ref h4, .int 0, .int 0, .int 900, .int 0, .int 0, .int 0, .int 0, .int 0, .int 0, .int 0, .long 0, .int 0, .ref h5, .ref h1, .ref h6, .ref h7, .ref h8, .ref h2, .ref h3, .ref h9, .ref h10, .int 0, .int 0, .int 0, .int 0, .int (-1), .int (-1), .long 0, .long 0, .ref h11, .ref h12, .int 0, .int (-1), .int 0, .ref h13, .int 0, .ref h14, .ref h15, .int 0, .int 0, .ref h16, .int 0, .int 0, .int 0, .int 0]))] := hD
  have hl : lv_has ls 3 [(2, .int 19), (1, .int 0), (0, .ref h0)] := hl
  refine lv_iload_n hx hb dX12_park_105 rfl (lv_at hl 0 rfl) ?_
  refine lv_bipush (v := 19) hx hb dX12_park_106 (by decide) ?_
  refine lv_icmp_ge (tgt := 129) hx hb dX12_park_108 (by decide) (fun _ => ?_) (fun c11 => absurd (by decide) c11)
  refine lv_aload_n hx hb dX12_park_129 rfl (lv_at hl 2 rfl) ?_
  have hPc := hP.sub (ws' := [(h5, .inl (w3, 373, .inl f5)), (h0, .inr (11, [.int 0, .ref h4, .int 0, .int 0, .int 900, .int 0, .int 0, .int 0, .int 0, .int 0, .int 0, .int 0, .long 0, .int 0, .ref h5, .ref h1, .ref h6, .ref h7, .ref h8, .ref h2, .ref h3, .ref h9, .ref h10, .int 0, .int 0, .int 0, .int 0, .int (-1), .int (-1), .long 0, .long 0, .ref h11, .ref h12, .int 0, .int (-1), .int 0, .ref h13, .int 0, .ref h14, .ref h15, .int 0, .int 0, .ref h16, .int 0, .int 0, .int 0, .int 0]))]) [3, 4] rfl
  have hDc := hD.sub (ws' := [(h5, .inl (w3, 373, .inl f5)), (h0, .inr (11, [.int 0, .ref h4, .int 0, .int 0, .int 900, .int 0, .int 0, .int 0, .int 0, .int 0, .int 0, .int 0, .long 0, .int 0, .ref h5, .ref h1, .ref h6, .ref h7, .ref h8, .ref h2, .ref h3, .ref h9, .ref h10, .int 0, .int 0, .int 0, .int 0, .int (-1), .int (-1), .long 0, .long 0, .ref h11, .ref h12, .int 0, .int (-1), .int 0, .ref h13, .int 0, .ref h14, .ref h15, .int 0, .int 0, .ref h16, .int 0, .int 0, .int 0, .int 0]))]) [3, 4] (by decide) rfl
  have hKc := hK.sub (tys' := [(w3, .int)]) [0] rfl
  have hFc := va_free (wc := [(h5, .inl (w3, 373, .inl f5)), (h0, .inr (11, [.int 0, .ref h4, .int 0, .int 0, .int 900, .int 0, .int 0, .int 0, .int 0, .int 0, .int 0, .int 0, .long 0, .int 0, .ref h5, .ref h1, .ref h6, .ref h7, .ref h8, .ref h2, .ref h3, .ref h9, .ref h10, .int 0, .int 0, .int 0, .int 0, .int (-1), .int (-1), .long 0, .long 0, .ref h11, .ref h12, .int 0, .int (-1), .int 0, .ref h13, .int 0, .ref h14, .ref h15, .int 0, .int 0, .ref h16, .int 0, .int 0, .int 0, .int 0]))]) hD hS hA [3, 4] rfl
  refine va_callv (va_runV (As := []) (rest := []) ⟨hx, hb, hml, hown, hts⟩ (k_X12_startSo_1 l dC dI ad h0 h5 h4 h1 h6 h7 h8 h2 h3 h9 h10 h11 h12 h13 h14 h15 h16 f5 w3 H.size) (cwV 0 hts gX12_park_X12_startSo rfl rfl rfl (by decide +kernel) ⟨Nat.le_of_ble_eq_true rfl, Nat.le_of_ble_eq_true rfl⟩) ⟨fun a U g mk q => ⟨q.1, CP.blind q.2⟩, va_recv hKc hPc (ci := 11) (q0 := 1) rfl rfl, fun U hU hW => ⟨rfl, CP.of hPc hKc hDc hE hS hFc hU hW⟩⟩ rfl rfl hl.1 rfl (lv_room (Nat.le_of_ble_eq_true rfl)) dX12_park_130 ⟨Nat.le_of_ble_eq_true rfl, Nat.le_of_ble_eq_true rfl⟩) hS (fun q _ h => hFc q h) hFc (fun u t H1 locs ht hvm hw hB hz1 hk1 hS => ?_)
  obtain ⟨f12, hP1, hK1, hD1⟩ := hB
  rw [ht] at hP1
  obtain ⟨hP, hD⟩ := va_join (wr := [(h1, .inl (w0, 61, .inl (upd (fun _ => 0) 60 2))), (h2, .inl (w1, 19, .inr (.inl f9))), (h3, .inl (w2, 19, .inr (.inl (fun _ => 0))))]) (w1 := [(h5, .inl (w3, 373, .inl f12)), (h0, .inr (11, [.int 0, .ref h4, .int 0, .int 0, .int 900, .int 0, .int 0, .int 0, .int 0, .int 0, .int 0, .int 0, .long 0, .int 0, .ref h5, .ref h1, .ref h6, .ref h7, .ref h8, .ref h2, .ref h3, .ref h9, .ref h10, .int 0, .int 0, .int 0, .int 0, .int (-1), .int (-1), .long 0, .long 0, .ref h11, .ref h12, .int 0, .int (-1), .int 0, .ref h13, .int 0, .ref h14, .ref h15, .int 0, .int 0, .ref h16, .int 0, .int 0, .int 0, .int 0]))]) hP hD [3, 4] [0, 1, 2] rfl rfl (by decide) (by decide) hk1 hFc hP1 hD1
  generalize H1 = H at hP hS ⊢
  clear hPc hDc hKc hFc hP1 hD1 hK1 hk1 hz1
  have hP : va_P (dC, dI) vwCl [(h1, .inl (w0, 61, .inl (upd (fun _ => 0) 60 2))), (h2, .inl (w1, 19, .inr (.inl f9))), (h3, .inl (w2, 19, .inr (.inl (fun _ => 0)))), (h5, .inl (w3, 373, .inl f12)), (h0, .inr (11, [.int 0, .ref h4, .int 0, .int 0, .int 900, .int 0, .int 0, .int 0, .int 0, .int 0, .int 0, .int 0, .long 0, .int 0, .ref h5, .ref h1, .ref h6, .ref h7, .ref h8, .ref h2, .ref h3, .ref h9, .ref h10, .int 0, .int 0, .int 0, .int 0, .int (-1), .int (-1), .long 0, .long 0, .ref h11, .ref h12, .int 0, .int (-1), .int 0, .ref h13, .int 0, .ref h14, .ref h15, .int 0, .int 0, .ref h16, .int 0, .int 0, .int 0, .int 0]))] H := hP
  have hD : va_D A [(h1, .inl (w0, 61, .inl (upd (fun _ => 0) 60 2))), (h2, .inl (w1, 19, .inr (.inl f9))), (h3, .inl (w2, 19, .inr (.inl (fun _ => 0)))), (h5, .inl (w3, 373, .inl f12)), (h0, .inr (11, [.int 0, .ref h4, .int 0, .int 0, .int 900, .int 0, .int 0, .int 0, .int 0, .int 0, .int 0, .int 0, .long 0, .int 0, .ref h5, .ref h1, .ref h6, .ref h7, .ref h8, .ref h2, .ref h3, .ref h9, .ref h10, .int 0, .int 0, .int 0, .int 0, .int (-1), .int (-1), .long 0, .long 0, .ref h11, .ref h12, .int 0, .int (-1), .int 0, .ref h13, .int 0, .ref h14, .ref h15, .int 0, .int 0, .ref h16, .int 0, .int 0, .int 0, .int 0]))] := hD
  refine lv_aload_n hx hb dX12_park_133 rfl (lv_at hl 2 rfl) ?_
  refine lv_iconst (v := 0) hx hb dX12_park_134 (by decide) ?_
  refine va_put (D := (dC, dI)) (ci := 11) (v := .int 0) (ty := .int) (C := RX12) (T := TX12) (N := 47) hx hb hts ii_X12_park_X12 tyX12 tyX12_ok nmX12 hown hK hP hD hS 4 rfl rfl 23 (by decide) (hts _ mm_X12_park_8) (fun _ h9 => h9) rfl (by decide +kernel) rfl rfl (Nat.le_of_ble_eq_true rfl) dX12_park_135 (fun H locs hP hD hS => ?_)
  have hP : va_P (dC, dI) vwCl [(h1, .inl (w0, 61, .inl (upd (fun _ => 0) 60 2))), (h2, .inl (w1, 19, .inr (.inl f9))), (h3, .inl (w2, 19, .inr (.inl (fun _ => 0)))), (h5, .inl (w3, 373, .inl f12)), (h0, .inr (11, [.int 0, .ref h4, .int 0, .int 0, .int 900, .int 0, .int 0, .int 0, .int 0, .int 0, .int 0, .int 0, .long 0, .int 0, .ref h5, .ref h1, .ref h6, .ref h7, .ref h8, .ref h2, .ref h3, .ref h9, .ref h10, .int 0, .int 0, .int 0, .int 0, .int (-1), .int (-1), .long 0, .long 0, .ref h11, .ref h12, .int 0, .int (-1), .int 0, .ref h13, .int 0, .ref h14, .ref h15, .int 0, .int 0, .ref h16, .int 0, .int 0, .int 0, .int 0]))] H := hP
  have hD : va_D A [(h1, .inl (w0, 61, .inl (upd (fun _ => 0) 60 2))), (h2, .inl (w1, 19, .inr (.inl f9))), (h3, .inl (w2, 19, .inr (.inl (fun _ => 0)))), (h5, .inl (w3, 373, .inl f12)), (h0, .inr (11, [.int 0, .ref h4, .int 0, .int 0, .int 900, .int 0, .int 0, .int 0, .int 0, .int 0, .int 0, .int 0, .long 0, .int 0, .ref h5, .ref h1, .ref h6, .ref h7, .ref h8, .ref h2, .ref h3, .ref h9, .ref h10, .int 0, .int 0, .int 0, .int 0, .int (-1), .int (-1), .long 0, .long 0, .ref h11, .ref h12, .int 0, .int (-1), .int 0, .ref h13, .int 0, .ref h14, .ref h15, .int 0, .int 0, .ref h16, .int 0, .int 0, .int 0, .int 0]))] := hD
  refine lv_iload_n hx hb dX12_park_138 rfl (lv_at hl 1 rfl) ?_
  have hP9 := hP.sub (ws' := []) [] rfl
  have hD9 := hD.sub (ws' := []) [] (by decide) rfl
  have hK9 := hK.sub (tys' := []) [] rfl
  refine W.widen (k := 0) (n := 0) (Nat.le_of_ble_eq_true rfl) (Nat.le_of_ble_eq_true rfl) ?_
  exact W.iret (v := 0) hx hb hr (fun t ht hW => ⟨⟨0, (), rfl, rfl, by rw [ht]; exact hP9, va_K.moved hW.alike hK9, hD9⟩, hS.F ht⟩) hS.2.2 dX12_park_139
set_option maxHeartbeats 4000000 in
set_option maxRecDepth 100000 in
theorem k_X12_fault (l : Launch) (dC : Nat → ClassId) (dI : Nat → Nat → Nat) (ad : Nat → Nat) (h0 h1 h2 h3 h4 h5 h6 h7 h8 h9 h10 h11 h12 h13 h14 h15 h16 : Nat) (sz : Nat) : Met l yX12_fault wsX12_fault ({ frames := 0, cells := 0, slots := 0, locals := 0 }) (va_Pc [.ref h0] (CP (dC, dI) [(h0, .inr (11, [.int 0, .ref h1, .int 0, .int 0, .int 0, .int 0, .int 0, .int 0, .int 0, .int 0, .int 0, .int 0, .long 0, .int 0, .ref h2, .ref h3, .ref h4, .ref h5, .ref h6, .ref h7, .ref h8, .ref h9, .ref h10, .int 0, .int 0, .int 0, .int 0, .int (-1), .int (-1), .long 0, .long 0, .ref h11, .ref h12, .int 0, .int (-1), .int 0, .ref h13, .int 0, .ref h14, .ref h15, .int 0, .int 0, .ref h16, .int 0, .int 0, .int 0, .int 0]))] [] sz ad)) (va_Qi (fun (r : Int32) (_ : Unit) => r = 0) (fun (_ : Unit) (t : State) => CQ (dC, dI) [] [] (va_A [(h0, .inr (11, [.int 0, .ref h1, .int 0, .int 0, .int 0, .int 0, .int 0, .int 0, .int 0, .int 0, .int 0, .int 0, .long 0, .int 0, .ref h2, .ref h3, .ref h4, .ref h5, .ref h6, .ref h7, .ref h8, .ref h9, .ref h10, .int 0, .int 0, .int 0, .int 0, .int (-1), .int (-1), .long 0, .long 0, .ref h11, .ref h12, .int 0, .int (-1), .int 0, .ref h13, .int 0, .ref h14, .ref h15, .int 0, .int 0, .ref h16, .int 0, .int 0, .int 0, .int 0]))] sz) t) (va_A [(h0, .inr (11, [.int 0, .ref h1, .int 0, .int 0, .int 0, .int 0, .int 0, .int 0, .int 0, .int 0, .int 0, .int 0, .long 0, .int 0, .ref h2, .ref h3, .ref h4, .ref h5, .ref h6, .ref h7, .ref h8, .ref h9, .ref h10, .int 0, .int 0, .int 0, .int 0, .int (-1), .int (-1), .long 0, .long 0, .ref h11, .ref h12, .int 0, .int (-1), .int 0, .ref h13, .int 0, .ref h14, .ref h15, .int 0, .int 0, .ref h16, .int 0, .int 0, .int 0, .int 0]))] sz)) 0 0 (va_A [(h0, .inr (11, [.int 0, .ref h1, .int 0, .int 0, .int 0, .int 0, .int 0, .int 0, .int 0, .int 0, .int 0, .int 0, .long 0, .int 0, .ref h2, .ref h3, .ref h4, .ref h5, .ref h6, .ref h7, .ref h8, .ref h9, .ref h10, .int 0, .int 0, .int 0, .int 0, .int (-1), .int (-1), .long 0, .long 0, .ref h11, .ref h12, .int 0, .int (-1), .int 0, .ref h13, .int 0, .ref h14, .ref h15, .int 0, .int 0, .ref h16, .int 0, .int 0, .int 0, .int 0]))] sz) := by
  refine Met.ofW (cc := cX12_fault) (maxL := 1) (ret := (some .int)) (by decide) rfl ?_
  intro p e s m args below meth c s₁ B hml hv
  obtain ⟨rfl, hsz, hP, hK, hD0, hE⟩ := hv
  have hx := B.exec
  have hb := B.bytes
  have hr := B.returns
  have hts := atoms_spec (ws := wsX12_fault) B.pre
  have hown : s.vm.findClass RX12 = some m.cls := findClass_of_methodNamed B.named
  have hlocks := B.notSynchronized
  subst hsz
  have hD := hD0.self (sz := s.heap.size)
  generalize hAe : va_A [(h0, .inr (11, [.int 0, .ref h1, .int 0, .int 0, .int 0, .int 0, .int 0, .int 0, .int 0, .int 0, .int 0, .int 0, .long 0, .int 0, .ref h2, .ref h3, .ref h4, .ref h5, .ref h6, .ref h7, .ref h8, .ref h9, .ref h10, .int 0, .int 0, .int 0, .int 0, .int (-1), .int (-1), .long 0, .long 0, .ref h11, .ref h12, .int 0, .int (-1), .int 0, .ref h13, .int 0, .ref h14, .ref h15, .int 0, .int 0, .ref h16, .int 0, .int 0, .int 0, .int 0]))] s.heap.size = A at hD hE ⊢
  have hA : ∀ q : Nat, s.heap.size ≤ q → A q := fun q h => by rw [← hAe]; exact Or.inr h
  have hS : va_S A s.heap s.heap [] := va_S.rf
  have hl := lv_entry ([.ref h0]) (n := 1) (Nat.le_of_ble_eq_true rfl)
  rw [lg_entry_eq]
  generalize (lg_sl ([.ref h0]) ++ List.replicate (1 - (lg_sl ([.ref h0])).length) Slot.unset).toArray = ls at hl ⊢
  have hl : lv_has ls 1 [(0, .ref h0)] := hl
  refine lv_aload_n hx hb dX12_fault_0 rfl (lv_at hl 0 rfl) ?_
  refine lv_iconst (v := 0) hx hb dX12_fault_1 (by decide) ?_
  refine va_put (D := (dC, dI)) (ci := 11) (v := .int 0) (ty := .int) (C := RX12) (T := TX12) (N := 47) hx hb hts ii_X12_fault_X12 tyX12 tyX12_ok nmX12 hown hK hP hD hS 0 rfl rfl 0 (by decide) (hts _ mm_X12_fault_1) (fun _ h9 => h9) rfl (by decide +kernel) rfl rfl (Nat.le_of_ble_eq_true rfl) dX12_fault_2 (fun H locs hP hD hS => ?_)
  have hP : va_P (dC, dI) vwCl [(h0, .inr (11, [.int 0, .ref h1, .int 0, .int 0, .int 0, .int 0, .int 0, .int 0, .int 0, .int 0, .int 0, .int 0, .long 0, .int 0, .ref h2, .ref h3, .ref h4, .ref h5, .ref h6, .ref h7, .ref h8, .ref h9, .ref h10, .int 0, .int 0, .int 0, .int 0, .int (-1), .int (-1), .long 0, .long 0, .ref h11, .ref h12, .int 0, .int (-1), .int 0, .ref h13, .int 0, .ref h14, .ref h15, .int 0, .int 0, .ref h16, .int 0, .int 0, .int 0, .int 0]))] H := hP
  have hD : va_D A [(h0, .inr (11, [.int 0, .ref h1, .int 0, .int 0, .int 0, .int 0, .int 0, .int 0, .int 0, .int 0, .int 0, .int 0, .long 0, .int 0, .ref h2, .ref h3, .ref h4, .ref h5, .ref h6, .ref h7, .ref h8, .ref h9, .ref h10, .int 0, .int 0, .int 0, .int 0, .int (-1), .int (-1), .long 0, .long 0, .ref h11, .ref h12, .int 0, .int (-1), .int 0, .ref h13, .int 0, .ref h14, .ref h15, .int 0, .int 0, .ref h16, .int 0, .int 0, .int 0, .int 0]))] := hD
  refine lv_aload_n hx hb dX12_fault_5 rfl (lv_at hl 0 rfl) ?_
  refine va_get (D := (dC, dI)) (ci := 11) (v := .int 0) (C := RX12) (T := TX12) (N := 47) hx hb hts ii_X12_fault_X12 hown hK hP 0 rfl rfl 10 (by decide) (hts _ mm_X12_fault_2) (fun _ h9 => h9) rfl dX12_fault_6 ?_
  have hP9 := hP.sub (ws' := []) [] rfl
  have hD9 := hD.sub (ws' := []) [] (by decide) rfl
  have hK9 := hK.sub (tys' := []) [] rfl
  refine W.widen (k := 0) (n := 0) (Nat.le_of_ble_eq_true rfl) (Nat.le_of_ble_eq_true rfl) ?_
  exact W.iret (v := 0) hx hb hr (fun t ht hW => ⟨⟨0, (), rfl, rfl, by rw [ht]; exact hP9, va_K.moved hW.alike hK9, hD9⟩, hS.F ht⟩) hS.2.2 dX12_fault_9
set_option maxHeartbeats 4000000 in
set_option maxRecDepth 100000 in
theorem k_X12_isIn (l : Launch) (dC : Nat → ClassId) (dI : Nat → Nat → Nat) (ad : Nat → Nat) (p0 : Int32) (sz : Nat) : Met l yX12_isIn wsX12_isIn ({ frames := 0, cells := 0, slots := 0, locals := 0 }) (va_Pc [.int p0, .int 0, .int (-1)] (CP (dC, dI) [] [] sz ad)) (va_Qi (fun (r : Int32) (_ : Unit) => r = 0) (fun (_ : Unit) (t : State) => CQ (dC, dI) [] [] (va_A [] sz) t) (va_A [] sz)) 0 0 (va_A [] sz) := by
  refine Met.ofW (cc := cX12_isIn) (maxL := 3) (ret := (some .boolean)) (by decide) rfl ?_
  intro p e s m args below meth c s₁ B hml hv
  obtain ⟨rfl, hsz, hP, hK, hD0, hE⟩ := hv
  have hx := B.exec
  have hb := B.bytes
  have hr := B.returns
  have hts := atoms_spec (ws := wsX12_isIn) B.pre
  have hown : s.vm.findClass RX12 = some m.cls := findClass_of_methodNamed B.named
  have hlocks := B.notSynchronized
  subst hsz
  have hD := hD0.self (sz := s.heap.size)
  generalize hAe : va_A [] s.heap.size = A at hD hE ⊢
  have hA : ∀ q : Nat, s.heap.size ≤ q → A q := fun q h => by rw [← hAe]; exact Or.inr h
  have hS : va_S A s.heap s.heap [] := va_S.rf
  have hl := lv_entry ([.int p0, .int 0, .int (-1)]) (n := 3) (Nat.le_of_ble_eq_true rfl)
  rw [lg_entry_eq]
  generalize (lg_sl ([.int p0, .int 0, .int (-1)]) ++ List.replicate (3 - (lg_sl ([.int p0, .int 0, .int (-1)])).length) Slot.unset).toArray = ls at hl ⊢
  have hl : lv_has ls 3 [(0, .int p0), (1, .int 0), (2, .int (-1))] := hl
  refine lv_iload_n hx hb dX12_isIn_0 rfl (lv_at hl 0 rfl) ?_
  refine lv_iload_n hx hb dX12_isIn_1 rfl (lv_at hl 1 rfl) ?_
  refine lv_icmp_lt (tgt := 14) hx hb dX12_isIn_2 (by decide) (fun c1 => ?_) (fun c1 => ?_)
  · refine lv_iconst (v := 0) hx hb dX12_isIn_14 (by decide) ?_
    have hP9 := hP.sub (ws' := []) [] rfl
    have hD9 := hD.sub (ws' := []) [] (by decide) rfl
    have hK9 := hK.sub (tys' := []) [] rfl
    refine W.widen (k := 0) (n := 0) (Nat.le_of_ble_eq_true rfl) (Nat.le_of_ble_eq_true rfl) ?_
    exact W.zret (v := 0) hx hb hr rfl (fun t ht hW => ⟨⟨0, (), rfl, rfl, by rw [ht]; exact hP9, va_K.moved hW.alike hK9, hD9⟩, hS.F ht⟩) hS.2.2 dX12_isIn_15
  · refine lv_iload_n hx hb dX12_isIn_5 rfl (lv_at hl 0 rfl) ?_
    refine lv_iload_n hx hb dX12_isIn_6 rfl (lv_at hl 2 rfl) ?_
    refine lv_icmp_gt (tgt := 14) hx hb dX12_isIn_7 (by decide) (fun _ => ?_) (fun c2 => ?_)
    rotate_left
    · exfalso; clear hP hD hK hS hE; simp only [Int32.lt_iff_toInt_lt, Int32.le_iff_toInt_le, ← Int32.toInt_inj, Int32.reduceToInt] at c1 c2; omega
    refine lv_iconst (v := 0) hx hb dX12_isIn_14 (by decide) ?_
    have hP9 := hP.sub (ws' := []) [] rfl
    have hD9 := hD.sub (ws' := []) [] (by decide) rfl
    have hK9 := hK.sub (tys' := []) [] rfl
    refine W.widen (k := 0) (n := 0) (Nat.le_of_ble_eq_true rfl) (Nat.le_of_ble_eq_true rfl) ?_
    exact W.zret (v := 0) hx hb hr rfl (fun t ht hW => ⟨⟨0, (), rfl, rfl, by rw [ht]; exact hP9, va_K.moved hW.alike hK9, hD9⟩, hS.F ht⟩) hS.2.2 dX12_isIn_15
