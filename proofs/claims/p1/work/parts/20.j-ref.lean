set_option maxHeartbeats 4000000 in
set_option maxRecDepth 100000 in
theorem k_X12_stay (l : Launch) (dC : Nat → ClassId) (dI : Nat → Nat → Nat) (ad : Nat → Nat) (h0 h1 h2 h3 h4 h5 h6 h7 h8 h9 h10 h11 h12 h13 h14 h15 h16 : Nat) (f0 : Nat → Int32) (w0 w1 : ClassId) (sz : Nat) : Met l yX12_stay wsX12_stay ({ frames := 0, cells := 0, slots := 0, locals := 0 }) (va_Pc [.ref h0, .int 0] (CP (dC, dI) [(h1, .inl (w0, 70, .inl f0)), (h2, .inl (w1, 373, .inl (upd (upd (fun _ => 0) 60 2) 62 2))), (h0, .inr (11, [.int 0, .ref h3, .int 0, .int 0, .int 400, .int 0, .int 0, .int 0, .int 0, .int 0, .int 0, .int 0, .long 0, .int 0, .ref h2, .ref h4, .ref h5, .ref h6, .ref h1, .ref h7, .ref h8, .ref h9, .ref h10, .int 0, .int 0, .int 0, .int 0, .int (-1), .int (-1), .long 0, .long 0, .ref h11, .ref h12, .int 0, .int (-1), .int 0, .ref h13, .int 0, .ref h14, .ref h15, .int 0, .int 1, .ref h16, .int 0, .int 0, .int 0, .int 0]))] [(w1, .int), (w0, .int)] sz ad)) (va_Qv (fun _ : Unit => True) (fun (_ : Unit) (t : State) => ∃ (F0 : Nat → Int32), ∃ (F1 : Nat → Int32), CQ (dC, dI) [(h1, .inl (w0, 70, .inl F0)), (h2, .inl (w1, 373, .inl F1)), (h0, .inr (11, [.int 0, .ref h3, .int 0, .int 0, .int 400, .int 0, .int 0, .int 0, .int 0, .int 0, .int 0, .int 0, .long 0, .int 0, .ref h2, .ref h4, .ref h5, .ref h6, .ref h1, .ref h7, .ref h8, .ref h9, .ref h10, .int 0, .int 0, .int 0, .int 0, .int (-1), .int (-1), .long 0, .long 0, .ref h11, .ref h12, .int 0, .int (-1), .int 0, .ref h13, .int 0, .ref h14, .ref h15, .int 0, .int 1, .ref h16, .int 0, .int 0, .int 0, .int 0]))] [] (va_A [(h1, .inl (w0, 70, .inl f0)), (h2, .inl (w1, 373, .inl (upd (upd (fun _ => 0) 60 2) 62 2))), (h0, .inr (11, [.int 0, .ref h3, .int 0, .int 0, .int 400, .int 0, .int 0, .int 0, .int 0, .int 0, .int 0, .int 0, .long 0, .int 0, .ref h2, .ref h4, .ref h5, .ref h6, .ref h1, .ref h7, .ref h8, .ref h9, .ref h10, .int 0, .int 0, .int 0, .int 0, .int (-1), .int (-1), .long 0, .long 0, .ref h11, .ref h12, .int 0, .int (-1), .int 0, .ref h13, .int 0, .ref h14, .ref h15, .int 0, .int 1, .ref h16, .int 0, .int 0, .int 0, .int 0]))] sz) t) (va_A [(h1, .inl (w0, 70, .inl f0)), (h2, .inl (w1, 373, .inl (upd (upd (fun _ => 0) 60 2) 62 2))), (h0, .inr (11, [.int 0, .ref h3, .int 0, .int 0, .int 400, .int 0, .int 0, .int 0, .int 0, .int 0, .int 0, .int 0, .long 0, .int 0, .ref h2, .ref h4, .ref h5, .ref h6, .ref h1, .ref h7, .ref h8, .ref h9, .ref h10, .int 0, .int 0, .int 0, .int 0, .int (-1), .int (-1), .long 0, .long 0, .ref h11, .ref h12, .int 0, .int (-1), .int 0, .ref h13, .int 0, .ref h14, .ref h15, .int 0, .int 1, .ref h16, .int 0, .int 0, .int 0, .int 0]))] sz)) 0 0 (va_A [(h1, .inl (w0, 70, .inl f0)), (h2, .inl (w1, 373, .inl (upd (upd (fun _ => 0) 60 2) 62 2))), (h0, .inr (11, [.int 0, .ref h3, .int 0, .int 0, .int 400, .int 0, .int 0, .int 0, .int 0, .int 0, .int 0, .int 0, .long 0, .int 0, .ref h2, .ref h4, .ref h5, .ref h6, .ref h1, .ref h7, .ref h8, .ref h9, .ref h10, .int 0, .int 0, .int 0, .int 0, .int (-1), .int (-1), .long 0, .long 0, .ref h11, .ref h12, .int 0, .int (-1), .int 0, .ref h13, .int 0, .ref h14, .ref h15, .int 0, .int 1, .ref h16, .int 0, .int 0, .int 0, .int 0]))] sz) := by
  refine Met.ofW (cc := cX12_stay) (maxL := 4) (ret := none) (by decide) rfl ?_
  intro p e s m args below meth c s₁ B hml hv
  obtain ⟨rfl, hsz, hP, hK, hD0, hE⟩ := hv
  have hx := B.exec
  have hb := B.bytes
  have hr := B.returns
  have hts := atoms_spec (ws := wsX12_stay) B.pre
  have hown : s.vm.findClass RX12 = some m.cls := findClass_of_methodNamed B.named
  have hlocks := B.notSynchronized
  subst hsz
  have hD := hD0.self (sz := s.heap.size)
  generalize hAe : va_A [(h1, .inl (w0, 70, .inl f0)), (h2, .inl (w1, 373, .inl (upd (upd (fun _ => 0) 60 2) 62 2))), (h0, .inr (11, [.int 0, .ref h3, .int 0, .int 0, .int 400, .int 0, .int 0, .int 0, .int 0, .int 0, .int 0, .int 0, .long 0, .int 0, .ref h2, .ref h4, .ref h5, .ref h6, .ref h1, .ref h7, .ref h8, .ref h9, .ref h10, .int 0, .int 0, .int 0, .int 0, .int (-1), .int (-1), .long 0, .long 0, .ref h11, .ref h12, .int 0, .int (-1), .int 0, .ref h13, .int 0, .ref h14, .ref h15, .int 0, .int 1, .ref h16, .int 0, .int 0, .int 0, .int 0]))] s.heap.size = A at hD hE ⊢
  have hA : ∀ q : Nat, s.heap.size ≤ q → A q := fun q h => by rw [← hAe]; exact Or.inr h
  have hS : va_S A s.heap s.heap [] := va_S.rf
  have hl := lv_entry ([.ref h0, .int 0]) (n := 4) (Nat.le_of_ble_eq_true rfl)
  rw [lg_entry_eq]
  generalize (lg_sl ([.ref h0, .int 0]) ++ List.replicate (4 - (lg_sl ([.ref h0, .int 0])).length) Slot.unset).toArray = ls at hl ⊢
  have hl : lv_has ls 4 [(0, .ref h0), (1, .int 0)] := hl
  refine lv_iconst (v := 0) hx hb dX12_stay_0 (by decide) ?_
  refine lv_istore_n (lv' := [(2, .int 0), (0, .ref h0), (1, .int 0)]) hx hb dX12_stay_1 rfl hl (by decide) rfl (fun ls hl => ?_)
  refine zz_loop (σ := (Nat → Int32) × (Nat → Int32)) (fun (k : Nat) (x : (Nat → Int32) × (Nat → Int32)) (H : Heap) (locs : List Loc) (ls : Array Slot) => 0 ≤ k ∧ va_P (dC, dI) vwCl [(h1, .inl (w0, 70, .inl x.2)), (h2, .inl (w1, 373, .inl x.1)), (h0, .inr (11, [.int 0, .ref h3, .int 0, .int 0, .int 400, .int 0, .int 0, .int 0, .int 0, .int 0, .int 0, .int 0, .long 0, .int 0, .ref h2, .ref h4, .ref h5, .ref h6, .ref h1, .ref h7, .ref h8, .ref h9, .ref h10, .int 0, .int 0, .int 0, .int 0, .int (-1), .int (-1), .long 0, .long 0, .ref h11, .ref h12, .int 0, .int (-1), .int 0, .ref h13, .int 0, .ref h14, .ref h15, .int 0, .int 1, .ref h16, .int 0, .int 0, .int 0, .int 0]))] H ∧ va_D A [(h1, .inl (w0, 70, .inl x.2)), (h2, .inl (w1, 373, .inl x.1)), (h0, .inr (11, [.int 0, .ref h3, .int 0, .int 0, .int 400, .int 0, .int 0, .int 0, .int 0, .int 0, .int 0, .int 0, .long 0, .int 0, .ref h2, .ref h4, .ref h5, .ref h6, .ref h1, .ref h7, .ref h8, .ref h9, .ref h10, .int 0, .int 0, .int 0, .int 0, .int (-1), .int (-1), .long 0, .long 0, .ref h11, .ref h12, .int 0, .int (-1), .int 0, .ref h13, .int 0, .ref h14, .ref h15, .int 0, .int 1, .ref h16, .int 0, .int 0, .int 0, .int 0]))] ∧ va_S A s.heap H locs ∧ lv_has ls 4 [(2, .int (nI k)), (0, .ref h0), (1, .int 0)]) 70 ?_ ?_ 0 ((upd (upd (fun _ => 0) 60 2) 62 2), f0) _ _ _ (by omega) ⟨by omega, hP, hD, hS, hl⟩
  · rintro k1 ⟨f2, f3⟩ H locs ls hkk1 ⟨hmk1, hP, hD, hS, hl⟩ ih
    have hP : va_P (dC, dI) vwCl [(h1, .inl (w0, 70, .inl f3)), (h2, .inl (w1, 373, .inl f2)), (h0, .inr (11, [.int 0, .ref h3, .int 0, .int 0, .int 400, .int 0, .int 0, .int 0, .int 0, .int 0, .int 0, .int 0, .long 0, .int 0, .ref h2, .ref h4, .ref h5, .ref h6, .ref h1, .ref h7, .ref h8, .ref h9, .ref h10, .int 0, .int 0, .int 0, .int 0, .int (-1), .int (-1), .long 0, .long 0, .ref h11, .ref h12, .int 0, .int (-1), .int 0, .ref h13, .int 0, .ref h14, .ref h15, .int 0, .int 1, .ref h16, .int 0, .int 0, .int 0, .int 0]))] H := hP
    have hD : va_D A [(h1, .inl (w0, 70, .inl f3)), (h2, .inl (w1, 373, .inl f2)), (h0, .inr (11, [.int 0, .ref h3, .int 0, .int 0, .int 400, .int 0, .int 0, .int 0, .int 0, .int 0, .int 0, .int 0, .long 0, .int 0, .ref h2, .ref h4, .ref h5, .ref h6, .ref h1, .ref h7, .ref h8, .ref h9, .ref h10, .int 0, .int 0, .int 0, .int 0, .int (-1), .int (-1), .long 0, .long 0, .ref h11, .ref h12, .int 0, .int (-1), .int 0, .ref h13, .int 0, .ref h14, .ref h15, .int 0, .int 1, .ref h16, .int 0, .int 0, .int 0, .int 0]))] := hD
    have hl : lv_has ls 4 [(2, .int (nI k1)), (0, .ref h0), (1, .int 0)] := hl
    refine lv_iload_n hx hb dX12_stay_2 rfl (lv_at hl 0 rfl) ?_
    refine lv_bipush (v := 70) hx hb dX12_stay_3 (by decide) ?_
    refine lv_icmp_ge (tgt := 46) hx hb dX12_stay_5 (by decide) (fun c9 => absurd c9 (nI_ge (by omega) (by omega))) (fun _ => ?_)
    refine lv_aload_n hx hb dX12_stay_8 rfl (lv_at hl 1 rfl) ?_
    refine va_get (D := (dC, dI)) (ci := 11) (v := .ref h2) (C := RX12) (T := TX12) (N := 47) hx hb hts ii_X12_stay_X12 hown hK hP 2 rfl rfl 14 (by decide) (hts _ mm_X12_stay_1) (fun _ h9 => h9) rfl dX12_stay_9 ?_
    refine lv_bipush (v := 61) hx hb dX12_stay_12 (by decide) ?_
    refine lv_iload_n hx hb dX12_stay_14 rfl (lv_at hl 0 rfl) ?_
    refine lv_iadd hx hb dX12_stay_15 ?_
    refine zz_top (v := (nI (k1 + 61))) (zz_addl k1 61) ?_
    refine va_iald hx hb hK hP 1 0 rfl rfl (i := (nI (k1 + 61))) (vp_in_nI (by omega) (by decide)) dX12_stay_16 ?_
    refine lv_topi (fun z4 ez4 => ?_)
    refine lv_istore_n (lv' := [(3, .int z4), (2, .int (nI k1)), (0, .ref h0), (1, .int 0)]) hx hb dX12_stay_17 rfl hl (by decide) rfl (fun ls hl => ?_)
    refine lv_aload_n hx hb dX12_stay_18 rfl (lv_at hl 2 rfl) ?_
    refine va_get (D := (dC, dI)) (ci := 11) (v := .ref h2) (C := RX12) (T := TX12) (N := 47) hx hb hts ii_X12_stay_X12 hown hK hP 2 rfl rfl 14 (by decide) (hts _ mm_X12_stay_1) (fun _ h9 => h9) rfl dX12_stay_19 ?_
    refine lv_bipush (v := 61) hx hb dX12_stay_22 (by decide) ?_
    refine lv_iload_n hx hb dX12_stay_24 rfl (lv_at hl 1 rfl) ?_
    refine lv_iadd hx hb dX12_stay_25 ?_
    refine zz_top (v := (nI (k1 + 61))) (zz_addl k1 61) ?_
    refine lv_aload_n hx hb dX12_stay_26 rfl (lv_at hl 2 rfl) ?_
    refine va_get (D := (dC, dI)) (ci := 11) (v := .ref h1) (C := RX12) (T := TX12) (N := 47) hx hb hts ii_X12_stay_X12 hown hK hP 2 rfl rfl 18 (by decide) (hts _ mm_X12_stay_2) (fun _ h9 => h9) rfl dX12_stay_27 ?_
    refine lv_iload_n hx hb dX12_stay_30 rfl (lv_at hl 1 rfl) ?_
    refine va_iald hx hb hK hP 0 1 rfl rfl (i := (nI k1)) (vp_in_nI (by omega) (by decide)) dX12_stay_31 ?_
    refine lv_topi (fun z5 ez5 => ?_)
    refine va_iast hx hb hK hP hD hS 1 0 rfl rfl (i := (nI (k1 + 61))) (vp_in_nI (by omega) (by decide)) dX12_stay_32 (fun H locs hP hD hS => ?_)
    have hP : va_P (dC, dI) vwCl [(h1, .inl (w0, 70, .inl f3)), (h2, .inl (w1, 373, .inl (upd f2 (nI (k1 + 61)).toNatClampNeg z5))), (h0, .inr (11, [.int 0, .ref h3, .int 0, .int 0, .int 400, .int 0, .int 0, .int 0, .int 0, .int 0, .int 0, .int 0, .long 0, .int 0, .ref h2, .ref h4, .ref h5, .ref h6, .ref h1, .ref h7, .ref h8, .ref h9, .ref h10, .int 0, .int 0, .int 0, .int 0, .int (-1), .int (-1), .long 0, .long 0, .ref h11, .ref h12, .int 0, .int (-1), .int 0, .ref h13, .int 0, .ref h14, .ref h15, .int 0, .int 1, .ref h16, .int 0, .int 0, .int 0, .int 0]))] H := hP
    have hD : va_D A [(h1, .inl (w0, 70, .inl f3)), (h2, .inl (w1, 373, .inl (upd f2 (nI (k1 + 61)).toNatClampNeg z5))), (h0, .inr (11, [.int 0, .ref h3, .int 0, .int 0, .int 400, .int 0, .int 0, .int 0, .int 0, .int 0, .int 0, .int 0, .long 0, .int 0, .ref h2, .ref h4, .ref h5, .ref h6, .ref h1, .ref h7, .ref h8, .ref h9, .ref h10, .int 0, .int 0, .int 0, .int 0, .int (-1), .int (-1), .long 0, .long 0, .ref h11, .ref h12, .int 0, .int (-1), .int 0, .ref h13, .int 0, .ref h14, .ref h15, .int 0, .int 1, .ref h16, .int 0, .int 0, .int 0, .int 0]))] := hD
    refine lv_aload_n hx hb dX12_stay_33 rfl (lv_at hl 2 rfl) ?_
    refine va_get (D := (dC, dI)) (ci := 11) (v := .ref h1) (C := RX12) (T := TX12) (N := 47) hx hb hts ii_X12_stay_X12 hown hK hP 2 rfl rfl 18 (by decide) (hts _ mm_X12_stay_2) (fun _ h9 => h9) rfl dX12_stay_34 ?_
    refine lv_iload_n hx hb dX12_stay_37 rfl (lv_at hl 1 rfl) ?_
    refine lv_iload_n hx hb dX12_stay_38 rfl (lv_at hl 0 rfl) ?_
    refine va_iast hx hb hK hP hD hS 0 1 rfl rfl (i := (nI k1)) (vp_in_nI (by omega) (by decide)) dX12_stay_39 (fun H locs hP hD hS => ?_)
    have hP : va_P (dC, dI) vwCl [(h1, .inl (w0, 70, .inl (upd f3 (nI k1).toNatClampNeg z4))), (h2, .inl (w1, 373, .inl (upd f2 (nI (k1 + 61)).toNatClampNeg z5))), (h0, .inr (11, [.int 0, .ref h3, .int 0, .int 0, .int 400, .int 0, .int 0, .int 0, .int 0, .int 0, .int 0, .int 0, .long 0, .int 0, .ref h2, .ref h4, .ref h5, .ref h6, .ref h1, .ref h7, .ref h8, .ref h9, .ref h10, .int 0, .int 0, .int 0, .int 0, .int (-1), .int (-1), .long 0, .long 0, .ref h11, .ref h12, .int 0, .int (-1), .int 0, .ref h13, .int 0, .ref h14, .ref h15, .int 0, .int 1, .ref h16, .int 0, .int 0, .int 0, .int 0]))] H := hP
    have hD : va_D A [(h1, .inl (w0, 70, .inl (upd f3 (nI k1).toNatClampNeg z4))), (h2, .inl (w1, 373, .inl (upd f2 (nI (k1 + 61)).toNatClampNeg z5))), (h0, .inr (11, [.int 0, .ref h3, .int 0, .int 0, .int 400, .int 0, .int 0, .int 0, .int 0, .int 0, .int 0, .int 0, .long 0, .int 0, .ref h2, .ref h4, .ref h5, .ref h6, .ref h1, .ref h7, .ref h8, .ref h9, .ref h10, .int 0, .int 0, .int 0, .int 0, .int (-1), .int (-1), .long 0, .long 0, .ref h11, .ref h12, .int 0, .int (-1), .int 0, .ref h13, .int 0, .ref h14, .ref h15, .int 0, .int 1, .ref h16, .int 0, .int 0, .int 0, .int 0]))] := hD
    refine lv_iinc (v := (nI (k1 + 1))) (lv' := [(2, .int (nI (k1 + 1))), (3, .int z4), (0, .ref h0), (1, .int 0)]) hx hb dX12_stay_40 hl (k := 1) rfl (zz_addr k1 1) (by decide) rfl (fun ls hl => ?_)
    refine lv_goto (tgt := 2) hx hb dX12_stay_43 (by decide) ?_
    exact ih ((upd f2 (nI (k1 + 61)).toNatClampNeg z5), (upd f3 (nI k1).toNatClampNeg z4)) _ _ _ ⟨by omega, hP, hD, hS, lv_sub hl [0, 2, 3] rfl⟩
  rintro ⟨f2, f3⟩ H locs ls ⟨-, hP, hD, hS, hl⟩
  have hP : va_P (dC, dI) vwCl [(h1, .inl (w0, 70, .inl f3)), (h2, .inl (w1, 373, .inl f2)), (h0, .inr (11, [.int 0, .ref h3, .int 0, .int 0, .int 400, .int 0, .int 0, .int 0, .int 0, .int 0, .int 0, .int 0, .long 0, .int 0, .ref h2, .ref h4, .ref h5, .ref h6, .ref h1, .ref h7, .ref h8, .ref h9, .ref h10, .int 0, .int 0, .int 0, .int 0, .int (-1), .int (-1), .long 0, .long 0, .ref h11, .ref h12, .int 0, .int (-1), .int 0, .ref h13, .int 0, .ref h14, .ref h15, .int 0, .int 1, .ref h16, .int 0, .int 0, .int 0, .int 0]))] H := hP
  have hD : va_D A [(h1, .inl (w0, 70, .inl f3)), (h2, .inl (w1, 373, .inl f2)), (h0, .inr (11, [.int 0, .ref h3, .int 0, .int 0, .int 400, .int 0, .int 0, .int 0, .int 0, .int 0, .int 0, .int 0, .long 0, .int 0, .ref h2, .ref h4, .ref h5, .ref h6, .ref h1, .ref h7, .ref h8, .ref h9, .ref h10, .int 0, .int 0, .int 0, .int 0, .int (-1), .int (-1), .long 0, .long 0, .ref h11, .ref h12, .int 0, .int (-1), .int 0, .ref h13, .int 0, .ref h14, .ref h15, .int 0, .int 1, .ref h16, .int 0, .int 0, .int 0, .int 0]))] := hD
  have hl : lv_has ls 4 [(2, .int 70), (0, .ref h0), (1, .int 0)] := hl
  refine lv_iload_n hx hb dX12_stay_2 rfl (lv_at hl 0 rfl) ?_
  refine lv_bipush (v := 70) hx hb dX12_stay_3 (by decide) ?_
  refine lv_icmp_ge (tgt := 46) hx hb dX12_stay_5 (by decide) (fun _ => ?_) (fun c6 => absurd (by decide) c6)
  refine lv_iload_n hx hb dX12_stay_46 rfl (lv_at hl 2 rfl) ?_
  refine lv_if_ne (tgt := 51) hx hb dX12_stay_47 (by decide) (fun c7 => absurd c7 (by decide)) (fun _ => ?_)
  have hP9 := hP.sub (ws' := [(h1, .inl (w0, 70, .inl f3)), (h2, .inl (w1, 373, .inl f2)), (h0, .inr (11, [.int 0, .ref h3, .int 0, .int 0, .int 400, .int 0, .int 0, .int 0, .int 0, .int 0, .int 0, .int 0, .long 0, .int 0, .ref h2, .ref h4, .ref h5, .ref h6, .ref h1, .ref h7, .ref h8, .ref h9, .ref h10, .int 0, .int 0, .int 0, .int 0, .int (-1), .int (-1), .long 0, .long 0, .ref h11, .ref h12, .int 0, .int (-1), .int 0, .ref h13, .int 0, .ref h14, .ref h15, .int 0, .int 1, .ref h16, .int 0, .int 0, .int 0, .int 0]))]) [0, 1, 2] rfl
  have hD9 := hD.sub (ws' := [(h1, .inl (w0, 70, .inl f3)), (h2, .inl (w1, 373, .inl f2)), (h0, .inr (11, [.int 0, .ref h3, .int 0, .int 0, .int 400, .int 0, .int 0, .int 0, .int 0, .int 0, .int 0, .int 0, .long 0, .int 0, .ref h2, .ref h4, .ref h5, .ref h6, .ref h1, .ref h7, .ref h8, .ref h9, .ref h10, .int 0, .int 0, .int 0, .int 0, .int (-1), .int (-1), .long 0, .long 0, .ref h11, .ref h12, .int 0, .int (-1), .int 0, .ref h13, .int 0, .ref h14, .ref h15, .int 0, .int 1, .ref h16, .int 0, .int 0, .int 0, .int 0]))]) [0, 1, 2] (by decide) rfl
  have hK9 := hK.sub (tys' := []) [] rfl
  refine W.widen (k := 0) (n := 0) (Nat.le_of_ble_eq_true rfl) (Nat.le_of_ble_eq_true rfl) ?_
  exact W.vret hx hb hr (fun t ht hW => ⟨⟨(), rfl, trivial, f3, f2, by rw [ht]; exact hP9, va_K.moved hW.alike hK9, hD9⟩, hS.F ht⟩) hS.2.2 dX12_stay_50
set_option maxHeartbeats 4000000 in
set_option maxRecDepth 100000 in
theorem k_X12_book (l : Launch) (dC : Nat → ClassId) (dI : Nat → Nat → Nat) (ad : Nat → Nat) (h0 h1 h2 h3 h4 h5 h6 h7 h8 h9 h10 h11 h12 h13 h14 h15 h16 : Nat) (w0 w1 w2 : ClassId) (sz : Nat) : Met l yX12_book wsX12_book ({ frames := 2, cells := 0, slots := 0, locals := 45 }) (va_Pc [.ref h0, .int 0] (CP (dC, dI) [(h1, .inl (w0, 70, .inl (fun _ => 0))), (h2, .inl (w1, 4, .inl (fun _ => 0))), (h0, .inr (11, [.int 0, .ref h3, .int 0, .int 0, .int 0, .int 0, .int 0, .int 0, .int 0, .int 0, .int 0, .int 0, .long 0, .int 0, .ref h4, .ref h5, .ref h6, .ref h7, .ref h1, .ref h8, .ref h9, .ref h10, .ref h11, .int 0, .int 0, .int 0, .int 0, .int (-1), .int (-1), .long 0, .long 0, .ref h12, .ref h13, .int 0, .int (-1), .int 0, .ref h14, .int 0, .ref h15, .ref h2, .int 0, .int 0, .ref h16, .int 0, .int 0, .int 0, .int 0])), (h4, .inl (w2, 373, .inl (upd (upd (fun _ => 0) 60 2) 62 2)))] [(w2, .int), (w0, .int), (w1, .int)] sz ad)) (va_Qi (fun (r : Int32) (_ : Unit) => r = (-1)) (fun (_ : Unit) (t : State) => CQ (dC, dI) [] [] (va_A [(h1, .inl (w0, 70, .inl (fun _ => 0))), (h2, .inl (w1, 4, .inl (fun _ => 0))), (h0, .inr (11, [.int 0, .ref h3, .int 0, .int 0, .int 0, .int 0, .int 0, .int 0, .int 0, .int 0, .int 0, .int 0, .long 0, .int 0, .ref h4, .ref h5, .ref h6, .ref h7, .ref h1, .ref h8, .ref h9, .ref h10, .ref h11, .int 0, .int 0, .int 0, .int 0, .int (-1), .int (-1), .long 0, .long 0, .ref h12, .ref h13, .int 0, .int (-1), .int 0, .ref h14, .int 0, .ref h15, .ref h2, .int 0, .int 0, .ref h16, .int 0, .int 0, .int 0, .int 0])), (h4, .inl (w2, 373, .inl (upd (upd (fun _ => 0) 60 2) 62 2)))] sz) t) (va_A [(h1, .inl (w0, 70, .inl (fun _ => 0))), (h2, .inl (w1, 4, .inl (fun _ => 0))), (h0, .inr (11, [.int 0, .ref h3, .int 0, .int 0, .int 0, .int 0, .int 0, .int 0, .int 0, .int 0, .int 0, .int 0, .long 0, .int 0, .ref h4, .ref h5, .ref h6, .ref h7, .ref h1, .ref h8, .ref h9, .ref h10, .ref h11, .int 0, .int 0, .int 0, .int 0, .int (-1), .int (-1), .long 0, .long 0, .ref h12, .ref h13, .int 0, .int (-1), .int 0, .ref h14, .int 0, .ref h15, .ref h2, .int 0, .int 0, .ref h16, .int 0, .int 0, .int 0, .int 0])), (h4, .inl (w2, 373, .inl (upd (upd (fun _ => 0) 60 2) 62 2)))] sz)) 0 0 (va_A [(h1, .inl (w0, 70, .inl (fun _ => 0))), (h2, .inl (w1, 4, .inl (fun _ => 0))), (h0, .inr (11, [.int 0, .ref h3, .int 0, .int 0, .int 0, .int 0, .int 0, .int 0, .int 0, .int 0, .int 0, .int 0, .long 0, .int 0, .ref h4, .ref h5, .ref h6, .ref h7, .ref h1, .ref h8, .ref h9, .ref h10, .ref h11, .int 0, .int 0, .int 0, .int 0, .int (-1), .int (-1), .long 0, .long 0, .ref h12, .ref h13, .int 0, .int (-1), .int 0, .ref h14, .int 0, .ref h15, .ref h2, .int 0, .int 0, .ref h16, .int 0, .int 0, .int 0, .int 0])), (h4, .inl (w2, 373, .inl (upd (upd (fun _ => 0) 60 2) 62 2)))] sz) := by
  refine Met.ofW (cc := cX12_book) (maxL := 4) (ret := (some .int)) (by decide) rfl ?_
  intro p e s m args below meth c s₁ B hml hv
  obtain ⟨rfl, hsz, hP, hK, hD0, hE⟩ := hv
  have hx := B.exec
  have hb := B.bytes
  have hr := B.returns
  have hts := atoms_spec (ws := wsX12_book) B.pre
  have hown : s.vm.findClass RX12 = some m.cls := findClass_of_methodNamed B.named
  have hlocks := B.notSynchronized
  subst hsz
  have hD := hD0.self (sz := s.heap.size)
  generalize hAe : va_A [(h1, .inl (w0, 70, .inl (fun _ => 0))), (h2, .inl (w1, 4, .inl (fun _ => 0))), (h0, .inr (11, [.int 0, .ref h3, .int 0, .int 0, .int 0, .int 0, .int 0, .int 0, .int 0, .int 0, .int 0, .int 0, .long 0, .int 0, .ref h4, .ref h5, .ref h6, .ref h7, .ref h1, .ref h8, .ref h9, .ref h10, .ref h11, .int 0, .int 0, .int 0, .int 0, .int (-1), .int (-1), .long 0, .long 0, .ref h12, .ref h13, .int 0, .int (-1), .int 0, .ref h14, .int 0, .ref h15, .ref h2, .int 0, .int 0, .ref h16, .int 0, .int 0, .int 0, .int 0])), (h4, .inl (w2, 373, .inl (upd (upd (fun _ => 0) 60 2) 62 2)))] s.heap.size = A at hD hE ⊢
  have hA : ∀ q : Nat, s.heap.size ≤ q → A q := fun q h => by rw [← hAe]; exact Or.inr h
  have hS : va_S A s.heap s.heap [] := va_S.rf
  have hl := lv_entry ([.ref h0, .int 0]) (n := 4) (Nat.le_of_ble_eq_true rfl)
  rw [lg_entry_eq]
  generalize (lg_sl ([.ref h0, .int 0]) ++ List.replicate (4 - (lg_sl ([.ref h0, .int 0])).length) Slot.unset).toArray = ls at hl ⊢
  have hl : lv_has ls 4 [(0, .ref h0), (1, .int 0)] := hl
  refine lv_aload_n hx hb dX12_book_0 rfl (lv_at hl 0 rfl) ?_
  refine lv_iconst (v := 0) hx hb dX12_book_1 (by decide) ?_
  refine va_put (D := (dC, dI)) (ci := 11) (v := .int 0) (ty := .int) (C := RX12) (T := TX12) (N := 47) hx hb hts ii_X12_book_X12 tyX12 tyX12_ok nmX12 hown hK hP hD hS 2 rfl rfl 0 (by decide) (hts _ mm_X12_book_1) (fun _ h9 => h9) rfl (by decide +kernel) rfl rfl (Nat.le_of_ble_eq_true rfl) dX12_book_2 (fun H locs hP hD hS => ?_)
  have hP : va_P (dC, dI) vwCl [(h1, .inl (w0, 70, .inl (fun _ => 0))), (h2, .inl (w1, 4, .inl (fun _ => 0))), (h0, .inr (11, [.int 0, .ref h3, .int 0, .int 0, .int 0, .int 0, .int 0, .int 0, .int 0, .int 0, .int 0, .int 0, .long 0, .int 0, .ref h4, .ref h5, .ref h6, .ref h7, .ref h1, .ref h8, .ref h9, .ref h10, .ref h11, .int 0, .int 0, .int 0, .int 0, .int (-1), .int (-1), .long 0, .long 0, .ref h12, .ref h13, .int 0, .int (-1), .int 0, .ref h14, .int 0, .ref h15, .ref h2, .int 0, .int 0, .ref h16, .int 0, .int 0, .int 0, .int 0])), (h4, .inl (w2, 373, .inl (upd (upd (fun _ => 0) 60 2) 62 2)))] H := hP
  have hD : va_D A [(h1, .inl (w0, 70, .inl (fun _ => 0))), (h2, .inl (w1, 4, .inl (fun _ => 0))), (h0, .inr (11, [.int 0, .ref h3, .int 0, .int 0, .int 0, .int 0, .int 0, .int 0, .int 0, .int 0, .int 0, .int 0, .long 0, .int 0, .ref h4, .ref h5, .ref h6, .ref h7, .ref h1, .ref h8, .ref h9, .ref h10, .ref h11, .int 0, .int 0, .int 0, .int 0, .int (-1), .int (-1), .long 0, .long 0, .ref h12, .ref h13, .int 0, .int (-1), .int 0, .ref h14, .int 0, .ref h15, .ref h2, .int 0, .int 0, .ref h16, .int 0, .int 0, .int 0, .int 0])), (h4, .inl (w2, 373, .inl (upd (upd (fun _ => 0) 60 2) 62 2)))] := hD
  refine lv_iload_n hx hb dX12_book_5 rfl (lv_at hl 1 rfl) ?_
  refine lv_iconst (v := 0) hx hb dX12_book_6 (by decide) ?_
  refine lv_iconst (v := 1) hx hb dX12_book_7 (by decide) ?_
  have hPc := hP.sub (ws' := []) [] rfl
  have hDc := hD.sub (ws' := []) [] (by decide) rfl
  have hKc := hK.sub (tys' := []) [] rfl
  have hFc := va_free (wc := []) hD hS hA [] rfl
  refine va_calli (va_runS (As := [.int 0, .int 0, .int 1]) (rest := []) ⟨hx, hb, hml, hown, hts⟩ (k_X12_isIn_9 l dC dI ad H.size) (cwS 3 hts gX12_book_X12_isIn rfl rfl rfl (by decide +kernel) ⟨Nat.le_of_ble_eq_true rfl, Nat.le_of_ble_eq_true rfl⟩) ⟨fun a U g mk q => ⟨q.1, CP.blind q.2⟩, fun U hU hW => ⟨rfl, CP.of hPc hKc hDc hE hS hFc hU hW⟩⟩ rfl rfl hl.1 rfl (lv_room (Nat.le_of_ble_eq_true rfl)) dX12_book_8 ⟨Nat.le_of_ble_eq_true rfl, Nat.le_of_ble_eq_true rfl⟩) hS (fun q _ h => hFc q h) hFc (fun r1 u t H1 locs ht hvm hw hB hz1 hk1 hS => ?_)
  obtain ⟨hP1, hK1, hD1⟩ := hB
  rw [ht] at hP1
  obtain ⟨hP, hD⟩ := va_join (wr := [(h1, .inl (w0, 70, .inl (fun _ => 0))), (h2, .inl (w1, 4, .inl (fun _ => 0))), (h0, .inr (11, [.int 0, .ref h3, .int 0, .int 0, .int 0, .int 0, .int 0, .int 0, .int 0, .int 0, .int 0, .int 0, .long 0, .int 0, .ref h4, .ref h5, .ref h6, .ref h7, .ref h1, .ref h8, .ref h9, .ref h10, .ref h11, .int 0, .int 0, .int 0, .int 0, .int (-1), .int (-1), .long 0, .long 0, .ref h12, .ref h13, .int 0, .int (-1), .int 0, .ref h14, .int 0, .ref h15, .ref h2, .int 0, .int 0, .ref h16, .int 0, .int 0, .int 0, .int 0])), (h4, .inl (w2, 373, .inl (upd (upd (fun _ => 0) 60 2) 62 2)))]) (w1 := []) hP hD [] [0, 1, 2, 3] rfl rfl (by decide) (by decide) hk1 hFc hP1 hD1
  generalize H1 = H at hP hS ⊢
  clear hPc hDc hKc hFc hP1 hD1 hK1 hk1 hz1
  have hP : va_P (dC, dI) vwCl [(h1, .inl (w0, 70, .inl (fun _ => 0))), (h2, .inl (w1, 4, .inl (fun _ => 0))), (h0, .inr (11, [.int 0, .ref h3, .int 0, .int 0, .int 0, .int 0, .int 0, .int 0, .int 0, .int 0, .int 0, .int 0, .long 0, .int 0, .ref h4, .ref h5, .ref h6, .ref h7, .ref h1, .ref h8, .ref h9, .ref h10, .ref h11, .int 0, .int 0, .int 0, .int 0, .int (-1), .int (-1), .long 0, .long 0, .ref h12, .ref h13, .int 0, .int (-1), .int 0, .ref h14, .int 0, .ref h15, .ref h2, .int 0, .int 0, .ref h16, .int 0, .int 0, .int 0, .int 0])), (h4, .inl (w2, 373, .inl (upd (upd (fun _ => 0) 60 2) 62 2)))] H := hP
  have hD : va_D A [(h1, .inl (w0, 70, .inl (fun _ => 0))), (h2, .inl (w1, 4, .inl (fun _ => 0))), (h0, .inr (11, [.int 0, .ref h3, .int 0, .int 0, .int 0, .int 0, .int 0, .int 0, .int 0, .int 0, .int 0, .int 0, .long 0, .int 0, .ref h4, .ref h5, .ref h6, .ref h7, .ref h1, .ref h8, .ref h9, .ref h10, .ref h11, .int 0, .int 0, .int 0, .int 0, .int (-1), .int (-1), .long 0, .long 0, .ref h12, .ref h13, .int 0, .int (-1), .int 0, .ref h14, .int 0, .ref h15, .ref h2, .int 0, .int 0, .ref h16, .int 0, .int 0, .int 0, .int 0])), (h4, .inl (w2, 373, .inl (upd (upd (fun _ => 0) 60 2) 62 2)))] := hD
  refine zz_top (v := 1) hw ?_
  refine lv_if_ne (tgt := 18) hx hb dX12_book_11 (by decide) (fun _ => ?_) (fun c2 => absurd (by decide) c2)
  refine lv_aload_n hx hb dX12_book_18 rfl (lv_at hl 0 rfl) ?_
  refine lv_sipush (v := 400) hx hb dX12_book_19 (by decide) ?_
  have hPc := hP.sub (ws' := [(h0, .inr (11, [.int 0, .ref h3, .int 0, .int 0, .int 0, .int 0, .int 0, .int 0, .int 0, .int 0, .int 0, .int 0, .long 0, .int 0, .ref h4, .ref h5, .ref h6, .ref h7, .ref h1, .ref h8, .ref h9, .ref h10, .ref h11, .int 0, .int 0, .int 0, .int 0, .int (-1), .int (-1), .long 0, .long 0, .ref h12, .ref h13, .int 0, .int (-1), .int 0, .ref h14, .int 0, .ref h15, .ref h2, .int 0, .int 0, .ref h16, .int 0, .int 0, .int 0, .int 0]))]) [2] rfl
  have hDc := hD.sub (ws' := [(h0, .inr (11, [.int 0, .ref h3, .int 0, .int 0, .int 0, .int 0, .int 0, .int 0, .int 0, .int 0, .int 0, .int 0, .long 0, .int 0, .ref h4, .ref h5, .ref h6, .ref h7, .ref h1, .ref h8, .ref h9, .ref h10, .ref h11, .int 0, .int 0, .int 0, .int 0, .int (-1), .int (-1), .long 0, .long 0, .ref h12, .ref h13, .int 0, .int (-1), .int 0, .ref h14, .int 0, .ref h15, .ref h2, .int 0, .int 0, .ref h16, .int 0, .int 0, .int 0, .int 0]))]) [2] (by decide) rfl
  have hKc := hK.sub (tys' := []) [] rfl
  have hFc := va_free (wc := [(h0, .inr (11, [.int 0, .ref h3, .int 0, .int 0, .int 0, .int 0, .int 0, .int 0, .int 0, .int 0, .int 0, .int 0, .long 0, .int 0, .ref h4, .ref h5, .ref h6, .ref h7, .ref h1, .ref h8, .ref h9, .ref h10, .ref h11, .int 0, .int 0, .int 0, .int 0, .int (-1), .int (-1), .long 0, .long 0, .ref h12, .ref h13, .int 0, .int (-1), .int 0, .ref h14, .int 0, .ref h15, .ref h2, .int 0, .int 0, .ref h16, .int 0, .int 0, .int 0, .int 0]))]) hD hS hA [2] rfl
  refine va_callv (va_runV (As := [.int 400]) (rest := []) ⟨hx, hb, hml, hown, hts⟩ (k_X12_begin_1 l dC dI ad h0 h3 h4 h5 h6 h7 h1 h8 h9 h10 h11 h12 h13 h14 h15 h2 h16 H.size) (cwV 1 hts gX12_book_X12_begin rfl rfl rfl (by decide +kernel) ⟨Nat.le_of_ble_eq_true rfl, Nat.le_of_ble_eq_true rfl⟩) ⟨fun a U g mk q => ⟨q.1, CP.blind q.2⟩, va_recv hKc hPc (ci := 11) (q0 := 0) rfl rfl, fun U hU hW => ⟨rfl, CP.of hPc hKc hDc hE hS hFc hU hW⟩⟩ rfl rfl hl.1 rfl (lv_room (Nat.le_of_ble_eq_true rfl)) dX12_book_22 ⟨Nat.le_of_ble_eq_true rfl, Nat.le_of_ble_eq_true rfl⟩) hS (fun q _ h => hFc q h) hFc (fun u t H1 locs ht hvm hw hB hz1 hk1 hS => ?_)
  obtain ⟨hP1, hK1, hD1⟩ := hB
  rw [ht] at hP1
  obtain ⟨hP, hD⟩ := va_join (wr := [(h1, .inl (w0, 70, .inl (fun _ => 0))), (h2, .inl (w1, 4, .inl (fun _ => 0))), (h4, .inl (w2, 373, .inl (upd (upd (fun _ => 0) 60 2) 62 2)))]) (w1 := [(h0, .inr (11, [.int 0, .ref h3, .int 0, .int 0, .int 400, .int 0, .int 0, .int 0, .int 0, .int 0, .int 0, .int 0, .long 0, .int 0, .ref h4, .ref h5, .ref h6, .ref h7, .ref h1, .ref h8, .ref h9, .ref h10, .ref h11, .int 0, .int 0, .int 0, .int 0, .int (-1), .int (-1), .long 0, .long 0, .ref h12, .ref h13, .int 0, .int (-1), .int 0, .ref h14, .int 0, .ref h15, .ref h2, .int 0, .int 0, .ref h16, .int 0, .int 0, .int 0, .int 0]))]) hP hD [2] [0, 1, 3] rfl rfl (by decide) (by decide) hk1 hFc hP1 hD1
  generalize H1 = H at hP hS ⊢
  clear hPc hDc hKc hFc hP1 hD1 hK1 hk1 hz1
  have hP : va_P (dC, dI) vwCl [(h1, .inl (w0, 70, .inl (fun _ => 0))), (h2, .inl (w1, 4, .inl (fun _ => 0))), (h4, .inl (w2, 373, .inl (upd (upd (fun _ => 0) 60 2) 62 2))), (h0, .inr (11, [.int 0, .ref h3, .int 0, .int 0, .int 400, .int 0, .int 0, .int 0, .int 0, .int 0, .int 0, .int 0, .long 0, .int 0, .ref h4, .ref h5, .ref h6, .ref h7, .ref h1, .ref h8, .ref h9, .ref h10, .ref h11, .int 0, .int 0, .int 0, .int 0, .int (-1), .int (-1), .long 0, .long 0, .ref h12, .ref h13, .int 0, .int (-1), .int 0, .ref h14, .int 0, .ref h15, .ref h2, .int 0, .int 0, .ref h16, .int 0, .int 0, .int 0, .int 0]))] H := hP
  have hD : va_D A [(h1, .inl (w0, 70, .inl (fun _ => 0))), (h2, .inl (w1, 4, .inl (fun _ => 0))), (h4, .inl (w2, 373, .inl (upd (upd (fun _ => 0) 60 2) 62 2))), (h0, .inr (11, [.int 0, .ref h3, .int 0, .int 0, .int 400, .int 0, .int 0, .int 0, .int 0, .int 0, .int 0, .int 0, .long 0, .int 0, .ref h4, .ref h5, .ref h6, .ref h7, .ref h1, .ref h8, .ref h9, .ref h10, .ref h11, .int 0, .int 0, .int 0, .int 0, .int (-1), .int (-1), .long 0, .long 0, .ref h12, .ref h13, .int 0, .int (-1), .int 0, .ref h14, .int 0, .ref h15, .ref h2, .int 0, .int 0, .ref h16, .int 0, .int 0, .int 0, .int 0]))] := hD
  refine lv_aload_n hx hb dX12_book_25 rfl (lv_at hl 0 rfl) ?_
  refine lv_iconst (v := 0) hx hb dX12_book_26 (by decide) ?_
  refine va_put (D := (dC, dI)) (ci := 11) (v := .int 0) (ty := .int) (C := RX12) (T := TX12) (N := 47) hx hb hts ii_X12_book_X12 tyX12 tyX12_ok nmX12 hown hK hP hD hS 3 rfl rfl 40 (by decide) (hts _ mm_X12_book_2) (fun _ h9 => h9) rfl (by decide +kernel) rfl rfl (Nat.le_of_ble_eq_true rfl) dX12_book_27 (fun H locs hP hD hS => ?_)
  have hP : va_P (dC, dI) vwCl [(h1, .inl (w0, 70, .inl (fun _ => 0))), (h2, .inl (w1, 4, .inl (fun _ => 0))), (h4, .inl (w2, 373, .inl (upd (upd (fun _ => 0) 60 2) 62 2))), (h0, .inr (11, [.int 0, .ref h3, .int 0, .int 0, .int 400, .int 0, .int 0, .int 0, .int 0, .int 0, .int 0, .int 0, .long 0, .int 0, .ref h4, .ref h5, .ref h6, .ref h7, .ref h1, .ref h8, .ref h9, .ref h10, .ref h11, .int 0, .int 0, .int 0, .int 0, .int (-1), .int (-1), .long 0, .long 0, .ref h12, .ref h13, .int 0, .int (-1), .int 0, .ref h14, .int 0, .ref h15, .ref h2, .int 0, .int 0, .ref h16, .int 0, .int 0, .int 0, .int 0]))] H := hP
  have hD : va_D A [(h1, .inl (w0, 70, .inl (fun _ => 0))), (h2, .inl (w1, 4, .inl (fun _ => 0))), (h4, .inl (w2, 373, .inl (upd (upd (fun _ => 0) 60 2) 62 2))), (h0, .inr (11, [.int 0, .ref h3, .int 0, .int 0, .int 400, .int 0, .int 0, .int 0, .int 0, .int 0, .int 0, .int 0, .long 0, .int 0, .ref h4, .ref h5, .ref h6, .ref h7, .ref h1, .ref h8, .ref h9, .ref h10, .ref h11, .int 0, .int 0, .int 0, .int 0, .int (-1), .int (-1), .long 0, .long 0, .ref h12, .ref h13, .int 0, .int (-1), .int 0, .ref h14, .int 0, .ref h15, .ref h2, .int 0, .int 0, .ref h16, .int 0, .int 0, .int 0, .int 0]))] := hD
  refine lv_aload_n hx hb dX12_book_30 rfl (lv_at hl 0 rfl) ?_
  refine va_get (D := (dC, dI)) (ci := 11) (v := .int 0) (C := RX12) (T := TX12) (N := 47) hx hb hts ii_X12_book_X12 hown hK hP 3 rfl rfl 7 (by decide) (hts _ mm_X12_book_3) (fun _ h9 => h9) rfl dX12_book_31 ?_
  refine lv_if_eq (tgt := 65) hx hb dX12_book_34 (by decide) (fun _ => ?_) (fun c3 => absurd (by decide) c3)
  refine lv_aload_n hx hb dX12_book_65 rfl (lv_at hl 0 rfl) ?_
  have hPc := hP.sub (ws' := [(h1, .inl (w0, 70, .inl (fun _ => 0))), (h4, .inl (w2, 373, .inl (upd (upd (fun _ => 0) 60 2) 62 2))), (h0, .inr (11, [.int 0, .ref h3, .int 0, .int 0, .int 400, .int 0, .int 0, .int 0, .int 0, .int 0, .int 0, .int 0, .long 0, .int 0, .ref h4, .ref h5, .ref h6, .ref h7, .ref h1, .ref h8, .ref h9, .ref h10, .ref h11, .int 0, .int 0, .int 0, .int 0, .int (-1), .int (-1), .long 0, .long 0, .ref h12, .ref h13, .int 0, .int (-1), .int 0, .ref h14, .int 0, .ref h15, .ref h2, .int 0, .int 0, .ref h16, .int 0, .int 0, .int 0, .int 0]))]) [0, 2, 3] rfl
  have hDc := hD.sub (ws' := [(h1, .inl (w0, 70, .inl (fun _ => 0))), (h4, .inl (w2, 373, .inl (upd (upd (fun _ => 0) 60 2) 62 2))), (h0, .inr (11, [.int 0, .ref h3, .int 0, .int 0, .int 400, .int 0, .int 0, .int 0, .int 0, .int 0, .int 0, .int 0, .long 0, .int 0, .ref h4, .ref h5, .ref h6, .ref h7, .ref h1, .ref h8, .ref h9, .ref h10, .ref h11, .int 0, .int 0, .int 0, .int 0, .int (-1), .int (-1), .long 0, .long 0, .ref h12, .ref h13, .int 0, .int (-1), .int 0, .ref h14, .int 0, .ref h15, .ref h2, .int 0, .int 0, .ref h16, .int 0, .int 0, .int 0, .int 0]))]) [0, 2, 3] (by decide) rfl
  have hKc := hK.sub (tys' := [(w2, .int), (w0, .int)]) [0, 1] rfl
  have hFc := va_free (wc := [(h1, .inl (w0, 70, .inl (fun _ => 0))), (h4, .inl (w2, 373, .inl (upd (upd (fun _ => 0) 60 2) 62 2))), (h0, .inr (11, [.int 0, .ref h3, .int 0, .int 0, .int 400, .int 0, .int 0, .int 0, .int 0, .int 0, .int 0, .int 0, .long 0, .int 0, .ref h4, .ref h5, .ref h6, .ref h7, .ref h1, .ref h8, .ref h9, .ref h10, .ref h11, .int 0, .int 0, .int 0, .int 0, .int (-1), .int (-1), .long 0, .long 0, .ref h12, .ref h13, .int 0, .int (-1), .int 0, .ref h14, .int 0, .ref h15, .ref h2, .int 0, .int 0, .ref h16, .int 0, .int 0, .int 0, .int 0]))]) hD hS hA [0, 2, 3] rfl
  refine va_callv (va_runV (As := []) (rest := []) ⟨hx, hb, hml, hown, hts⟩ (k_X12_layAside l dC dI ad h0 h1 h4 h3 h5 h6 h7 h8 h9 h10 h11 h12 h13 h14 h15 h2 h16 w0 w2 H.size) (cwV 0 hts gX12_book_X12_layAside rfl rfl rfl (by decide +kernel) ⟨Nat.le_of_ble_eq_true rfl, Nat.le_of_ble_eq_true rfl⟩) ⟨fun a U g mk q => ⟨q.1, CP.blind q.2⟩, va_recv hKc hPc (ci := 11) (q0 := 2) rfl rfl, fun U hU hW => ⟨rfl, CP.of hPc hKc hDc hE hS hFc hU hW⟩⟩ rfl rfl hl.1 rfl (lv_room (Nat.le_of_ble_eq_true rfl)) dX12_book_66 ⟨Nat.le_of_ble_eq_true rfl, Nat.le_of_ble_eq_true rfl⟩) hS (fun q _ h => hFc q h) hFc (fun u t H1 locs ht hvm hw hB hz1 hk1 hS => ?_)
  obtain ⟨f4, hP1, hK1, hD1⟩ := hB
  rw [ht] at hP1
  obtain ⟨hP, hD⟩ := va_join (wr := [(h2, .inl (w1, 4, .inl (fun _ => 0)))]) (w1 := [(h1, .inl (w0, 70, .inl f4)), (h4, .inl (w2, 373, .inl (upd (upd (fun _ => 0) 60 2) 62 2))), (h0, .inr (11, [.int 0, .ref h3, .int 0, .int 0, .int 400, .int 0, .int 0, .int 0, .int 0, .int 0, .int 0, .int 0, .long 0, .int 0, .ref h4, .ref h5, .ref h6, .ref h7, .ref h1, .ref h8, .ref h9, .ref h10, .ref h11, .int 0, .int 0, .int 0, .int 0, .int (-1), .int (-1), .long 0, .long 0, .ref h12, .ref h13, .int 0, .int (-1), .int 0, .ref h14, .int 0, .ref h15, .ref h2, .int 0, .int 0, .ref h16, .int 0, .int 0, .int 0, .int 0]))]) hP hD [0, 2, 3] [1] rfl rfl (by decide) (by decide) hk1 hFc hP1 hD1
  generalize H1 = H at hP hS ⊢
  clear hPc hDc hKc hFc hP1 hD1 hK1 hk1 hz1
  have hP : va_P (dC, dI) vwCl [(h2, .inl (w1, 4, .inl (fun _ => 0))), (h1, .inl (w0, 70, .inl f4)), (h4, .inl (w2, 373, .inl (upd (upd (fun _ => 0) 60 2) 62 2))), (h0, .inr (11, [.int 0, .ref h3, .int 0, .int 0, .int 400, .int 0, .int 0, .int 0, .int 0, .int 0, .int 0, .int 0, .long 0, .int 0, .ref h4, .ref h5, .ref h6, .ref h7, .ref h1, .ref h8, .ref h9, .ref h10, .ref h11, .int 0, .int 0, .int 0, .int 0, .int (-1), .int (-1), .long 0, .long 0, .ref h12, .ref h13, .int 0, .int (-1), .int 0, .ref h14, .int 0, .ref h15, .ref h2, .int 0, .int 0, .ref h16, .int 0, .int 0, .int 0, .int 0]))] H := hP
  have hD : va_D A [(h2, .inl (w1, 4, .inl (fun _ => 0))), (h1, .inl (w0, 70, .inl f4)), (h4, .inl (w2, 373, .inl (upd (upd (fun _ => 0) 60 2) 62 2))), (h0, .inr (11, [.int 0, .ref h3, .int 0, .int 0, .int 400, .int 0, .int 0, .int 0, .int 0, .int 0, .int 0, .int 0, .long 0, .int 0, .ref h4, .ref h5, .ref h6, .ref h7, .ref h1, .ref h8, .ref h9, .ref h10, .ref h11, .int 0, .int 0, .int 0, .int 0, .int (-1), .int (-1), .long 0, .long 0, .ref h12, .ref h13, .int 0, .int (-1), .int 0, .ref h14, .int 0, .ref h15, .ref h2, .int 0, .int 0, .ref h16, .int 0, .int 0, .int 0, .int 0]))] := hD
  refine lv_iconst (v := 0) hx hb dX12_book_69 (by decide) ?_
  refine lv_istore_n (lv' := [(2, .int 0), (0, .ref h0), (1, .int 0)]) hx hb dX12_book_70 rfl hl (by decide) rfl (fun ls hl => ?_)
  refine lv_iconst (v := 0) hx hb dX12_book_71 (by decide) ?_
  refine lv_istore_n (lv' := [(3, .int 0), (2, .int 0), (0, .ref h0), (1, .int 0)]) hx hb dX12_book_72 rfl hl (by decide) rfl (fun ls hl => ?_)
  refine lv_iload_n hx hb dX12_book_73 rfl (lv_at hl 1 rfl) ?_
  refine lv_aload_n hx hb dX12_book_74 rfl (lv_at hl 2 rfl) ?_
  refine va_get (D := (dC, dI)) (ci := 11) (v := .int 0) (C := RX12) (T := TX12) (N := 47) hx hb hts ii_X12_book_X12 hown hK hP 3 rfl rfl 40 (by decide) (hts _ mm_X12_book_2) (fun _ h9 => h9) rfl dX12_book_75 ?_
  refine lv_icmp_ge (tgt := 103) hx hb dX12_book_78 (by decide) (fun _ => ?_) (fun c5 => absurd (by decide) c5)
  refine lv_aload_n hx hb dX12_book_103 rfl (lv_at hl 2 rfl) ?_
  refine va_get (D := (dC, dI)) (ci := 11) (v := .ref h2) (C := RX12) (T := TX12) (N := 47) hx hb hts ii_X12_book_X12 hown hK hP 3 rfl rfl 39 (by decide) (hts _ mm_X12_book_5) (fun _ h9 => h9) rfl dX12_book_104 ?_
  refine lv_iconst (v := 0) hx hb dX12_book_107 (by decide) ?_
  refine lv_iload_n hx hb dX12_book_108 rfl (lv_at hl 0 rfl) ?_
  refine va_iast hx hb hK hP hD hS 0 2 rfl rfl (i := 0) (zz_in (by decide)) dX12_book_109 (fun H locs hP hD hS => ?_)
  rw [zz_sw (i := 0) rfl] at hP hD
  have hP : va_P (dC, dI) vwCl [(h2, .inl (w1, 4, .inl (fun _ => 0))), (h1, .inl (w0, 70, .inl f4)), (h4, .inl (w2, 373, .inl (upd (upd (fun _ => 0) 60 2) 62 2))), (h0, .inr (11, [.int 0, .ref h3, .int 0, .int 0, .int 400, .int 0, .int 0, .int 0, .int 0, .int 0, .int 0, .int 0, .long 0, .int 0, .ref h4, .ref h5, .ref h6, .ref h7, .ref h1, .ref h8, .ref h9, .ref h10, .ref h11, .int 0, .int 0, .int 0, .int 0, .int (-1), .int (-1), .long 0, .long 0, .ref h12, .ref h13, .int 0, .int (-1), .int 0, .ref h14, .int 0, .ref h15, .ref h2, .int 0, .int 0, .ref h16, .int 0, .int 0, .int 0, .int 0]))] H := hP
  have hD : va_D A [(h2, .inl (w1, 4, .inl (fun _ => 0))), (h1, .inl (w0, 70, .inl f4)), (h4, .inl (w2, 373, .inl (upd (upd (fun _ => 0) 60 2) 62 2))), (h0, .inr (11, [.int 0, .ref h3, .int 0, .int 0, .int 400, .int 0, .int 0, .int 0, .int 0, .int 0, .int 0, .int 0, .long 0, .int 0, .ref h4, .ref h5, .ref h6, .ref h7, .ref h1, .ref h8, .ref h9, .ref h10, .ref h11, .int 0, .int 0, .int 0, .int 0, .int (-1), .int (-1), .long 0, .long 0, .ref h12, .ref h13, .int 0, .int (-1), .int 0, .ref h14, .int 0, .ref h15, .ref h2, .int 0, .int 0, .ref h16, .int 0, .int 0, .int 0, .int 0]))] := hD
  refine lv_aload_n hx hb dX12_book_110 rfl (lv_at hl 2 rfl) ?_
  refine va_get (D := (dC, dI)) (ci := 11) (v := .ref h2) (C := RX12) (T := TX12) (N := 47) hx hb hts ii_X12_book_X12 hown hK hP 3 rfl rfl 39 (by decide) (hts _ mm_X12_book_5) (fun _ h9 => h9) rfl dX12_book_111 ?_
  refine lv_iconst (v := 1) hx hb dX12_book_114 (by decide) ?_
  refine lv_iload_n hx hb dX12_book_115 rfl (lv_at hl 1 rfl) ?_
  refine va_iast hx hb hK hP hD hS 0 2 rfl rfl (i := 1) (zz_in (by decide)) dX12_book_116 (fun H locs hP hD hS => ?_)
  rw [zz_sw (i := 1) rfl] at hP hD
  have hP : va_P (dC, dI) vwCl [(h2, .inl (w1, 4, .inl (fun _ => 0))), (h1, .inl (w0, 70, .inl f4)), (h4, .inl (w2, 373, .inl (upd (upd (fun _ => 0) 60 2) 62 2))), (h0, .inr (11, [.int 0, .ref h3, .int 0, .int 0, .int 400, .int 0, .int 0, .int 0, .int 0, .int 0, .int 0, .int 0, .long 0, .int 0, .ref h4, .ref h5, .ref h6, .ref h7, .ref h1, .ref h8, .ref h9, .ref h10, .ref h11, .int 0, .int 0, .int 0, .int 0, .int (-1), .int (-1), .long 0, .long 0, .ref h12, .ref h13, .int 0, .int (-1), .int 0, .ref h14, .int 0, .ref h15, .ref h2, .int 0, .int 0, .ref h16, .int 0, .int 0, .int 0, .int 0]))] H := hP
  have hD : va_D A [(h2, .inl (w1, 4, .inl (fun _ => 0))), (h1, .inl (w0, 70, .inl f4)), (h4, .inl (w2, 373, .inl (upd (upd (fun _ => 0) 60 2) 62 2))), (h0, .inr (11, [.int 0, .ref h3, .int 0, .int 0, .int 400, .int 0, .int 0, .int 0, .int 0, .int 0, .int 0, .int 0, .long 0, .int 0, .ref h4, .ref h5, .ref h6, .ref h7, .ref h1, .ref h8, .ref h9, .ref h10, .ref h11, .int 0, .int 0, .int 0, .int 0, .int (-1), .int (-1), .long 0, .long 0, .ref h12, .ref h13, .int 0, .int (-1), .int 0, .ref h14, .int 0, .ref h15, .ref h2, .int 0, .int 0, .ref h16, .int 0, .int 0, .int 0, .int 0]))] := hD
  refine lv_aload_n hx hb dX12_book_117 rfl (lv_at hl 2 rfl) ?_
  refine va_get (D := (dC, dI)) (ci := 11) (v := .ref h2) (C := RX12) (T := TX12) (N := 47) hx hb hts ii_X12_book_X12 hown hK hP 3 rfl rfl 39 (by decide) (hts _ mm_X12_book_5) (fun _ h9 => h9) rfl dX12_book_118 ?_
  refine lv_iconst (v := 2) hx hb dX12_book_121 (by decide) ?_
  refine lv_aload_n hx hb dX12_book_122 rfl (lv_at hl 2 rfl) ?_
  refine va_get (D := (dC, dI)) (ci := 11) (v := .ref h4) (C := RX12) (T := TX12) (N := 47) hx hb hts ii_X12_book_X12 hown hK hP 3 rfl rfl 14 (by decide) (hts _ mm_X12_book_6) (fun _ h9 => h9) rfl dX12_book_123 ?_
  refine lv_bipush (v := 61) hx hb dX12_book_126 (by decide) ?_
  refine va_iald hx hb hK hP 2 0 rfl rfl (i := 61) (zz_in (by decide)) dX12_book_128 ?_
  refine zz_top (v := 0) (by rfl) ?_
  refine va_iast hx hb hK hP hD hS 0 2 rfl rfl (i := 2) (zz_in (by decide)) dX12_book_129 (fun H locs hP hD hS => ?_)
  rw [zz_sw (i := 2) rfl] at hP hD
  have hP : va_P (dC, dI) vwCl [(h2, .inl (w1, 4, .inl (fun _ => 0))), (h1, .inl (w0, 70, .inl f4)), (h4, .inl (w2, 373, .inl (upd (upd (fun _ => 0) 60 2) 62 2))), (h0, .inr (11, [.int 0, .ref h3, .int 0, .int 0, .int 400, .int 0, .int 0, .int 0, .int 0, .int 0, .int 0, .int 0, .long 0, .int 0, .ref h4, .ref h5, .ref h6, .ref h7, .ref h1, .ref h8, .ref h9, .ref h10, .ref h11, .int 0, .int 0, .int 0, .int 0, .int (-1), .int (-1), .long 0, .long 0, .ref h12, .ref h13, .int 0, .int (-1), .int 0, .ref h14, .int 0, .ref h15, .ref h2, .int 0, .int 0, .ref h16, .int 0, .int 0, .int 0, .int 0]))] H := hP
  have hD : va_D A [(h2, .inl (w1, 4, .inl (fun _ => 0))), (h1, .inl (w0, 70, .inl f4)), (h4, .inl (w2, 373, .inl (upd (upd (fun _ => 0) 60 2) 62 2))), (h0, .inr (11, [.int 0, .ref h3, .int 0, .int 0, .int 400, .int 0, .int 0, .int 0, .int 0, .int 0, .int 0, .int 0, .long 0, .int 0, .ref h4, .ref h5, .ref h6, .ref h7, .ref h1, .ref h8, .ref h9, .ref h10, .ref h11, .int 0, .int 0, .int 0, .int 0, .int (-1), .int (-1), .long 0, .long 0, .ref h12, .ref h13, .int 0, .int (-1), .int 0, .ref h14, .int 0, .ref h15, .ref h2, .int 0, .int 0, .ref h16, .int 0, .int 0, .int 0, .int 0]))] := hD
  refine lv_aload_n hx hb dX12_book_130 rfl (lv_at hl 2 rfl) ?_
  refine va_get (D := (dC, dI)) (ci := 11) (v := .ref h2) (C := RX12) (T := TX12) (N := 47) hx hb hts ii_X12_book_X12 hown hK hP 3 rfl rfl 39 (by decide) (hts _ mm_X12_book_5) (fun _ h9 => h9) rfl dX12_book_131 ?_
  refine lv_iconst (v := 3) hx hb dX12_book_134 (by decide) ?_
  refine lv_aload_n hx hb dX12_book_135 rfl (lv_at hl 2 rfl) ?_
  have hPc := hP.sub (ws' := [(h4, .inl (w2, 373, .inl (upd (upd (fun _ => 0) 60 2) 62 2))), (h0, .inr (11, [.int 0, .ref h3, .int 0, .int 0, .int 400, .int 0, .int 0, .int 0, .int 0, .int 0, .int 0, .int 0, .long 0, .int 0, .ref h4, .ref h5, .ref h6, .ref h7, .ref h1, .ref h8, .ref h9, .ref h10, .ref h11, .int 0, .int 0, .int 0, .int 0, .int (-1), .int (-1), .long 0, .long 0, .ref h12, .ref h13, .int 0, .int (-1), .int 0, .ref h14, .int 0, .ref h15, .ref h2, .int 0, .int 0, .ref h16, .int 0, .int 0, .int 0, .int 0]))]) [2, 3] rfl
  have hDc := hD.sub (ws' := [(h4, .inl (w2, 373, .inl (upd (upd (fun _ => 0) 60 2) 62 2))), (h0, .inr (11, [.int 0, .ref h3, .int 0, .int 0, .int 400, .int 0, .int 0, .int 0, .int 0, .int 0, .int 0, .int 0, .long 0, .int 0, .ref h4, .ref h5, .ref h6, .ref h7, .ref h1, .ref h8, .ref h9, .ref h10, .ref h11, .int 0, .int 0, .int 0, .int 0, .int (-1), .int (-1), .long 0, .long 0, .ref h12, .ref h13, .int 0, .int (-1), .int 0, .ref h14, .int 0, .ref h15, .ref h2, .int 0, .int 0, .ref h16, .int 0, .int 0, .int 0, .int 0]))]) [2, 3] (by decide) rfl
  have hKc := hK.sub (tys' := [(w2, .int)]) [0] rfl
  have hFc := va_free (wc := [(h4, .inl (w2, 373, .inl (upd (upd (fun _ => 0) 60 2) 62 2))), (h0, .inr (11, [.int 0, .ref h3, .int 0, .int 0, .int 400, .int 0, .int 0, .int 0, .int 0, .int 0, .int 0, .int 0, .long 0, .int 0, .ref h4, .ref h5, .ref h6, .ref h7, .ref h1, .ref h8, .ref h9, .ref h10, .ref h11, .int 0, .int 0, .int 0, .int 0, .int (-1), .int (-1), .long 0, .long 0, .ref h12, .ref h13, .int 0, .int (-1), .int 0, .ref h14, .int 0, .ref h15, .ref h2, .int 0, .int 0, .ref h16, .int 0, .int 0, .int 0, .int 0]))]) hD hS hA [2, 3] rfl
  refine va_calli (va_runV (As := []) (rest := [.int 3, .ref h2]) ⟨hx, hb, hml, hown, hts⟩ (k_X12_awaySet_1 l dC dI ad h0 h4 h3 h5 h6 h7 h1 h8 h9 h10 h11 h12 h13 h14 h15 h2 h16 w2 H.size) (cwV 0 hts gX12_book_X12_awaySet rfl rfl rfl (by decide +kernel) ⟨Nat.le_of_ble_eq_true rfl, Nat.le_of_ble_eq_true rfl⟩) ⟨fun a U g mk q => ⟨q.1, CP.blind q.2⟩, va_recv hKc hPc (ci := 11) (q0 := 1) rfl rfl, fun U hU hW => ⟨rfl, CP.of hPc hKc hDc hE hS hFc hU hW⟩⟩ rfl rfl hl.1 rfl (lv_room (Nat.le_of_ble_eq_true rfl)) dX12_book_136 ⟨Nat.le_of_ble_eq_true rfl, Nat.le_of_ble_eq_true rfl⟩) hS (fun q _ h => hFc q h) hFc (fun r6 u t H1 locs ht hvm hw hB hz1 hk1 hS => ?_)
  obtain ⟨hP1, hK1, hD1⟩ := hB
  rw [ht] at hP1
  obtain ⟨hP, hD⟩ := va_join (wr := [(h2, .inl (w1, 4, .inl (fun _ => 0))), (h1, .inl (w0, 70, .inl f4))]) (w1 := [(h4, .inl (w2, 373, .inl (upd (upd (fun _ => 0) 60 2) 62 2))), (h0, .inr (11, [.int 0, .ref h3, .int 0, .int 0, .int 400, .int 0, .int 0, .int 0, .int 0, .int 0, .int 0, .int 0, .long 0, .int 0, .ref h4, .ref h5, .ref h6, .ref h7, .ref h1, .ref h8, .ref h9, .ref h10, .ref h11, .int 0, .int 0, .int 0, .int 0, .int (-1), .int (-1), .long 0, .long 0, .ref h12, .ref h13, .int 0, .int (-1), .int 0, .ref h14, .int 0, .ref h15, .ref h2, .int 0, .int 0, .ref h16, .int 0, .int 0, .int 0, .int 0]))]) hP hD [2, 3] [0, 1] rfl rfl (by decide) (by decide) hk1 hFc hP1 hD1
  generalize H1 = H at hP hS ⊢
  clear hPc hDc hKc hFc hP1 hD1 hK1 hk1 hz1
  have hP : va_P (dC, dI) vwCl [(h2, .inl (w1, 4, .inl (fun _ => 0))), (h1, .inl (w0, 70, .inl f4)), (h4, .inl (w2, 373, .inl (upd (upd (fun _ => 0) 60 2) 62 2))), (h0, .inr (11, [.int 0, .ref h3, .int 0, .int 0, .int 400, .int 0, .int 0, .int 0, .int 0, .int 0, .int 0, .int 0, .long 0, .int 0, .ref h4, .ref h5, .ref h6, .ref h7, .ref h1, .ref h8, .ref h9, .ref h10, .ref h11, .int 0, .int 0, .int 0, .int 0, .int (-1), .int (-1), .long 0, .long 0, .ref h12, .ref h13, .int 0, .int (-1), .int 0, .ref h14, .int 0, .ref h15, .ref h2, .int 0, .int 0, .ref h16, .int 0, .int 0, .int 0, .int 0]))] H := hP
  have hD : va_D A [(h2, .inl (w1, 4, .inl (fun _ => 0))), (h1, .inl (w0, 70, .inl f4)), (h4, .inl (w2, 373, .inl (upd (upd (fun _ => 0) 60 2) 62 2))), (h0, .inr (11, [.int 0, .ref h3, .int 0, .int 0, .int 400, .int 0, .int 0, .int 0, .int 0, .int 0, .int 0, .int 0, .long 0, .int 0, .ref h4, .ref h5, .ref h6, .ref h7, .ref h1, .ref h8, .ref h9, .ref h10, .ref h11, .int 0, .int 0, .int 0, .int 0, .int (-1), .int (-1), .long 0, .long 0, .ref h12, .ref h13, .int 0, .int (-1), .int 0, .ref h14, .int 0, .ref h15, .ref h2, .int 0, .int 0, .ref h16, .int 0, .int 0, .int 0, .int 0]))] := hD
  refine zz_top (v := 0) hw ?_
  refine va_iast hx hb hK hP hD hS 0 2 rfl rfl (i := 3) (zz_in (by decide)) dX12_book_139 (fun H locs hP hD hS => ?_)
  rw [zz_sw (i := 3) rfl] at hP hD
  have hP : va_P (dC, dI) vwCl [(h2, .inl (w1, 4, .inl (fun _ => 0))), (h1, .inl (w0, 70, .inl f4)), (h4, .inl (w2, 373, .inl (upd (upd (fun _ => 0) 60 2) 62 2))), (h0, .inr (11, [.int 0, .ref h3, .int 0, .int 0, .int 400, .int 0, .int 0, .int 0, .int 0, .int 0, .int 0, .int 0, .long 0, .int 0, .ref h4, .ref h5, .ref h6, .ref h7, .ref h1, .ref h8, .ref h9, .ref h10, .ref h11, .int 0, .int 0, .int 0, .int 0, .int (-1), .int (-1), .long 0, .long 0, .ref h12, .ref h13, .int 0, .int (-1), .int 0, .ref h14, .int 0, .ref h15, .ref h2, .int 0, .int 0, .ref h16, .int 0, .int 0, .int 0, .int 0]))] H := hP
  have hD : va_D A [(h2, .inl (w1, 4, .inl (fun _ => 0))), (h1, .inl (w0, 70, .inl f4)), (h4, .inl (w2, 373, .inl (upd (upd (fun _ => 0) 60 2) 62 2))), (h0, .inr (11, [.int 0, .ref h3, .int 0, .int 0, .int 400, .int 0, .int 0, .int 0, .int 0, .int 0, .int 0, .int 0, .long 0, .int 0, .ref h4, .ref h5, .ref h6, .ref h7, .ref h1, .ref h8, .ref h9, .ref h10, .ref h11, .int 0, .int 0, .int 0, .int 0, .int (-1), .int (-1), .long 0, .long 0, .ref h12, .ref h13, .int 0, .int (-1), .int 0, .ref h14, .int 0, .ref h15, .ref h2, .int 0, .int 0, .ref h16, .int 0, .int 0, .int 0, .int 0]))] := hD
  refine lv_aload_n hx hb dX12_book_140 rfl (lv_at hl 2 rfl) ?_
  refine lv_iconst (v := 1) hx hb dX12_book_141 (by decide) ?_
  refine va_put (D := (dC, dI)) (ci := 11) (v := .int 1) (ty := .boolean) (C := RX12) (T := TX12) (N := 47) hx hb hts ii_X12_book_X12 tyX12 tyX12_ok nmX12 hown hK hP hD hS 3 rfl rfl 41 (by decide) (hts _ mm_X12_book_7) (fun _ h9 => h9) rfl (by decide +kernel) rfl rfl (Nat.le_of_ble_eq_true rfl) dX12_book_142 (fun H locs hP hD hS => ?_)
  have hP : va_P (dC, dI) vwCl [(h2, .inl (w1, 4, .inl (fun _ => 0))), (h1, .inl (w0, 70, .inl f4)), (h4, .inl (w2, 373, .inl (upd (upd (fun _ => 0) 60 2) 62 2))), (h0, .inr (11, [.int 0, .ref h3, .int 0, .int 0, .int 400, .int 0, .int 0, .int 0, .int 0, .int 0, .int 0, .int 0, .long 0, .int 0, .ref h4, .ref h5, .ref h6, .ref h7, .ref h1, .ref h8, .ref h9, .ref h10, .ref h11, .int 0, .int 0, .int 0, .int 0, .int (-1), .int (-1), .long 0, .long 0, .ref h12, .ref h13, .int 0, .int (-1), .int 0, .ref h14, .int 0, .ref h15, .ref h2, .int 0, .int 1, .ref h16, .int 0, .int 0, .int 0, .int 0]))] H := hP
  have hD : va_D A [(h2, .inl (w1, 4, .inl (fun _ => 0))), (h1, .inl (w0, 70, .inl f4)), (h4, .inl (w2, 373, .inl (upd (upd (fun _ => 0) 60 2) 62 2))), (h0, .inr (11, [.int 0, .ref h3, .int 0, .int 0, .int 400, .int 0, .int 0, .int 0, .int 0, .int 0, .int 0, .int 0, .long 0, .int 0, .ref h4, .ref h5, .ref h6, .ref h7, .ref h1, .ref h8, .ref h9, .ref h10, .ref h11, .int 0, .int 0, .int 0, .int 0, .int (-1), .int (-1), .long 0, .long 0, .ref h12, .ref h13, .int 0, .int (-1), .int 0, .ref h14, .int 0, .ref h15, .ref h2, .int 0, .int 1, .ref h16, .int 0, .int 0, .int 0, .int 0]))] := hD
  refine lv_aload_n hx hb dX12_book_145 rfl (lv_at hl 2 rfl) ?_
  refine lv_iload_n hx hb dX12_book_146 rfl (lv_at hl 3 rfl) ?_
  refine lv_iconst (v := 1) hx hb dX12_book_147 (by decide) ?_
  refine lv_icmp_ne (tgt := 159) hx hb dX12_book_148 (by decide) (fun _ => ?_) (fun c7 => absurd (by decide) c7)
  refine lv_iconst (v := 0) hx hb dX12_book_159 (by decide) ?_
  have hPc := hP.sub (ws' := [(h1, .inl (w0, 70, .inl f4)), (h4, .inl (w2, 373, .inl (upd (upd (fun _ => 0) 60 2) 62 2))), (h0, .inr (11, [.int 0, .ref h3, .int 0, .int 0, .int 400, .int 0, .int 0, .int 0, .int 0, .int 0, .int 0, .int 0, .long 0, .int 0, .ref h4, .ref h5, .ref h6, .ref h7, .ref h1, .ref h8, .ref h9, .ref h10, .ref h11, .int 0, .int 0, .int 0, .int 0, .int (-1), .int (-1), .long 0, .long 0, .ref h12, .ref h13, .int 0, .int (-1), .int 0, .ref h14, .int 0, .ref h15, .ref h2, .int 0, .int 1, .ref h16, .int 0, .int 0, .int 0, .int 0]))]) [1, 2, 3] rfl
  have hDc := hD.sub (ws' := [(h1, .inl (w0, 70, .inl f4)), (h4, .inl (w2, 373, .inl (upd (upd (fun _ => 0) 60 2) 62 2))), (h0, .inr (11, [.int 0, .ref h3, .int 0, .int 0, .int 400, .int 0, .int 0, .int 0, .int 0, .int 0, .int 0, .int 0, .long 0, .int 0, .ref h4, .ref h5, .ref h6, .ref h7, .ref h1, .ref h8, .ref h9, .ref h10, .ref h11, .int 0, .int 0, .int 0, .int 0, .int (-1), .int (-1), .long 0, .long 0, .ref h12, .ref h13, .int 0, .int (-1), .int 0, .ref h14, .int 0, .ref h15, .ref h2, .int 0, .int 1, .ref h16, .int 0, .int 0, .int 0, .int 0]))]) [1, 2, 3] (by decide) rfl
  have hKc := hK.sub (tys' := [(w2, .int), (w0, .int)]) [0, 1] rfl
  have hFc := va_free (wc := [(h1, .inl (w0, 70, .inl f4)), (h4, .inl (w2, 373, .inl (upd (upd (fun _ => 0) 60 2) 62 2))), (h0, .inr (11, [.int 0, .ref h3, .int 0, .int 0, .int 400, .int 0, .int 0, .int 0, .int 0, .int 0, .int 0, .int 0, .long 0, .int 0, .ref h4, .ref h5, .ref h6, .ref h7, .ref h1, .ref h8, .ref h9, .ref h10, .ref h11, .int 0, .int 0, .int 0, .int 0, .int (-1), .int (-1), .long 0, .long 0, .ref h12, .ref h13, .int 0, .int (-1), .int 0, .ref h14, .int 0, .ref h15, .ref h2, .int 0, .int 1, .ref h16, .int 0, .int 0, .int 0, .int 0]))]) hD hS hA [1, 2, 3] rfl
  refine va_callv (va_runV (As := [.int 0]) (rest := []) ⟨hx, hb, hml, hown, hts⟩ (k_X12_stay l dC dI ad h0 h1 h4 h3 h5 h6 h7 h8 h9 h10 h11 h12 h13 h14 h15 h2 h16 f4 w0 w2 H.size) (cwV 1 hts gX12_book_X12_stay rfl rfl rfl (by decide +kernel) ⟨Nat.le_of_ble_eq_true rfl, Nat.le_of_ble_eq_true rfl⟩) ⟨fun a U g mk q => ⟨q.1, CP.blind q.2⟩, va_recv hKc hPc (ci := 11) (q0 := 2) rfl rfl, fun U hU hW => ⟨rfl, CP.of hPc hKc hDc hE hS hFc hU hW⟩⟩ rfl rfl hl.1 rfl (lv_room (Nat.le_of_ble_eq_true rfl)) dX12_book_160 ⟨Nat.le_of_ble_eq_true rfl, Nat.le_of_ble_eq_true rfl⟩) hS (fun q _ h => hFc q h) hFc (fun u t H1 locs ht hvm hw hB hz1 hk1 hS => ?_)
  obtain ⟨f8, f9, hP1, hK1, hD1⟩ := hB
  rw [ht] at hP1
  obtain ⟨hP, hD⟩ := va_join (wr := [(h2, .inl (w1, 4, .inl (fun _ => 0)))]) (w1 := [(h1, .inl (w0, 70, .inl f8)), (h4, .inl (w2, 373, .inl f9)), (h0, .inr (11, [.int 0, .ref h3, .int 0, .int 0, .int 400, .int 0, .int 0, .int 0, .int 0, .int 0, .int 0, .int 0, .long 0, .int 0, .ref h4, .ref h5, .ref h6, .ref h7, .ref h1, .ref h8, .ref h9, .ref h10, .ref h11, .int 0, .int 0, .int 0, .int 0, .int (-1), .int (-1), .long 0, .long 0, .ref h12, .ref h13, .int 0, .int (-1), .int 0, .ref h14, .int 0, .ref h15, .ref h2, .int 0, .int 1, .ref h16, .int 0, .int 0, .int 0, .int 0]))]) hP hD [1, 2, 3] [0] rfl rfl (by decide) (by decide) hk1 hFc hP1 hD1
  generalize H1 = H at hP hS ⊢
  clear hPc hDc hKc hFc hP1 hD1 hK1 hk1 hz1
  have hP : va_P (dC, dI) vwCl [(h2, .inl (w1, 4, .inl (fun _ => 0))), (h1, .inl (w0, 70, .inl f8)), (h4, .inl (w2, 373, .inl f9)), (h0, .inr (11, [.int 0, .ref h3, .int 0, .int 0, .int 400, .int 0, .int 0, .int 0, .int 0, .int 0, .int 0, .int 0, .long 0, .int 0, .ref h4, .ref h5, .ref h6, .ref h7, .ref h1, .ref h8, .ref h9, .ref h10, .ref h11, .int 0, .int 0, .int 0, .int 0, .int (-1), .int (-1), .long 0, .long 0, .ref h12, .ref h13, .int 0, .int (-1), .int 0, .ref h14, .int 0, .ref h15, .ref h2, .int 0, .int 1, .ref h16, .int 0, .int 0, .int 0, .int 0]))] H := hP
  have hD : va_D A [(h2, .inl (w1, 4, .inl (fun _ => 0))), (h1, .inl (w0, 70, .inl f8)), (h4, .inl (w2, 373, .inl f9)), (h0, .inr (11, [.int 0, .ref h3, .int 0, .int 0, .int 400, .int 0, .int 0, .int 0, .int 0, .int 0, .int 0, .int 0, .long 0, .int 0, .ref h4, .ref h5, .ref h6, .ref h7, .ref h1, .ref h8, .ref h9, .ref h10, .ref h11, .int 0, .int 0, .int 0, .int 0, .int (-1), .int (-1), .long 0, .long 0, .ref h12, .ref h13, .int 0, .int (-1), .int 0, .ref h14, .int 0, .ref h15, .ref h2, .int 0, .int 1, .ref h16, .int 0, .int 0, .int 0, .int 0]))] := hD
  refine lv_iload_n hx hb dX12_book_163 rfl (lv_at hl 0 rfl) ?_
  refine lv_if_ne (tgt := 171) hx hb dX12_book_164 (by decide) (fun c10 => absurd c10 (by decide)) (fun _ => ?_)
  refine lv_iconst (v := (-1)) hx hb dX12_book_167 (by decide) ?_
  refine lv_goto (tgt := 172) hx hb dX12_book_168 (by decide) ?_
  have hP9 := hP.sub (ws' := []) [] rfl
  have hD9 := hD.sub (ws' := []) [] (by decide) rfl
  have hK9 := hK.sub (tys' := []) [] rfl
  refine W.widen (k := 0) (n := 0) (Nat.le_of_ble_eq_true rfl) (Nat.le_of_ble_eq_true rfl) ?_
  exact W.iret (v := (-1)) hx hb hr (fun t ht hW => ⟨⟨(-1), (), rfl, rfl, by rw [ht]; exact hP9, va_K.moved hW.alike hK9, hD9⟩, hS.F ht⟩) hS.2.2 dX12_book_172
set_option maxHeartbeats 4000000 in
set_option maxRecDepth 100000 in
theorem k_X12_isIn_10 (l : Launch) (dC : Nat → ClassId) (dI : Nat → Nat → Nat) (ad : Nat → Nat) (sz : Nat) : Met l yX12_isIn wsX12_isIn ({ frames := 0, cells := 0, slots := 0, locals := 0 }) (va_Pc [.int 1, .int 0, .int 1] (CP (dC, dI) [] [] sz ad)) (va_Qi (fun (r : Int32) (_ : Unit) => r = 1) (fun (_ : Unit) (t : State) => CQ (dC, dI) [] [] (va_A [] sz) t) (va_A [] sz)) 0 0 (va_A [] sz) := by
  refine Met.ofW (cc := cX12_isIn) (maxL := 3) (ret := (some .boolean)) (by decide) rfl ?_
  intro p e s m args below meth c s₁ B hml hv
  obtain ⟨rfl, hsz, hP, hK, hD0, hE⟩ := hv
  have hx := B.exec
  have hb := B.bytes
  have hr := B.returns
  have hts := atoms_spec (ws := wsX12_isIn) B.pre
  have hown : s.vm.findClass RX12 = some m.cls := findClass_of_methodNamed B.named
  have hlocks := B.notSynchronized
  subst hsz
  have hD := hD0.self (sz := s.heap.size)
  generalize hAe : va_A [] s.heap.size = A at hD hE ⊢
  have hA : ∀ q : Nat, s.heap.size ≤ q → A q := fun q h => by rw [← hAe]; exact Or.inr h
  have hS : va_S A s.heap s.heap [] := va_S.rf
  have hl := lv_entry ([.int 1, .int 0, .int 1]) (n := 3) (Nat.le_of_ble_eq_true rfl)
  rw [lg_entry_eq]
  generalize (lg_sl ([.int 1, .int 0, .int 1]) ++ List.replicate (3 - (lg_sl ([.int 1, .int 0, .int 1])).length) Slot.unset).toArray = ls at hl ⊢
  have hl : lv_has ls 3 [(0, .int 1), (1, .int 0), (2, .int 1)] := hl
  refine lv_iload_n hx hb dX12_isIn_0 rfl (lv_at hl 0 rfl) ?_
  refine lv_iload_n hx hb dX12_isIn_1 rfl (lv_at hl 1 rfl) ?_
  refine lv_icmp_lt (tgt := 14) hx hb dX12_isIn_2 (by decide) (fun c1 => absurd c1 (by decide)) (fun _ => ?_)
  refine lv_iload_n hx hb dX12_isIn_5 rfl (lv_at hl 0 rfl) ?_
  refine lv_iload_n hx hb dX12_isIn_6 rfl (lv_at hl 2 rfl) ?_
  refine lv_icmp_gt (tgt := 14) hx hb dX12_isIn_7 (by decide) (fun c2 => absurd c2 (by decide)) (fun _ => ?_)
  refine lv_iconst (v := 1) hx hb dX12_isIn_10 (by decide) ?_
  refine lv_goto (tgt := 15) hx hb dX12_isIn_11 (by decide) ?_
  have hP9 := hP.sub (ws' := []) [] rfl
  have hD9 := hD.sub (ws' := []) [] (by decide) rfl
  have hK9 := hK.sub (tys' := []) [] rfl
  refine W.widen (k := 0) (n := 0) (Nat.le_of_ble_eq_true rfl) (Nat.le_of_ble_eq_true rfl) ?_
  exact W.zret (v := 1) hx hb hr rfl (fun t ht hW => ⟨⟨1, (), rfl, rfl, by rw [ht]; exact hP9, va_K.moved hW.alike hK9, hD9⟩, hS.F ht⟩) hS.2.2 dX12_isIn_15
set_option maxHeartbeats 4000000 in
set_option maxRecDepth 100000 in
theorem k_X12_book_1 (l : Launch) (dC : Nat → ClassId) (dI : Nat → Nat → Nat) (ad : Nat → Nat) (h0 h1 h2 h3 h4 h5 h6 h7 h8 h9 h10 h11 h12 h13 h14 h15 h16 : Nat) (w0 w1 w2 : ClassId) (sz : Nat) : Met l yX12_book wsX12_book ({ frames := 2, cells := 0, slots := 0, locals := 45 }) (va_Pc [.ref h0, .int 1] (CP (dC, dI) [(h1, .inl (w0, 70, .inl (fun _ => 0))), (h2, .inl (w1, 4, .inl (fun _ => 0))), (h0, .inr (11, [.int 0, .ref h3, .int 0, .int 0, .int 0, .int 0, .int 0, .int 0, .int 0, .int 0, .int 0, .int 0, .long 0, .int 0, .ref h4, .ref h5, .ref h6, .ref h7, .ref h1, .ref h8, .ref h9, .ref h10, .ref h11, .int 0, .int 0, .int 0, .int 0, .int (-1), .int (-1), .long 0, .long 0, .ref h12, .ref h13, .int 0, .int (-1), .int 0, .ref h14, .int 0, .ref h15, .ref h2, .int 0, .int 0, .ref h16, .int 0, .int 0, .int 0, .int 0])), (h4, .inl (w2, 373, .inl (upd (upd (fun _ => 0) 60 2) 62 2)))] [(w2, .int), (w0, .int), (w1, .int)] sz ad)) (va_Qi (fun (r : Int32) (_ : Unit) => r = (-1)) (fun (_ : Unit) (t : State) => CQ (dC, dI) [] [] (va_A [(h1, .inl (w0, 70, .inl (fun _ => 0))), (h2, .inl (w1, 4, .inl (fun _ => 0))), (h0, .inr (11, [.int 0, .ref h3, .int 0, .int 0, .int 0, .int 0, .int 0, .int 0, .int 0, .int 0, .int 0, .int 0, .long 0, .int 0, .ref h4, .ref h5, .ref h6, .ref h7, .ref h1, .ref h8, .ref h9, .ref h10, .ref h11, .int 0, .int 0, .int 0, .int 0, .int (-1), .int (-1), .long 0, .long 0, .ref h12, .ref h13, .int 0, .int (-1), .int 0, .ref h14, .int 0, .ref h15, .ref h2, .int 0, .int 0, .ref h16, .int 0, .int 0, .int 0, .int 0])), (h4, .inl (w2, 373, .inl (upd (upd (fun _ => 0) 60 2) 62 2)))] sz) t) (va_A [(h1, .inl (w0, 70, .inl (fun _ => 0))), (h2, .inl (w1, 4, .inl (fun _ => 0))), (h0, .inr (11, [.int 0, .ref h3, .int 0, .int 0, .int 0, .int 0, .int 0, .int 0, .int 0, .int 0, .int 0, .int 0, .long 0, .int 0, .ref h4, .ref h5, .ref h6, .ref h7, .ref h1, .ref h8, .ref h9, .ref h10, .ref h11, .int 0, .int 0, .int 0, .int 0, .int (-1), .int (-1), .long 0, .long 0, .ref h12, .ref h13, .int 0, .int (-1), .int 0, .ref h14, .int 0, .ref h15, .ref h2, .int 0, .int 0, .ref h16, .int 0, .int 0, .int 0, .int 0])), (h4, .inl (w2, 373, .inl (upd (upd (fun _ => 0) 60 2) 62 2)))] sz)) 0 0 (va_A [(h1, .inl (w0, 70, .inl (fun _ => 0))), (h2, .inl (w1, 4, .inl (fun _ => 0))), (h0, .inr (11, [.int 0, .ref h3, .int 0, .int 0, .int 0, .int 0, .int 0, .int 0, .int 0, .int 0, .int 0, .int 0, .long 0, .int 0, .ref h4, .ref h5, .ref h6, .ref h7, .ref h1, .ref h8, .ref h9, .ref h10, .ref h11, .int 0, .int 0, .int 0, .int 0, .int (-1), .int (-1), .long 0, .long 0, .ref h12, .ref h13, .int 0, .int (-1), .int 0, .ref h14, .int 0, .ref h15, .ref h2, .int 0, .int 0, .ref h16, .int 0, .int 0, .int 0, .int 0])), (h4, .inl (w2, 373, .inl (upd (upd (fun _ => 0) 60 2) 62 2)))] sz) := by
  refine Met.ofW (cc := cX12_book) (maxL := 4) (ret := (some .int)) (by decide) rfl ?_
  intro p e s m args below meth c s₁ B hml hv
  obtain ⟨rfl, hsz, hP, hK, hD0, hE⟩ := hv
  have hx := B.exec
  have hb := B.bytes
  have hr := B.returns
  have hts := atoms_spec (ws := wsX12_book) B.pre
  have hown : s.vm.findClass RX12 = some m.cls := findClass_of_methodNamed B.named
  have hlocks := B.notSynchronized
  subst hsz
  have hD := hD0.self (sz := s.heap.size)
  generalize hAe : va_A [(h1, .inl (w0, 70, .inl (fun _ => 0))), (h2, .inl (w1, 4, .inl (fun _ => 0))), (h0, .inr (11, [.int 0, .ref h3, .int 0, .int 0, .int 0, .int 0, .int 0, .int 0, .int 0, .int 0, .int 0, .int 0, .long 0, .int 0, .ref h4, .ref h5, .ref h6, .ref h7, .ref h1, .ref h8, .ref h9, .ref h10, .ref h11, .int 0, .int 0, .int 0, .int 0, .int (-1), .int (-1), .long 0, .long 0, .ref h12, .ref h13, .int 0, .int (-1), .int 0, .ref h14, .int 0, .ref h15, .ref h2, .int 0, .int 0, .ref h16, .int 0, .int 0, .int 0, .int 0])), (h4, .inl (w2, 373, .inl (upd (upd (fun _ => 0) 60 2) 62 2)))] s.heap.size = A at hD hE ⊢
  have hA : ∀ q : Nat, s.heap.size ≤ q → A q := fun q h => by rw [← hAe]; exact Or.inr h
  have hS : va_S A s.heap s.heap [] := va_S.rf
  have hl := lv_entry ([.ref h0, .int 1]) (n := 4) (Nat.le_of_ble_eq_true rfl)
  rw [lg_entry_eq]
  generalize (lg_sl ([.ref h0, .int 1]) ++ List.replicate (4 - (lg_sl ([.ref h0, .int 1])).length) Slot.unset).toArray = ls at hl ⊢
  have hl : lv_has ls 4 [(0, .ref h0), (1, .int 1)] := hl
  refine lv_aload_n hx hb dX12_book_0 rfl (lv_at hl 0 rfl) ?_
  refine lv_iconst (v := 0) hx hb dX12_book_1 (by decide) ?_
  refine va_put (D := (dC, dI)) (ci := 11) (v := .int 0) (ty := .int) (C := RX12) (T := TX12) (N := 47) hx hb hts ii_X12_book_X12 tyX12 tyX12_ok nmX12 hown hK hP hD hS 2 rfl rfl 0 (by decide) (hts _ mm_X12_book_1) (fun _ h9 => h9) rfl (by decide +kernel) rfl rfl (Nat.le_of_ble_eq_true rfl) dX12_book_2 (fun H locs hP hD hS => ?_)
  have hP : va_P (dC, dI) vwCl [(h1, .inl (w0, 70, .inl (fun _ => 0))), (h2, .inl (w1, 4, .inl (fun _ => 0))), (h0, .inr (11, [.int 0, .ref h3, .int 0, .int 0, .int 0, .int 0, .int 0, .int 0, .int 0, .int 0, .int 0, .int 0, .long 0, .int 0, .ref h4, .ref h5, .ref h6, .ref h7, .ref h1, .ref h8, .ref h9, .ref h10, .ref h11, .int 0, .int 0, .int 0, .int 0, .int (-1), .int (-1), .long 0, .long 0, .ref h12, .ref h13, .int 0, .int (-1), .int 0, .ref h14, .int 0, .ref h15, .ref h2, .int 0, .int 0, .ref h16, .int 0, .int 0, .int 0, .int 0])), (h4, .inl (w2, 373, .inl (upd (upd (fun _ => 0) 60 2) 62 2)))] H := hP
  have hD : va_D A [(h1, .inl (w0, 70, .inl (fun _ => 0))), (h2, .inl (w1, 4, .inl (fun _ => 0))), (h0, .inr (11, [.int 0, .ref h3, .int 0, .int 0, .int 0, .int 0, .int 0, .int 0, .int 0, .int 0, .int 0, .int 0, .long 0, .int 0, .ref h4, .ref h5, .ref h6, .ref h7, .ref h1, .ref h8, .ref h9, .ref h10, .ref h11, .int 0, .int 0, .int 0, .int 0, .int (-1), .int (-1), .long 0, .long 0, .ref h12, .ref h13, .int 0, .int (-1), .int 0, .ref h14, .int 0, .ref h15, .ref h2, .int 0, .int 0, .ref h16, .int 0, .int 0, .int 0, .int 0])), (h4, .inl (w2, 373, .inl (upd (upd (fun _ => 0) 60 2) 62 2)))] := hD
  refine lv_iload_n hx hb dX12_book_5 rfl (lv_at hl 1 rfl) ?_
  refine lv_iconst (v := 0) hx hb dX12_book_6 (by decide) ?_
  refine lv_iconst (v := 1) hx hb dX12_book_7 (by decide) ?_
  have hPc := hP.sub (ws' := []) [] rfl
  have hDc := hD.sub (ws' := []) [] (by decide) rfl
  have hKc := hK.sub (tys' := []) [] rfl
  have hFc := va_free (wc := []) hD hS hA [] rfl
  refine va_calli (va_runS (As := [.int 1, .int 0, .int 1]) (rest := []) ⟨hx, hb, hml, hown, hts⟩ (k_X12_isIn_10 l dC dI ad H.size) (cwS 3 hts gX12_book_X12_isIn rfl rfl rfl (by decide +kernel) ⟨Nat.le_of_ble_eq_true rfl, Nat.le_of_ble_eq_true rfl⟩) ⟨fun a U g mk q => ⟨q.1, CP.blind q.2⟩, fun U hU hW => ⟨rfl, CP.of hPc hKc hDc hE hS hFc hU hW⟩⟩ rfl rfl hl.1 rfl (lv_room (Nat.le_of_ble_eq_true rfl)) dX12_book_8 ⟨Nat.le_of_ble_eq_true rfl, Nat.le_of_ble_eq_true rfl⟩) hS (fun q _ h => hFc q h) hFc (fun r1 u t H1 locs ht hvm hw hB hz1 hk1 hS => ?_)
  obtain ⟨hP1, hK1, hD1⟩ := hB
  rw [ht] at hP1
  obtain ⟨hP, hD⟩ := va_join (wr := [(h1, .inl (w0, 70, .inl (fun _ => 0))), (h2, .inl (w1, 4, .inl (fun _ => 0))), (h0, .inr (11, [.int 0, .ref h3, .int 0, .int 0, .int 0, .int 0, .int 0, .int 0, .int 0, .int 0, .int 0, .int 0, .long 0, .int 0, .ref h4, .ref h5, .ref h6, .ref h7, .ref h1, .ref h8, .ref h9, .ref h10, .ref h11, .int 0, .int 0, .int 0, .int 0, .int (-1), .int (-1), .long 0, .long 0, .ref h12, .ref h13, .int 0, .int (-1), .int 0, .ref h14, .int 0, .ref h15, .ref h2, .int 0, .int 0, .ref h16, .int 0, .int 0, .int 0, .int 0])), (h4, .inl (w2, 373, .inl (upd (upd (fun _ => 0) 60 2) 62 2)))]) (w1 := []) hP hD [] [0, 1, 2, 3] rfl rfl (by decide) (by decide) hk1 hFc hP1 hD1
  generalize H1 = H at hP hS ⊢
  clear hPc hDc hKc hFc hP1 hD1 hK1 hk1 hz1
  have hP : va_P (dC, dI) vwCl [(h1, .inl (w0, 70, .inl (fun _ => 0))), (h2, .inl (w1, 4, .inl (fun _ => 0))), (h0, .inr (11, [.int 0, .ref h3, .int 0, .int 0, .int 0, .int 0, .int 0, .int 0, .int 0, .int 0, .int 0, .int 0, .long 0, .int 0, .ref h4, .ref h5, .ref h6, .ref h7, .ref h1, .ref h8, .ref h9, .ref h10, .ref h11, .int 0, .int 0, .int 0, .int 0, .int (-1), .int (-1), .long 0, .long 0, .ref h12, .ref h13, .int 0, .int (-1), .int 0, .ref h14, .int 0, .ref h15, .ref h2, .int 0, .int 0, .ref h16, .int 0, .int 0, .int 0, .int 0])), (h4, .inl (w2, 373, .inl (upd (upd (fun _ => 0) 60 2) 62 2)))] H := hP
  have hD : va_D A [(h1, .inl (w0, 70, .inl (fun _ => 0))), (h2, .inl (w1, 4, .inl (fun _ => 0))), (h0, .inr (11, [.int 0, .ref h3, .int 0, .int 0, .int 0, .int 0, .int 0, .int 0, .int 0, .int 0, .int 0, .int 0, .long 0, .int 0, .ref h4, .ref h5, .ref h6, .ref h7, .ref h1, .ref h8, .ref h9, .ref h10, .ref h11, .int 0, .int 0, .int 0, .int 0, .int (-1), .int (-1), .long 0, .long 0, .ref h12, .ref h13, .int 0, .int (-1), .int 0, .ref h14, .int 0, .ref h15, .ref h2, .int 0, .int 0, .ref h16, .int 0, .int 0, .int 0, .int 0])), (h4, .inl (w2, 373, .inl (upd (upd (fun _ => 0) 60 2) 62 2)))] := hD
  refine zz_top (v := 1) hw ?_
  refine lv_if_ne (tgt := 18) hx hb dX12_book_11 (by decide) (fun _ => ?_) (fun c2 => absurd (by decide) c2)
  refine lv_aload_n hx hb dX12_book_18 rfl (lv_at hl 0 rfl) ?_
  refine lv_sipush (v := 400) hx hb dX12_book_19 (by decide) ?_
  have hPc := hP.sub (ws' := [(h0, .inr (11, [.int 0, .ref h3, .int 0, .int 0, .int 0, .int 0, .int 0, .int 0, .int 0, .int 0, .int 0, .int 0, .long 0, .int 0, .ref h4, .ref h5, .ref h6, .ref h7, .ref h1, .ref h8, .ref h9, .ref h10, .ref h11, .int 0, .int 0, .int 0, .int 0, .int (-1), .int (-1), .long 0, .long 0, .ref h12, .ref h13, .int 0, .int (-1), .int 0, .ref h14, .int 0, .ref h15, .ref h2, .int 0, .int 0, .ref h16, .int 0, .int 0, .int 0, .int 0]))]) [2] rfl
  have hDc := hD.sub (ws' := [(h0, .inr (11, [.int 0, .ref h3, .int 0, .int 0, .int 0, .int 0, .int 0, .int 0, .int 0, .int 0, .int 0, .int 0, .long 0, .int 0, .ref h4, .ref h5, .ref h6, .ref h7, .ref h1, .ref h8, .ref h9, .ref h10, .ref h11, .int 0, .int 0, .int 0, .int 0, .int (-1), .int (-1), .long 0, .long 0, .ref h12, .ref h13, .int 0, .int (-1), .int 0, .ref h14, .int 0, .ref h15, .ref h2, .int 0, .int 0, .ref h16, .int 0, .int 0, .int 0, .int 0]))]) [2] (by decide) rfl
  have hKc := hK.sub (tys' := []) [] rfl
  have hFc := va_free (wc := [(h0, .inr (11, [.int 0, .ref h3, .int 0, .int 0, .int 0, .int 0, .int 0, .int 0, .int 0, .int 0, .int 0, .int 0, .long 0, .int 0, .ref h4, .ref h5, .ref h6, .ref h7, .ref h1, .ref h8, .ref h9, .ref h10, .ref h11, .int 0, .int 0, .int 0, .int 0, .int (-1), .int (-1), .long 0, .long 0, .ref h12, .ref h13, .int 0, .int (-1), .int 0, .ref h14, .int 0, .ref h15, .ref h2, .int 0, .int 0, .ref h16, .int 0, .int 0, .int 0, .int 0]))]) hD hS hA [2] rfl
  refine va_callv (va_runV (As := [.int 400]) (rest := []) ⟨hx, hb, hml, hown, hts⟩ (k_X12_begin_1 l dC dI ad h0 h3 h4 h5 h6 h7 h1 h8 h9 h10 h11 h12 h13 h14 h15 h2 h16 H.size) (cwV 1 hts gX12_book_X12_begin rfl rfl rfl (by decide +kernel) ⟨Nat.le_of_ble_eq_true rfl, Nat.le_of_ble_eq_true rfl⟩) ⟨fun a U g mk q => ⟨q.1, CP.blind q.2⟩, va_recv hKc hPc (ci := 11) (q0 := 0) rfl rfl, fun U hU hW => ⟨rfl, CP.of hPc hKc hDc hE hS hFc hU hW⟩⟩ rfl rfl hl.1 rfl (lv_room (Nat.le_of_ble_eq_true rfl)) dX12_book_22 ⟨Nat.le_of_ble_eq_true rfl, Nat.le_of_ble_eq_true rfl⟩) hS (fun q _ h => hFc q h) hFc (fun u t H1 locs ht hvm hw hB hz1 hk1 hS => ?_)
  obtain ⟨hP1, hK1, hD1⟩ := hB
  rw [ht] at hP1
  obtain ⟨hP, hD⟩ := va_join (wr := [(h1, .inl (w0, 70, .inl (fun _ => 0))), (h2, .inl (w1, 4, .inl (fun _ => 0))), (h4, .inl (w2, 373, .inl (upd (upd (fun _ => 0) 60 2) 62 2)))]) (w1 := [(h0, .inr (11, [.int 0, .ref h3, .int 0, .int 0, .int 400, .int 0, .int 0, .int 0, .int 0, .int 0, .int 0, .int 0, .long 0, .int 0, .ref h4, .ref h5, .ref h6, .ref h7, .ref h1, .ref h8, .ref h9, .ref h10, .ref h11, .int 0, .int 0, .int 0, .int 0, .int (-1), .int (-1), .long 0, .long 0, .ref h12, .ref h13, .int 0, .int (-1), .int 0, .ref h14, .int 0, .ref h15, .ref h2, .int 0, .int 0, .ref h16, .int 0, .int 0, .int 0, .int 0]))]) hP hD [2] [0, 1, 3] rfl rfl (by decide) (by decide) hk1 hFc hP1 hD1
  generalize H1 = H at hP hS ⊢
  clear hPc hDc hKc hFc hP1 hD1 hK1 hk1 hz1
  have hP : va_P (dC, dI) vwCl [(h1, .inl (w0, 70, .inl (fun _ => 0))), (h2, .inl (w1, 4, .inl (fun _ => 0))), (h4, .inl (w2, 373, .inl (upd (upd (fun _ => 0) 60 2) 62 2))), (h0, .inr (11, [.int 0, .ref h3, .int 0, .int 0, .int 400, .int 0, .int 0, .int 0, .int 0, .int 0, .int 0, .int 0, .long 0, .int 0, .ref h4, .ref h5, .ref h6, .ref h7, .ref h1, .ref h8, .ref h9, .ref h10, .ref h11, .int 0, .int 0, .int 0, .int 0, .int (-1), .int (-1), .long 0, .long 0, .ref h12, .ref h13, .int 0, .int (-1), .int 0, .ref h14, .int 0, .ref h15, .ref h2, .int 0, .int 0, .ref h16, .int 0, .int 0, .int 0, .int 0]))] H := hP
  have hD : va_D A [(h1, .inl (w0, 70, .inl (fun _ => 0))), (h2, .inl (w1, 4, .inl (fun _ => 0))), (h4, .inl (w2, 373, .inl (upd (upd (fun _ => 0) 60 2) 62 2))), (h0, .inr (11, [.int 0, .ref h3, .int 0, .int 0, .int 400, .int 0, .int 0, .int 0, .int 0, .int 0, .int 0, .int 0, .long 0, .int 0, .ref h4, .ref h5, .ref h6, .ref h7, .ref h1, .ref h8, .ref h9, .ref h10, .ref h11, .int 0, .int 0, .int 0, .int 0, .int (-1), .int (-1), .long 0, .long 0, .ref h12, .ref h13, .int 0, .int (-1), .int 0, .ref h14, .int 0, .ref h15, .ref h2, .int 0, .int 0, .ref h16, .int 0, .int 0, .int 0, .int 0]))] := hD
  refine lv_aload_n hx hb dX12_book_25 rfl (lv_at hl 0 rfl) ?_
  refine lv_iconst (v := 0) hx hb dX12_book_26 (by decide) ?_
  refine va_put (D := (dC, dI)) (ci := 11) (v := .int 0) (ty := .int) (C := RX12) (T := TX12) (N := 47) hx hb hts ii_X12_book_X12 tyX12 tyX12_ok nmX12 hown hK hP hD hS 3 rfl rfl 40 (by decide) (hts _ mm_X12_book_2) (fun _ h9 => h9) rfl (by decide +kernel) rfl rfl (Nat.le_of_ble_eq_true rfl) dX12_book_27 (fun H locs hP hD hS => ?_)
  have hP : va_P (dC, dI) vwCl [(h1, .inl (w0, 70, .inl (fun _ => 0))), (h2, .inl (w1, 4, .inl (fun _ => 0))), (h4, .inl (w2, 373, .inl (upd (upd (fun _ => 0) 60 2) 62 2))), (h0, .inr (11, [.int 0, .ref h3, .int 0, .int 0, .int 400, .int 0, .int 0, .int 0, .int 0, .int 0, .int 0, .int 0, .long 0, .int 0, .ref h4, .ref h5, .ref h6, .ref h7, .ref h1, .ref h8, .ref h9, .ref h10, .ref h11, .int 0, .int 0, .int 0, .int 0, .int (-1), .int (-1), .long 0, .long 0, .ref h12, .ref h13, .int 0, .int (-1), .int 0, .ref h14, .int 0, .ref h15, .ref h2, .int 0, .int 0, .ref h16, .int 0, .int 0, .int 0, .int 0]))] H := hP
  have hD : va_D A [(h1, .inl (w0, 70, .inl (fun _ => 0))), (h2, .inl (w1, 4, .inl (fun _ => 0))), (h4, .inl (w2, 373, .inl (upd (upd (fun _ => 0) 60 2) 62 2))), (h0, .inr (11, [.int 0, .ref h3, .int 0, .int 0, .int 400, .int 0, .int 0, .int 0, .int 0, .int 0, .int 0, .int 0, .long 0, .int 0, .ref h4, .ref h5, .ref h6, .ref h7, .ref h1, .ref h8, .ref h9, .ref h10, .ref h11, .int 0, .int 0, .int 0, .int 0, .int (-1), .int (-1), .long 0, .long 0, .ref h12, .ref h13, .int 0, .int (-1), .int 0, .ref h14, .int 0, .ref h15, .ref h2, .int 0, .int 0, .ref h16, .int 0, .int 0, .int 0, .int 0]))] := hD
  refine lv_aload_n hx hb dX12_book_30 rfl (lv_at hl 0 rfl) ?_
  refine va_get (D := (dC, dI)) (ci := 11) (v := .int 0) (C := RX12) (T := TX12) (N := 47) hx hb hts ii_X12_book_X12 hown hK hP 3 rfl rfl 7 (by decide) (hts _ mm_X12_book_3) (fun _ h9 => h9) rfl dX12_book_31 ?_
  refine lv_if_eq (tgt := 65) hx hb dX12_book_34 (by decide) (fun _ => ?_) (fun c3 => absurd (by decide) c3)
  refine lv_aload_n hx hb dX12_book_65 rfl (lv_at hl 0 rfl) ?_
  have hPc := hP.sub (ws' := [(h1, .inl (w0, 70, .inl (fun _ => 0))), (h4, .inl (w2, 373, .inl (upd (upd (fun _ => 0) 60 2) 62 2))), (h0, .inr (11, [.int 0, .ref h3, .int 0, .int 0, .int 400, .int 0, .int 0, .int 0, .int 0, .int 0, .int 0, .int 0, .long 0, .int 0, .ref h4, .ref h5, .ref h6, .ref h7, .ref h1, .ref h8, .ref h9, .ref h10, .ref h11, .int 0, .int 0, .int 0, .int 0, .int (-1), .int (-1), .long 0, .long 0, .ref h12, .ref h13, .int 0, .int (-1), .int 0, .ref h14, .int 0, .ref h15, .ref h2, .int 0, .int 0, .ref h16, .int 0, .int 0, .int 0, .int 0]))]) [0, 2, 3] rfl
  have hDc := hD.sub (ws' := [(h1, .inl (w0, 70, .inl (fun _ => 0))), (h4, .inl (w2, 373, .inl (upd (upd (fun _ => 0) 60 2) 62 2))), (h0, .inr (11, [.int 0, .ref h3, .int 0, .int 0, .int 400, .int 0, .int 0, .int 0, .int 0, .int 0, .int 0, .int 0, .long 0, .int 0, .ref h4, .ref h5, .ref h6, .ref h7, .ref h1, .ref h8, .ref h9, .ref h10, .ref h11, .int 0, .int 0, .int 0, .int 0, .int (-1), .int (-1), .long 0, .long 0, .ref h12, .ref h13, .int 0, .int (-1), .int 0, .ref h14, .int 0, .ref h15, .ref h2, .int 0, .int 0, .ref h16, .int 0, .int 0, .int 0, .int 0]))]) [0, 2, 3] (by decide) rfl
  have hKc := hK.sub (tys' := [(w2, .int), (w0, .int)]) [0, 1] rfl
  have hFc := va_free (wc := [(h1, .inl (w0, 70, .inl (fun _ => 0))), (h4, .inl (w2, 373, .inl (upd (upd (fun _ => 0) 60 2) 62 2))), (h0, .inr (11, [.int 0, .ref h3, .int 0, .int 0, .int 400, .int 0, .int 0, .int 0, .int 0, .int 0, .int 0, .int 0, .long 0, .int 0, .ref h4, .ref h5, .ref h6, .ref h7, .ref h1, .ref h8, .ref h9, .ref h10, .ref h11, .int 0, .int 0, .int 0, .int 0, .int (-1), .int (-1), .long 0, .long 0, .ref h12, .ref h13, .int 0, .int (-1), .int 0, .ref h14, .int 0, .ref h15, .ref h2, .int 0, .int 0, .ref h16, .int 0, .int 0, .int 0, .int 0]))]) hD hS hA [0, 2, 3] rfl
  refine va_callv (va_runV (As := []) (rest := []) ⟨hx, hb, hml, hown, hts⟩ (k_X12_layAside l dC dI ad h0 h1 h4 h3 h5 h6 h7 h8 h9 h10 h11 h12 h13 h14 h15 h2 h16 w0 w2 H.size) (cwV 0 hts gX12_book_X12_layAside rfl rfl rfl (by decide +kernel) ⟨Nat.le_of_ble_eq_true rfl, Nat.le_of_ble_eq_true rfl⟩) ⟨fun a U g mk q => ⟨q.1, CP.blind q.2⟩, va_recv hKc hPc (ci := 11) (q0 := 2) rfl rfl, fun U hU hW => ⟨rfl, CP.of hPc hKc hDc hE hS hFc hU hW⟩⟩ rfl rfl hl.1 rfl (lv_room (Nat.le_of_ble_eq_true rfl)) dX12_book_66 ⟨Nat.le_of_ble_eq_true rfl, Nat.le_of_ble_eq_true rfl⟩) hS (fun q _ h => hFc q h) hFc (fun u t H1 locs ht hvm hw hB hz1 hk1 hS => ?_)
  obtain ⟨f4, hP1, hK1, hD1⟩ := hB
  rw [ht] at hP1
  obtain ⟨hP, hD⟩ := va_join (wr := [(h2, .inl (w1, 4, .inl (fun _ => 0)))]) (w1 := [(h1, .inl (w0, 70, .inl f4)), (h4, .inl (w2, 373, .inl (upd (upd (fun _ => 0) 60 2) 62 2))), (h0, .inr (11, [.int 0, .ref h3, .int 0, .int 0, .int 400, .int 0, .int 0, .int 0, .int 0, .int 0, .int 0, .int 0, .long 0, .int 0, .ref h4, .ref h5, .ref h6, .ref h7, .ref h1, .ref h8, .ref h9, .ref h10, .ref h11, .int 0, .int 0, .int 0, .int 0, .int (-1), .int (-1), .long 0, .long 0, .ref h12, .ref h13, .int 0, .int (-1), .int 0, .ref h14, .int 0, .ref h15, .ref h2, .int 0, .int 0, .ref h16, .int 0, .int 0, .int 0, .int 0]))]) hP hD [0, 2, 3] [1] rfl rfl (by decide) (by decide) hk1 hFc hP1 hD1
  generalize H1 = H at hP hS ⊢
  clear hPc hDc hKc hFc hP1 hD1 hK1 hk1 hz1
  have hP : va_P (dC, dI) vwCl [(h2, .inl (w1, 4, .inl (fun _ => 0))), (h1, .inl (w0, 70, .inl f4)), (h4, .inl (w2, 373, .inl (upd (upd (fun _ => 0) 60 2) 62 2))), (h0, .inr (11, [.int 0, .ref h3, .int 0, .int 0, .int 400, .int 0, .int 0, .int 0, .int 0, .int 0, .int 0, .int 0, .long 0, .int 0, .ref h4, .ref h5, .ref h6, .ref h7, .ref h1, .ref h8, .ref h9, .ref h10, .ref h11, .int 0, .int 0, .int 0, .int 0, .int (-1), .int (-1), .long 0, .long 0, .ref h12, .ref h13, .int 0, .int (-1), .int 0, .ref h14, .int 0, .ref h15, .ref h2, .int 0, .int 0, .ref h16, .int 0, .int 0, .int 0, .int 0]))] H := hP
  have hD : va_D A [(h2, .inl (w1, 4, .inl (fun _ => 0))), (h1, .inl (w0, 70, .inl f4)), (h4, .inl (w2, 373, .inl (upd (upd (fun _ => 0) 60 2) 62 2))), (h0, .inr (11, [.int 0, .ref h3, .int 0, .int 0, .int 400, .int 0, .int 0, .int 0, .int 0, .int 0, .int 0, .int 0, .long 0, .int 0, .ref h4, .ref h5, .ref h6, .ref h7, .ref h1, .ref h8, .ref h9, .ref h10, .ref h11, .int 0, .int 0, .int 0, .int 0, .int (-1), .int (-1), .long 0, .long 0, .ref h12, .ref h13, .int 0, .int (-1), .int 0, .ref h14, .int 0, .ref h15, .ref h2, .int 0, .int 0, .ref h16, .int 0, .int 0, .int 0, .int 0]))] := hD
  refine lv_iconst (v := 0) hx hb dX12_book_69 (by decide) ?_
  refine lv_istore_n (lv' := [(2, .int 0), (0, .ref h0), (1, .int 1)]) hx hb dX12_book_70 rfl hl (by decide) rfl (fun ls hl => ?_)
  refine lv_iconst (v := 0) hx hb dX12_book_71 (by decide) ?_
  refine lv_istore_n (lv' := [(3, .int 0), (2, .int 0), (0, .ref h0), (1, .int 1)]) hx hb dX12_book_72 rfl hl (by decide) rfl (fun ls hl => ?_)
  refine lv_iload_n hx hb dX12_book_73 rfl (lv_at hl 1 rfl) ?_
  refine lv_aload_n hx hb dX12_book_74 rfl (lv_at hl 2 rfl) ?_
  refine va_get (D := (dC, dI)) (ci := 11) (v := .int 0) (C := RX12) (T := TX12) (N := 47) hx hb hts ii_X12_book_X12 hown hK hP 3 rfl rfl 40 (by decide) (hts _ mm_X12_book_2) (fun _ h9 => h9) rfl dX12_book_75 ?_
  refine lv_icmp_ge (tgt := 103) hx hb dX12_book_78 (by decide) (fun _ => ?_) (fun c5 => absurd (by decide) c5)
  refine lv_aload_n hx hb dX12_book_103 rfl (lv_at hl 2 rfl) ?_
  refine va_get (D := (dC, dI)) (ci := 11) (v := .ref h2) (C := RX12) (T := TX12) (N := 47) hx hb hts ii_X12_book_X12 hown hK hP 3 rfl rfl 39 (by decide) (hts _ mm_X12_book_5) (fun _ h9 => h9) rfl dX12_book_104 ?_
  refine lv_iconst (v := 0) hx hb dX12_book_107 (by decide) ?_
  refine lv_iload_n hx hb dX12_book_108 rfl (lv_at hl 0 rfl) ?_
  refine va_iast hx hb hK hP hD hS 0 2 rfl rfl (i := 0) (zz_in (by decide)) dX12_book_109 (fun H locs hP hD hS => ?_)
  rw [zz_sw (i := 0) rfl] at hP hD
  have hP : va_P (dC, dI) vwCl [(h2, .inl (w1, 4, .inl (fun _ => 0))), (h1, .inl (w0, 70, .inl f4)), (h4, .inl (w2, 373, .inl (upd (upd (fun _ => 0) 60 2) 62 2))), (h0, .inr (11, [.int 0, .ref h3, .int 0, .int 0, .int 400, .int 0, .int 0, .int 0, .int 0, .int 0, .int 0, .int 0, .long 0, .int 0, .ref h4, .ref h5, .ref h6, .ref h7, .ref h1, .ref h8, .ref h9, .ref h10, .ref h11, .int 0, .int 0, .int 0, .int 0, .int (-1), .int (-1), .long 0, .long 0, .ref h12, .ref h13, .int 0, .int (-1), .int 0, .ref h14, .int 0, .ref h15, .ref h2, .int 0, .int 0, .ref h16, .int 0, .int 0, .int 0, .int 0]))] H := hP
  have hD : va_D A [(h2, .inl (w1, 4, .inl (fun _ => 0))), (h1, .inl (w0, 70, .inl f4)), (h4, .inl (w2, 373, .inl (upd (upd (fun _ => 0) 60 2) 62 2))), (h0, .inr (11, [.int 0, .ref h3, .int 0, .int 0, .int 400, .int 0, .int 0, .int 0, .int 0, .int 0, .int 0, .int 0, .long 0, .int 0, .ref h4, .ref h5, .ref h6, .ref h7, .ref h1, .ref h8, .ref h9, .ref h10, .ref h11, .int 0, .int 0, .int 0, .int 0, .int (-1), .int (-1), .long 0, .long 0, .ref h12, .ref h13, .int 0, .int (-1), .int 0, .ref h14, .int 0, .ref h15, .ref h2, .int 0, .int 0, .ref h16, .int 0, .int 0, .int 0, .int 0]))] := hD
  refine lv_aload_n hx hb dX12_book_110 rfl (lv_at hl 2 rfl) ?_
  refine va_get (D := (dC, dI)) (ci := 11) (v := .ref h2) (C := RX12) (T := TX12) (N := 47) hx hb hts ii_X12_book_X12 hown hK hP 3 rfl rfl 39 (by decide) (hts _ mm_X12_book_5) (fun _ h9 => h9) rfl dX12_book_111 ?_
  refine lv_iconst (v := 1) hx hb dX12_book_114 (by decide) ?_
  refine lv_iload_n hx hb dX12_book_115 rfl (lv_at hl 1 rfl) ?_
  refine va_iast hx hb hK hP hD hS 0 2 rfl rfl (i := 1) (zz_in (by decide)) dX12_book_116 (fun H locs hP hD hS => ?_)
  rw [zz_sw (i := 1) rfl] at hP hD
  have hP : va_P (dC, dI) vwCl [(h2, .inl (w1, 4, .inl (fun _ => 0))), (h1, .inl (w0, 70, .inl f4)), (h4, .inl (w2, 373, .inl (upd (upd (fun _ => 0) 60 2) 62 2))), (h0, .inr (11, [.int 0, .ref h3, .int 0, .int 0, .int 400, .int 0, .int 0, .int 0, .int 0, .int 0, .int 0, .int 0, .long 0, .int 0, .ref h4, .ref h5, .ref h6, .ref h7, .ref h1, .ref h8, .ref h9, .ref h10, .ref h11, .int 0, .int 0, .int 0, .int 0, .int (-1), .int (-1), .long 0, .long 0, .ref h12, .ref h13, .int 0, .int (-1), .int 0, .ref h14, .int 0, .ref h15, .ref h2, .int 0, .int 0, .ref h16, .int 0, .int 0, .int 0, .int 0]))] H := hP
  have hD : va_D A [(h2, .inl (w1, 4, .inl (fun _ => 0))), (h1, .inl (w0, 70, .inl f4)), (h4, .inl (w2, 373, .inl (upd (upd (fun _ => 0) 60 2) 62 2))), (h0, .inr (11, [.int 0, .ref h3, .int 0, .int 0, .int 400, .int 0, .int 0, .int 0, .int 0, .int 0, .int 0, .int 0, .long 0, .int 0, .ref h4, .ref h5, .ref h6, .ref h7, .ref h1, .ref h8, .ref h9, .ref h10, .ref h11, .int 0, .int 0, .int 0, .int 0, .int (-1), .int (-1), .long 0, .long 0, .ref h12, .ref h13, .int 0, .int (-1), .int 0, .ref h14, .int 0, .ref h15, .ref h2, .int 0, .int 0, .ref h16, .int 0, .int 0, .int 0, .int 0]))] := hD
  refine lv_aload_n hx hb dX12_book_117 rfl (lv_at hl 2 rfl) ?_
  refine va_get (D := (dC, dI)) (ci := 11) (v := .ref h2) (C := RX12) (T := TX12) (N := 47) hx hb hts ii_X12_book_X12 hown hK hP 3 rfl rfl 39 (by decide) (hts _ mm_X12_book_5) (fun _ h9 => h9) rfl dX12_book_118 ?_
  refine lv_iconst (v := 2) hx hb dX12_book_121 (by decide) ?_
  refine lv_aload_n hx hb dX12_book_122 rfl (lv_at hl 2 rfl) ?_
  refine va_get (D := (dC, dI)) (ci := 11) (v := .ref h4) (C := RX12) (T := TX12) (N := 47) hx hb hts ii_X12_book_X12 hown hK hP 3 rfl rfl 14 (by decide) (hts _ mm_X12_book_6) (fun _ h9 => h9) rfl dX12_book_123 ?_
  refine lv_bipush (v := 61) hx hb dX12_book_126 (by decide) ?_
  refine va_iald hx hb hK hP 2 0 rfl rfl (i := 61) (zz_in (by decide)) dX12_book_128 ?_
  refine zz_top (v := 0) (by rfl) ?_
  refine va_iast hx hb hK hP hD hS 0 2 rfl rfl (i := 2) (zz_in (by decide)) dX12_book_129 (fun H locs hP hD hS => ?_)
  rw [zz_sw (i := 2) rfl] at hP hD
  have hP : va_P (dC, dI) vwCl [(h2, .inl (w1, 4, .inl (fun _ => 0))), (h1, .inl (w0, 70, .inl f4)), (h4, .inl (w2, 373, .inl (upd (upd (fun _ => 0) 60 2) 62 2))), (h0, .inr (11, [.int 0, .ref h3, .int 0, .int 0, .int 400, .int 0, .int 0, .int 0, .int 0, .int 0, .int 0, .int 0, .long 0, .int 0, .ref h4, .ref h5, .ref h6, .ref h7, .ref h1, .ref h8, .ref h9, .ref h10, .ref h11, .int 0, .int 0, .int 0, .int 0, .int (-1), .int (-1), .long 0, .long 0, .ref h12, .ref h13, .int 0, .int (-1), .int 0, .ref h14, .int 0, .ref h15, .ref h2, .int 0, .int 0, .ref h16, .int 0, .int 0, .int 0, .int 0]))] H := hP
  have hD : va_D A [(h2, .inl (w1, 4, .inl (fun _ => 0))), (h1, .inl (w0, 70, .inl f4)), (h4, .inl (w2, 373, .inl (upd (upd (fun _ => 0) 60 2) 62 2))), (h0, .inr (11, [.int 0, .ref h3, .int 0, .int 0, .int 400, .int 0, .int 0, .int 0, .int 0, .int 0, .int 0, .int 0, .long 0, .int 0, .ref h4, .ref h5, .ref h6, .ref h7, .ref h1, .ref h8, .ref h9, .ref h10, .ref h11, .int 0, .int 0, .int 0, .int 0, .int (-1), .int (-1), .long 0, .long 0, .ref h12, .ref h13, .int 0, .int (-1), .int 0, .ref h14, .int 0, .ref h15, .ref h2, .int 0, .int 0, .ref h16, .int 0, .int 0, .int 0, .int 0]))] := hD
  refine lv_aload_n hx hb dX12_book_130 rfl (lv_at hl 2 rfl) ?_
  refine va_get (D := (dC, dI)) (ci := 11) (v := .ref h2) (C := RX12) (T := TX12) (N := 47) hx hb hts ii_X12_book_X12 hown hK hP 3 rfl rfl 39 (by decide) (hts _ mm_X12_book_5) (fun _ h9 => h9) rfl dX12_book_131 ?_
  refine lv_iconst (v := 3) hx hb dX12_book_134 (by decide) ?_
  refine lv_aload_n hx hb dX12_book_135 rfl (lv_at hl 2 rfl) ?_
  have hPc := hP.sub (ws' := [(h4, .inl (w2, 373, .inl (upd (upd (fun _ => 0) 60 2) 62 2))), (h0, .inr (11, [.int 0, .ref h3, .int 0, .int 0, .int 400, .int 0, .int 0, .int 0, .int 0, .int 0, .int 0, .int 0, .long 0, .int 0, .ref h4, .ref h5, .ref h6, .ref h7, .ref h1, .ref h8, .ref h9, .ref h10, .ref h11, .int 0, .int 0, .int 0, .int 0, .int (-1), .int (-1), .long 0, .long 0, .ref h12, .ref h13, .int 0, .int (-1), .int 0, .ref h14, .int 0, .ref h15, .ref h2, .int 0, .int 0, .ref h16, .int 0, .int 0, .int 0, .int 0]))]) [2, 3] rfl
  have hDc := hD.sub (ws' := [(h4, .inl (w2, 373, .inl (upd (upd (fun _ => 0) 60 2) 62 2))), (h0, .inr (11, [.int 0, .ref h3, .int 0, .int 0, .int 400, .int 0, .int 0, .int 0, .int 0, .int 0, .int 0, .int 0, .long 0, .int 0, .ref h4, .ref h5, .ref h6, .ref h7, .ref h1, .ref h8, .ref h9, .ref h10, .ref h11, .int 0, .int 0, .int 0, .int 0, .int (-1), .int (-1), .long 0, .long 0, .ref h12, .ref h13, .int 0, .int (-1), .int 0, .ref h14, .int 0, .ref h15, .ref h2, .int 0, .int 0, .ref h16, .int 0, .int 0, .int 0, .int 0]))]) [2, 3] (by decide) rfl
  have hKc := hK.sub (tys' := [(w2, .int)]) [0] rfl
  have hFc := va_free (wc := [(h4, .inl (w2, 373, .inl (upd (upd (fun _ => 0) 60 2) 62 2))), (h0, .inr (11, [.int 0, .ref h3, .int 0, .int 0, .int 400, .int 0, .int 0, .int 0, .int 0, .int 0, .int 0, .int 0, .long 0, .int 0, .ref h4, .ref h5, .ref h6, .ref h7, .ref h1, .ref h8, .ref h9, .ref h10, .ref h11, .int 0, .int 0, .int 0, .int 0, .int (-1), .int (-1), .long 0, .long 0, .ref h12, .ref h13, .int 0, .int (-1), .int 0, .ref h14, .int 0, .ref h15, .ref h2, .int 0, .int 0, .ref h16, .int 0, .int 0, .int 0, .int 0]))]) hD hS hA [2, 3] rfl
  refine va_calli (va_runV (As := []) (rest := [.int 3, .ref h2]) ⟨hx, hb, hml, hown, hts⟩ (k_X12_awaySet_1 l dC dI ad h0 h4 h3 h5 h6 h7 h1 h8 h9 h10 h11 h12 h13 h14 h15 h2 h16 w2 H.size) (cwV 0 hts gX12_book_X12_awaySet rfl rfl rfl (by decide +kernel) ⟨Nat.le_of_ble_eq_true rfl, Nat.le_of_ble_eq_true rfl⟩) ⟨fun a U g mk q => ⟨q.1, CP.blind q.2⟩, va_recv hKc hPc (ci := 11) (q0 := 1) rfl rfl, fun U hU hW => ⟨rfl, CP.of hPc hKc hDc hE hS hFc hU hW⟩⟩ rfl rfl hl.1 rfl (lv_room (Nat.le_of_ble_eq_true rfl)) dX12_book_136 ⟨Nat.le_of_ble_eq_true rfl, Nat.le_of_ble_eq_true rfl⟩) hS (fun q _ h => hFc q h) hFc (fun r6 u t H1 locs ht hvm hw hB hz1 hk1 hS => ?_)
  obtain ⟨hP1, hK1, hD1⟩ := hB
  rw [ht] at hP1
  obtain ⟨hP, hD⟩ := va_join (wr := [(h2, .inl (w1, 4, .inl (fun _ => 0))), (h1, .inl (w0, 70, .inl f4))]) (w1 := [(h4, .inl (w2, 373, .inl (upd (upd (fun _ => 0) 60 2) 62 2))), (h0, .inr (11, [.int 0, .ref h3, .int 0, .int 0, .int 400, .int 0, .int 0, .int 0, .int 0, .int 0, .int 0, .int 0, .long 0, .int 0, .ref h4, .ref h5, .ref h6, .ref h7, .ref h1, .ref h8, .ref h9, .ref h10, .ref h11, .int 0, .int 0, .int 0, .int 0, .int (-1), .int (-1), .long 0, .long 0, .ref h12, .ref h13, .int 0, .int (-1), .int 0, .ref h14, .int 0, .ref h15, .ref h2, .int 0, .int 0, .ref h16, .int 0, .int 0, .int 0, .int 0]))]) hP hD [2, 3] [0, 1] rfl rfl (by decide) (by decide) hk1 hFc hP1 hD1
  generalize H1 = H at hP hS ⊢
  clear hPc hDc hKc hFc hP1 hD1 hK1 hk1 hz1
  have hP : va_P (dC, dI) vwCl [(h2, .inl (w1, 4, .inl (fun _ => 0))), (h1, .inl (w0, 70, .inl f4)), (h4, .inl (w2, 373, .inl (upd (upd (fun _ => 0) 60 2) 62 2))), (h0, .inr (11, [.int 0, .ref h3, .int 0, .int 0, .int 400, .int 0, .int 0, .int 0, .int 0, .int 0, .int 0, .int 0, .long 0, .int 0, .ref h4, .ref h5, .ref h6, .ref h7, .ref h1, .ref h8, .ref h9, .ref h10, .ref h11, .int 0, .int 0, .int 0, .int 0, .int (-1), .int (-1), .long 0, .long 0, .ref h12, .ref h13, .int 0, .int (-1), .int 0, .ref h14, .int 0, .ref h15, .ref h2, .int 0, .int 0, .ref h16, .int 0, .int 0, .int 0, .int 0]))] H := hP
  have hD : va_D A [(h2, .inl (w1, 4, .inl (fun _ => 0))), (h1, .inl (w0, 70, .inl f4)), (h4, .inl (w2, 373, .inl (upd (upd (fun _ => 0) 60 2) 62 2))), (h0, .inr (11, [.int 0, .ref h3, .int 0, .int 0, .int 400, .int 0, .int 0, .int 0, .int 0, .int 0, .int 0, .int 0, .long 0, .int 0, .ref h4, .ref h5, .ref h6, .ref h7, .ref h1, .ref h8, .ref h9, .ref h10, .ref h11, .int 0, .int 0, .int 0, .int 0, .int (-1), .int (-1), .long 0, .long 0, .ref h12, .ref h13, .int 0, .int (-1), .int 0, .ref h14, .int 0, .ref h15, .ref h2, .int 0, .int 0, .ref h16, .int 0, .int 0, .int 0, .int 0]))] := hD
  refine zz_top (v := 0) hw ?_
  refine va_iast hx hb hK hP hD hS 0 2 rfl rfl (i := 3) (zz_in (by decide)) dX12_book_139 (fun H locs hP hD hS => ?_)
  rw [zz_sw (i := 3) rfl] at hP hD
  have hP : va_P (dC, dI) vwCl [(h2, .inl (w1, 4, .inl (fun _ => 0))), (h1, .inl (w0, 70, .inl f4)), (h4, .inl (w2, 373, .inl (upd (upd (fun _ => 0) 60 2) 62 2))), (h0, .inr (11, [.int 0, .ref h3, .int 0, .int 0, .int 400, .int 0, .int 0, .int 0, .int 0, .int 0, .int 0, .int 0, .long 0, .int 0, .ref h4, .ref h5, .ref h6, .ref h7, .ref h1, .ref h8, .ref h9, .ref h10, .ref h11, .int 0, .int 0, .int 0, .int 0, .int (-1), .int (-1), .long 0, .long 0, .ref h12, .ref h13, .int 0, .int (-1), .int 0, .ref h14, .int 0, .ref h15, .ref h2, .int 0, .int 0, .ref h16, .int 0, .int 0, .int 0, .int 0]))] H := hP
  have hD : va_D A [(h2, .inl (w1, 4, .inl (fun _ => 0))), (h1, .inl (w0, 70, .inl f4)), (h4, .inl (w2, 373, .inl (upd (upd (fun _ => 0) 60 2) 62 2))), (h0, .inr (11, [.int 0, .ref h3, .int 0, .int 0, .int 400, .int 0, .int 0, .int 0, .int 0, .int 0, .int 0, .int 0, .long 0, .int 0, .ref h4, .ref h5, .ref h6, .ref h7, .ref h1, .ref h8, .ref h9, .ref h10, .ref h11, .int 0, .int 0, .int 0, .int 0, .int (-1), .int (-1), .long 0, .long 0, .ref h12, .ref h13, .int 0, .int (-1), .int 0, .ref h14, .int 0, .ref h15, .ref h2, .int 0, .int 0, .ref h16, .int 0, .int 0, .int 0, .int 0]))] := hD
  refine lv_aload_n hx hb dX12_book_140 rfl (lv_at hl 2 rfl) ?_
  refine lv_iconst (v := 1) hx hb dX12_book_141 (by decide) ?_
  refine va_put (D := (dC, dI)) (ci := 11) (v := .int 1) (ty := .boolean) (C := RX12) (T := TX12) (N := 47) hx hb hts ii_X12_book_X12 tyX12 tyX12_ok nmX12 hown hK hP hD hS 3 rfl rfl 41 (by decide) (hts _ mm_X12_book_7) (fun _ h9 => h9) rfl (by decide +kernel) rfl rfl (Nat.le_of_ble_eq_true rfl) dX12_book_142 (fun H locs hP hD hS => ?_)
  have hP : va_P (dC, dI) vwCl [(h2, .inl (w1, 4, .inl (fun _ => 0))), (h1, .inl (w0, 70, .inl f4)), (h4, .inl (w2, 373, .inl (upd (upd (fun _ => 0) 60 2) 62 2))), (h0, .inr (11, [.int 0, .ref h3, .int 0, .int 0, .int 400, .int 0, .int 0, .int 0, .int 0, .int 0, .int 0, .int 0, .long 0, .int 0, .ref h4, .ref h5, .ref h6, .ref h7, .ref h1, .ref h8, .ref h9, .ref h10, .ref h11, .int 0, .int 0, .int 0, .int 0, .int (-1), .int (-1), .long 0, .long 0, .ref h12, .ref h13, .int 0, .int (-1), .int 0, .ref h14, .int 0, .ref h15, .ref h2, .int 0, .int 1, .ref h16, .int 0, .int 0, .int 0, .int 0]))] H := hP
  have hD : va_D A [(h2, .inl (w1, 4, .inl (fun _ => 0))), (h1, .inl (w0, 70, .inl f4)), (h4, .inl (w2, 373, .inl (upd (upd (fun _ => 0) 60 2) 62 2))), (h0, .inr (11, [.int 0, .ref h3, .int 0, .int 0, .int 400, .int 0, .int 0, .int 0, .int 0, .int 0, .int 0, .int 0, .long 0, .int 0, .ref h4, .ref h5, .ref h6, .ref h7, .ref h1, .ref h8, .ref h9, .ref h10, .ref h11, .int 0, .int 0, .int 0, .int 0, .int (-1), .int (-1), .long 0, .long 0, .ref h12, .ref h13, .int 0, .int (-1), .int 0, .ref h14, .int 0, .ref h15, .ref h2, .int 0, .int 1, .ref h16, .int 0, .int 0, .int 0, .int 0]))] := hD
  refine lv_aload_n hx hb dX12_book_145 rfl (lv_at hl 2 rfl) ?_
  refine lv_iload_n hx hb dX12_book_146 rfl (lv_at hl 3 rfl) ?_
  refine lv_iconst (v := 1) hx hb dX12_book_147 (by decide) ?_
  refine lv_icmp_ne (tgt := 159) hx hb dX12_book_148 (by decide) (fun c7 => absurd c7 (by decide)) (fun _ => ?_)
  refine lv_iload_n hx hb dX12_book_151 rfl (lv_at hl 1 rfl) ?_
  refine lv_if_le (tgt := 159) hx hb dX12_book_152 (by decide) (fun _ => ?_) (fun c8 => absurd (by decide) c8)
  refine lv_iconst (v := 0) hx hb dX12_book_159 (by decide) ?_
  have hPc := hP.sub (ws' := [(h1, .inl (w0, 70, .inl f4)), (h4, .inl (w2, 373, .inl (upd (upd (fun _ => 0) 60 2) 62 2))), (h0, .inr (11, [.int 0, .ref h3, .int 0, .int 0, .int 400, .int 0, .int 0, .int 0, .int 0, .int 0, .int 0, .int 0, .long 0, .int 0, .ref h4, .ref h5, .ref h6, .ref h7, .ref h1, .ref h8, .ref h9, .ref h10, .ref h11, .int 0, .int 0, .int 0, .int 0, .int (-1), .int (-1), .long 0, .long 0, .ref h12, .ref h13, .int 0, .int (-1), .int 0, .ref h14, .int 0, .ref h15, .ref h2, .int 0, .int 1, .ref h16, .int 0, .int 0, .int 0, .int 0]))]) [1, 2, 3] rfl
  have hDc := hD.sub (ws' := [(h1, .inl (w0, 70, .inl f4)), (h4, .inl (w2, 373, .inl (upd (upd (fun _ => 0) 60 2) 62 2))), (h0, .inr (11, [.int 0, .ref h3, .int 0, .int 0, .int 400, .int 0, .int 0, .int 0, .int 0, .int 0, .int 0, .int 0, .long 0, .int 0, .ref h4, .ref h5, .ref h6, .ref h7, .ref h1, .ref h8, .ref h9, .ref h10, .ref h11, .int 0, .int 0, .int 0, .int 0, .int (-1), .int (-1), .long 0, .long 0, .ref h12, .ref h13, .int 0, .int (-1), .int 0, .ref h14, .int 0, .ref h15, .ref h2, .int 0, .int 1, .ref h16, .int 0, .int 0, .int 0, .int 0]))]) [1, 2, 3] (by decide) rfl
  have hKc := hK.sub (tys' := [(w2, .int), (w0, .int)]) [0, 1] rfl
  have hFc := va_free (wc := [(h1, .inl (w0, 70, .inl f4)), (h4, .inl (w2, 373, .inl (upd (upd (fun _ => 0) 60 2) 62 2))), (h0, .inr (11, [.int 0, .ref h3, .int 0, .int 0, .int 400, .int 0, .int 0, .int 0, .int 0, .int 0, .int 0, .int 0, .long 0, .int 0, .ref h4, .ref h5, .ref h6, .ref h7, .ref h1, .ref h8, .ref h9, .ref h10, .ref h11, .int 0, .int 0, .int 0, .int 0, .int (-1), .int (-1), .long 0, .long 0, .ref h12, .ref h13, .int 0, .int (-1), .int 0, .ref h14, .int 0, .ref h15, .ref h2, .int 0, .int 1, .ref h16, .int 0, .int 0, .int 0, .int 0]))]) hD hS hA [1, 2, 3] rfl
  refine va_callv (va_runV (As := [.int 0]) (rest := []) ⟨hx, hb, hml, hown, hts⟩ (k_X12_stay l dC dI ad h0 h1 h4 h3 h5 h6 h7 h8 h9 h10 h11 h12 h13 h14 h15 h2 h16 f4 w0 w2 H.size) (cwV 1 hts gX12_book_X12_stay rfl rfl rfl (by decide +kernel) ⟨Nat.le_of_ble_eq_true rfl, Nat.le_of_ble_eq_true rfl⟩) ⟨fun a U g mk q => ⟨q.1, CP.blind q.2⟩, va_recv hKc hPc (ci := 11) (q0 := 2) rfl rfl, fun U hU hW => ⟨rfl, CP.of hPc hKc hDc hE hS hFc hU hW⟩⟩ rfl rfl hl.1 rfl (lv_room (Nat.le_of_ble_eq_true rfl)) dX12_book_160 ⟨Nat.le_of_ble_eq_true rfl, Nat.le_of_ble_eq_true rfl⟩) hS (fun q _ h => hFc q h) hFc (fun u t H1 locs ht hvm hw hB hz1 hk1 hS => ?_)
  obtain ⟨f9, f10, hP1, hK1, hD1⟩ := hB
  rw [ht] at hP1
  obtain ⟨hP, hD⟩ := va_join (wr := [(h2, .inl (w1, 4, .inl (fun _ => 0)))]) (w1 := [(h1, .inl (w0, 70, .inl f9)), (h4, .inl (w2, 373, .inl f10)), (h0, .inr (11, [.int 0, .ref h3, .int 0, .int 0, .int 400, .int 0, .int 0, .int 0, .int 0, .int 0, .int 0, .int 0, .long 0, .int 0, .ref h4, .ref h5, .ref h6, .ref h7, .ref h1, .ref h8, .ref h9, .ref h10, .ref h11, .int 0, .int 0, .int 0, .int 0, .int (-1), .int (-1), .long 0, .long 0, .ref h12, .ref h13, .int 0, .int (-1), .int 0, .ref h14, .int 0, .ref h15, .ref h2, .int 0, .int 1, .ref h16, .int 0, .int 0, .int 0, .int 0]))]) hP hD [1, 2, 3] [0] rfl rfl (by decide) (by decide) hk1 hFc hP1 hD1
  generalize H1 = H at hP hS ⊢
  clear hPc hDc hKc hFc hP1 hD1 hK1 hk1 hz1
  have hP : va_P (dC, dI) vwCl [(h2, .inl (w1, 4, .inl (fun _ => 0))), (h1, .inl (w0, 70, .inl f9)), (h4, .inl (w2, 373, .inl f10)), (h0, .inr (11, [.int 0, .ref h3, .int 0, .int 0, .int 400, .int 0, .int 0, .int 0, .int 0, .int 0, .int 0, .int 0, .long 0, .int 0, .ref h4, .ref h5, .ref h6, .ref h7, .ref h1, .ref h8, .ref h9, .ref h10, .ref h11, .int 0, .int 0, .int 0, .int 0, .int (-1), .int (-1), .long 0, .long 0, .ref h12, .ref h13, .int 0, .int (-1), .int 0, .ref h14, .int 0, .ref h15, .ref h2, .int 0, .int 1, .ref h16, .int 0, .int 0, .int 0, .int 0]))] H := hP
  have hD : va_D A [(h2, .inl (w1, 4, .inl (fun _ => 0))), (h1, .inl (w0, 70, .inl f9)), (h4, .inl (w2, 373, .inl f10)), (h0, .inr (11, [.int 0, .ref h3, .int 0, .int 0, .int 400, .int 0, .int 0, .int 0, .int 0, .int 0, .int 0, .int 0, .long 0, .int 0, .ref h4, .ref h5, .ref h6, .ref h7, .ref h1, .ref h8, .ref h9, .ref h10, .ref h11, .int 0, .int 0, .int 0, .int 0, .int (-1), .int (-1), .long 0, .long 0, .ref h12, .ref h13, .int 0, .int (-1), .int 0, .ref h14, .int 0, .ref h15, .ref h2, .int 0, .int 1, .ref h16, .int 0, .int 0, .int 0, .int 0]))] := hD
  refine lv_iload_n hx hb dX12_book_163 rfl (lv_at hl 0 rfl) ?_
  refine lv_if_ne (tgt := 171) hx hb dX12_book_164 (by decide) (fun c11 => absurd c11 (by decide)) (fun _ => ?_)
  refine lv_iconst (v := (-1)) hx hb dX12_book_167 (by decide) ?_
  refine lv_goto (tgt := 172) hx hb dX12_book_168 (by decide) ?_
  have hP9 := hP.sub (ws' := []) [] rfl
  have hD9 := hD.sub (ws' := []) [] (by decide) rfl
  have hK9 := hK.sub (tys' := []) [] rfl
  refine W.widen (k := 0) (n := 0) (Nat.le_of_ble_eq_true rfl) (Nat.le_of_ble_eq_true rfl) ?_
  exact W.iret (v := (-1)) hx hb hr (fun t ht hW => ⟨⟨(-1), (), rfl, rfl, by rw [ht]; exact hP9, va_K.moved hW.alike hK9, hD9⟩, hS.F ht⟩) hS.2.2 dX12_book_172
set_option maxHeartbeats 4000000 in
set_option maxRecDepth 100000 in
theorem k_X12_isIn_11 (l : Launch) (dC : Nat → ClassId) (dI : Nat → Nat → Nat) (ad : Nat → Nat) (p0 : Int32) (sz : Nat) (e0_0 : ¬ p0 = 0) (e0_1 : ¬ p0 = 1) : Met l yX12_isIn wsX12_isIn ({ frames := 0, cells := 0, slots := 0, locals := 0 }) (va_Pc [.int p0, .int 0, .int 1] (CP (dC, dI) [] [] sz ad)) (va_Qi (fun (r : Int32) (_ : Unit) => r = 0) (fun (_ : Unit) (t : State) => CQ (dC, dI) [] [] (va_A [] sz) t) (va_A [] sz)) 0 0 (va_A [] sz) := by
  refine Met.ofW (cc := cX12_isIn) (maxL := 3) (ret := (some .boolean)) (by decide) rfl ?_
  intro p e s m args below meth c s₁ B hml hv
  obtain ⟨rfl, hsz, hP, hK, hD0, hE⟩ := hv
  have hx := B.exec
  have hb := B.bytes
  have hr := B.returns
  have hts := atoms_spec (ws := wsX12_isIn) B.pre
  have hown : s.vm.findClass RX12 = some m.cls := findClass_of_methodNamed B.named
  have hlocks := B.notSynchronized
  subst hsz
  have hD := hD0.self (sz := s.heap.size)
  generalize hAe : va_A [] s.heap.size = A at hD hE ⊢
  have hA : ∀ q : Nat, s.heap.size ≤ q → A q := fun q h => by rw [← hAe]; exact Or.inr h
  have hS : va_S A s.heap s.heap [] := va_S.rf
  have hl := lv_entry ([.int p0, .int 0, .int 1]) (n := 3) (Nat.le_of_ble_eq_true rfl)
  rw [lg_entry_eq]
  generalize (lg_sl ([.int p0, .int 0, .int 1]) ++ List.replicate (3 - (lg_sl ([.int p0, .int 0, .int 1])).length) Slot.unset).toArray = ls at hl ⊢
  have hl : lv_has ls 3 [(0, .int p0), (1, .int 0), (2, .int 1)] := hl
  refine lv_iload_n hx hb dX12_isIn_0 rfl (lv_at hl 0 rfl) ?_
  refine lv_iload_n hx hb dX12_isIn_1 rfl (lv_at hl 1 rfl) ?_
  refine lv_icmp_lt (tgt := 14) hx hb dX12_isIn_2 (by decide) (fun c1 => ?_) (fun c1 => ?_)
  · refine lv_iconst (v := 0) hx hb dX12_isIn_14 (by decide) ?_
    have hP9 := hP.sub (ws' := []) [] rfl
    have hD9 := hD.sub (ws' := []) [] (by decide) rfl
    have hK9 := hK.sub (tys' := []) [] rfl
    refine W.widen (k := 0) (n := 0) (Nat.le_of_ble_eq_true rfl) (Nat.le_of_ble_eq_true rfl) ?_
    exact W.zret (v := 0) hx hb hr rfl (fun t ht hW => ⟨⟨0, (), rfl, rfl, by rw [ht]; exact hP9, va_K.moved hW.alike hK9, hD9⟩, hS.F ht⟩) hS.2.2 dX12_isIn_15
  · refine lv_iload_n hx hb dX12_isIn_5 rfl (lv_at hl 0 rfl) ?_
    refine lv_iload_n hx hb dX12_isIn_6 rfl (lv_at hl 2 rfl) ?_
    refine lv_icmp_gt (tgt := 14) hx hb dX12_isIn_7 (by decide) (fun _ => ?_) (fun c2 => ?_)
    rotate_left
    · exfalso; clear hP hD hK hS hE; simp only [Int32.lt_iff_toInt_lt, Int32.le_iff_toInt_le, ← Int32.toInt_inj, Int32.reduceToInt] at e0_0 e0_1 c1 c2; omega
    refine lv_iconst (v := 0) hx hb dX12_isIn_14 (by decide) ?_
    have hP9 := hP.sub (ws' := []) [] rfl
    have hD9 := hD.sub (ws' := []) [] (by decide) rfl
    have hK9 := hK.sub (tys' := []) [] rfl
    refine W.widen (k := 0) (n := 0) (Nat.le_of_ble_eq_true rfl) (Nat.le_of_ble_eq_true rfl) ?_
    exact W.zret (v := 0) hx hb hr rfl (fun t ht hW => ⟨⟨0, (), rfl, rfl, by rw [ht]; exact hP9, va_K.moved hW.alike hK9, hD9⟩, hS.F ht⟩) hS.2.2 dX12_isIn_15
set_option maxHeartbeats 4000000 in
set_option maxRecDepth 100000 in
theorem k_X12_book_2 (l : Launch) (dC : Nat → ClassId) (dI : Nat → Nat → Nat) (ad : Nat → Nat) (h0 h1 h2 h3 h4 h5 h6 h7 h8 h9 h10 h11 h12 h13 h14 h15 h16 : Nat) (p0 : Int32) (sz : Nat) (e0_0 : ¬ p0 = 0) (e0_1 : ¬ p0 = 1) : Met l yX12_book wsX12_book ({ frames := 1, cells := 0, slots := 0, locals := 22 }) (va_Pc [.ref h0, .int p0] (CP (dC, dI) [(h0, .inr (11, [.int 0, .ref h1, .int 0, .int 0, .int 0, .int 0, .int 0, .int 0, .int 0, .int 0, .int 0, .int 0, .long 0, .int 0, .ref h2, .ref h3, .ref h4, .ref h5, .ref h6, .ref h7, .ref h8, .ref h9, .ref h10, .int 0, .int 0, .int 0, .int 0, .int (-1), .int (-1), .long 0, .long 0, .ref h11, .ref h12, .int 0, .int (-1), .int 0, .ref h13, .int 0, .ref h14, .ref h15, .int 0, .int 0, .ref h16, .int 0, .int 0, .int 0, .int 0]))] [] sz ad)) (va_Qi (fun (r : Int32) (_ : Unit) => r = (-1000)) (fun (_ : Unit) (t : State) => CQ (dC, dI) [] [] (va_A [(h0, .inr (11, [.int 0, .ref h1, .int 0, .int 0, .int 0, .int 0, .int 0, .int 0, .int 0, .int 0, .int 0, .int 0, .long 0, .int 0, .ref h2, .ref h3, .ref h4, .ref h5, .ref h6, .ref h7, .ref h8, .ref h9, .ref h10, .int 0, .int 0, .int 0, .int 0, .int (-1), .int (-1), .long 0, .long 0, .ref h11, .ref h12, .int 0, .int (-1), .int 0, .ref h13, .int 0, .ref h14, .ref h15, .int 0, .int 0, .ref h16, .int 0, .int 0, .int 0, .int 0]))] sz) t) (va_A [(h0, .inr (11, [.int 0, .ref h1, .int 0, .int 0, .int 0, .int 0, .int 0, .int 0, .int 0, .int 0, .int 0, .int 0, .long 0, .int 0, .ref h2, .ref h3, .ref h4, .ref h5, .ref h6, .ref h7, .ref h8, .ref h9, .ref h10, .int 0, .int 0, .int 0, .int 0, .int (-1), .int (-1), .long 0, .long 0, .ref h11, .ref h12, .int 0, .int (-1), .int 0, .ref h13, .int 0, .ref h14, .ref h15, .int 0, .int 0, .ref h16, .int 0, .int 0, .int 0, .int 0]))] sz)) 0 0 (va_A [(h0, .inr (11, [.int 0, .ref h1, .int 0, .int 0, .int 0, .int 0, .int 0, .int 0, .int 0, .int 0, .int 0, .int 0, .long 0, .int 0, .ref h2, .ref h3, .ref h4, .ref h5, .ref h6, .ref h7, .ref h8, .ref h9, .ref h10, .int 0, .int 0, .int 0, .int 0, .int (-1), .int (-1), .long 0, .long 0, .ref h11, .ref h12, .int 0, .int (-1), .int 0, .ref h13, .int 0, .ref h14, .ref h15, .int 0, .int 0, .ref h16, .int 0, .int 0, .int 0, .int 0]))] sz) := by
  refine Met.ofW (cc := cX12_book) (maxL := 4) (ret := (some .int)) (by decide) rfl ?_
  intro p e s m args below meth c s₁ B hml hv
  obtain ⟨rfl, hsz, hP, hK, hD0, hE⟩ := hv
  have hx := B.exec
  have hb := B.bytes
  have hr := B.returns
  have hts := atoms_spec (ws := wsX12_book) B.pre
  have hown : s.vm.findClass RX12 = some m.cls := findClass_of_methodNamed B.named
  have hlocks := B.notSynchronized
  subst hsz
  have hD := hD0.self (sz := s.heap.size)
  generalize hAe : va_A [(h0, .inr (11, [.int 0, .ref h1, .int 0, .int 0, .int 0, .int 0, .int 0, .int 0, .int 0, .int 0, .int 0, .int 0, .long 0, .int 0, .ref h2, .ref h3, .ref h4, .ref h5, .ref h6, .ref h7, .ref h8, .ref h9, .ref h10, .int 0, .int 0, .int 0, .int 0, .int (-1), .int (-1), .long 0, .long 0, .ref h11, .ref h12, .int 0, .int (-1), .int 0, .ref h13, .int 0, .ref h14, .ref h15, .int 0, .int 0, .ref h16, .int 0, .int 0, .int 0, .int 0]))] s.heap.size = A at hD hE ⊢
  have hA : ∀ q : Nat, s.heap.size ≤ q → A q := fun q h => by rw [← hAe]; exact Or.inr h
  have hS : va_S A s.heap s.heap [] := va_S.rf
  have hl := lv_entry ([.ref h0, .int p0]) (n := 4) (Nat.le_of_ble_eq_true rfl)
  rw [lg_entry_eq]
  generalize (lg_sl ([.ref h0, .int p0]) ++ List.replicate (4 - (lg_sl ([.ref h0, .int p0])).length) Slot.unset).toArray = ls at hl ⊢
  have hl : lv_has ls 4 [(0, .ref h0), (1, .int p0)] := hl
  refine lv_aload_n hx hb dX12_book_0 rfl (lv_at hl 0 rfl) ?_
  refine lv_iconst (v := 0) hx hb dX12_book_1 (by decide) ?_
  refine va_put (D := (dC, dI)) (ci := 11) (v := .int 0) (ty := .int) (C := RX12) (T := TX12) (N := 47) hx hb hts ii_X12_book_X12 tyX12 tyX12_ok nmX12 hown hK hP hD hS 0 rfl rfl 0 (by decide) (hts _ mm_X12_book_1) (fun _ h9 => h9) rfl (by decide +kernel) rfl rfl (Nat.le_of_ble_eq_true rfl) dX12_book_2 (fun H locs hP hD hS => ?_)
  have hP : va_P (dC, dI) vwCl [(h0, .inr (11, [.int 0, .ref h1, .int 0, .int 0, .int 0, .int 0, .int 0, .int 0, .int 0, .int 0, .int 0, .int 0, .long 0, .int 0, .ref h2, .ref h3, .ref h4, .ref h5, .ref h6, .ref h7, .ref h8, .ref h9, .ref h10, .int 0, .int 0, .int 0, .int 0, .int (-1), .int (-1), .long 0, .long 0, .ref h11, .ref h12, .int 0, .int (-1), .int 0, .ref h13, .int 0, .ref h14, .ref h15, .int 0, .int 0, .ref h16, .int 0, .int 0, .int 0, .int 0]))] H := hP
  have hD : va_D A [(h0, .inr (11, [.int 0, .ref h1, .int 0, .int 0, .int 0, .int 0, .int 0, .int 0, .int 0, .int 0, .int 0, .int 0, .long 0, .int 0, .ref h2, .ref h3, .ref h4, .ref h5, .ref h6, .ref h7, .ref h8, .ref h9, .ref h10, .int 0, .int 0, .int 0, .int 0, .int (-1), .int (-1), .long 0, .long 0, .ref h11, .ref h12, .int 0, .int (-1), .int 0, .ref h13, .int 0, .ref h14, .ref h15, .int 0, .int 0, .ref h16, .int 0, .int 0, .int 0, .int 0]))] := hD
  refine lv_iload_n hx hb dX12_book_5 rfl (lv_at hl 1 rfl) ?_
  refine lv_iconst (v := 0) hx hb dX12_book_6 (by decide) ?_
  refine lv_iconst (v := 1) hx hb dX12_book_7 (by decide) ?_
  have hPc := hP.sub (ws' := []) [] rfl
  have hDc := hD.sub (ws' := []) [] (by decide) rfl
  have hKc := hK.sub (tys' := []) [] rfl
  have hFc := va_free (wc := []) hD hS hA [] rfl
  refine va_calli (va_runS (As := [.int p0, .int 0, .int 1]) (rest := []) ⟨hx, hb, hml, hown, hts⟩ (k_X12_isIn_11 l dC dI ad p0 H.size (by clear hP hD hK hS hE hPc hDc hKc hFc; simp only [Int32.lt_iff_toInt_lt, Int32.le_iff_toInt_le, ← Int32.toInt_inj, Int32.reduceToInt] at e0_0 e0_1 ⊢; omega) (by clear hP hD hK hS hE hPc hDc hKc hFc; simp only [Int32.lt_iff_toInt_lt, Int32.le_iff_toInt_le, ← Int32.toInt_inj, Int32.reduceToInt] at e0_0 e0_1 ⊢; omega)) (cwS 3 hts gX12_book_X12_isIn rfl rfl rfl (by decide +kernel) ⟨Nat.le_of_ble_eq_true rfl, Nat.le_of_ble_eq_true rfl⟩) ⟨fun a U g mk q => ⟨q.1, CP.blind q.2⟩, fun U hU hW => ⟨rfl, CP.of hPc hKc hDc hE hS hFc hU hW⟩⟩ rfl rfl hl.1 rfl (lv_room (Nat.le_of_ble_eq_true rfl)) dX12_book_8 ⟨Nat.le_of_ble_eq_true rfl, Nat.le_of_ble_eq_true rfl⟩) hS (fun q _ h => hFc q h) hFc (fun r1 u t H1 locs ht hvm hw hB hz1 hk1 hS => ?_)
  obtain ⟨hP1, hK1, hD1⟩ := hB
  rw [ht] at hP1
  obtain ⟨hP, hD⟩ := va_join (wr := [(h0, .inr (11, [.int 0, .ref h1, .int 0, .int 0, .int 0, .int 0, .int 0, .int 0, .int 0, .int 0, .int 0, .int 0, .long 0, .int 0, .ref h2, .ref h3, .ref h4, .ref h5, .ref h6, .ref h7, .ref h8, .ref h9, .ref h10, .int 0, .int 0, .int 0, .int 0, .int (-1), .int (-1), .long 0, .long 0, .ref h11, .ref h12, .int 0, .int (-1), .int 0, .ref h13, .int 0, .ref h14, .ref h15, .int 0, .int 0, .ref h16, .int 0, .int 0, .int 0, .int 0]))]) (w1 := []) hP hD [] [0] rfl rfl (by decide) (by decide) hk1 hFc hP1 hD1
  generalize H1 = H at hP hS ⊢
  clear hPc hDc hKc hFc hP1 hD1 hK1 hk1 hz1
  have hP : va_P (dC, dI) vwCl [(h0, .inr (11, [.int 0, .ref h1, .int 0, .int 0, .int 0, .int 0, .int 0, .int 0, .int 0, .int 0, .int 0, .int 0, .long 0, .int 0, .ref h2, .ref h3, .ref h4, .ref h5, .ref h6, .ref h7, .ref h8, .ref h9, .ref h10, .int 0, .int 0, .int 0, .int 0, .int (-1), .int (-1), .long 0, .long 0, .ref h11, .ref h12, .int 0, .int (-1), .int 0, .ref h13, .int 0, .ref h14, .ref h15, .int 0, .int 0, .ref h16, .int 0, .int 0, .int 0, .int 0]))] H := hP
  have hD : va_D A [(h0, .inr (11, [.int 0, .ref h1, .int 0, .int 0, .int 0, .int 0, .int 0, .int 0, .int 0, .int 0, .int 0, .int 0, .long 0, .int 0, .ref h2, .ref h3, .ref h4, .ref h5, .ref h6, .ref h7, .ref h8, .ref h9, .ref h10, .int 0, .int 0, .int 0, .int 0, .int (-1), .int (-1), .long 0, .long 0, .ref h11, .ref h12, .int 0, .int (-1), .int 0, .ref h13, .int 0, .ref h14, .ref h15, .int 0, .int 0, .ref h16, .int 0, .int 0, .int 0, .int 0]))] := hD
  refine zz_top (v := 0) hw ?_
  refine lv_if_ne (tgt := 18) hx hb dX12_book_11 (by decide) (fun c2 => absurd c2 (by decide)) (fun _ => ?_)
  refine lv_sipush (v := (-1000)) hx hb dX12_book_14 (by decide) ?_
  have hP9 := hP.sub (ws' := []) [] rfl
  have hD9 := hD.sub (ws' := []) [] (by decide) rfl
  have hK9 := hK.sub (tys' := []) [] rfl
  refine W.widen (k := 0) (n := 0) (Nat.le_of_ble_eq_true rfl) (Nat.le_of_ble_eq_true rfl) ?_
  exact W.iret (v := (-1000)) hx hb hr (fun t ht hW => ⟨⟨(-1000), (), rfl, rfl, by rw [ht]; exact hP9, va_K.moved hW.alike hK9, hD9⟩, hS.F ht⟩) hS.2.2 dX12_book_17
set_option maxHeartbeats 4000000 in
set_option maxRecDepth 100000 in
theorem k_X12_told (l : Launch) (dC : Nat → ClassId) (dI : Nat → Nat → Nat) (ad : Nat → Nat) (h0 h1 h2 h3 h4 h5 h6 h7 h8 h9 h10 h11 h12 h13 h14 h15 h16 : Nat) (sz : Nat) : Met l yX12_told wsX12_told ({ frames := 0, cells := 0, slots := 0, locals := 0 }) (va_Pc [.ref h0, .int 0] (CP (dC, dI) [(h0, .inr (11, [.int 0, .ref h1, .int 0, .int 0, .int 0, .int 0, .int 0, .int 0, .int 0, .int 0, .int 0, .int 0, .long 0, .int 0, .ref h2, .ref h3, .ref h4, .ref h5, .ref h6, .ref h7, .ref h8, .ref h9, .ref h10, .int 0, .int 0, .int 0, .int 0, .int (-1), .int (-1), .long 0, .long 0, .ref h11, .ref h12, .int 0, .int (-1), .int 0, .ref h13, .int 0, .ref h14, .ref h15, .int 0, .int 0, .ref h16, .int 0, .int 0, .int 0, .int 0]))] [] sz ad)) (va_Qi (fun (r : Int32) (_ : Unit) => r = (-1)) (fun (_ : Unit) (t : State) => CQ (dC, dI) [] [] (va_A [(h0, .inr (11, [.int 0, .ref h1, .int 0, .int 0, .int 0, .int 0, .int 0, .int 0, .int 0, .int 0, .int 0, .int 0, .long 0, .int 0, .ref h2, .ref h3, .ref h4, .ref h5, .ref h6, .ref h7, .ref h8, .ref h9, .ref h10, .int 0, .int 0, .int 0, .int 0, .int (-1), .int (-1), .long 0, .long 0, .ref h11, .ref h12, .int 0, .int (-1), .int 0, .ref h13, .int 0, .ref h14, .ref h15, .int 0, .int 0, .ref h16, .int 0, .int 0, .int 0, .int 0]))] sz) t) (va_A [(h0, .inr (11, [.int 0, .ref h1, .int 0, .int 0, .int 0, .int 0, .int 0, .int 0, .int 0, .int 0, .int 0, .int 0, .long 0, .int 0, .ref h2, .ref h3, .ref h4, .ref h5, .ref h6, .ref h7, .ref h8, .ref h9, .ref h10, .int 0, .int 0, .int 0, .int 0, .int (-1), .int (-1), .long 0, .long 0, .ref h11, .ref h12, .int 0, .int (-1), .int 0, .ref h13, .int 0, .ref h14, .ref h15, .int 0, .int 0, .ref h16, .int 0, .int 0, .int 0, .int 0]))] sz)) 0 0 (va_A [(h0, .inr (11, [.int 0, .ref h1, .int 0, .int 0, .int 0, .int 0, .int 0, .int 0, .int 0, .int 0, .int 0, .int 0, .long 0, .int 0, .ref h2, .ref h3, .ref h4, .ref h5, .ref h6, .ref h7, .ref h8, .ref h9, .ref h10, .int 0, .int 0, .int 0, .int 0, .int (-1), .int (-1), .long 0, .long 0, .ref h11, .ref h12, .int 0, .int (-1), .int 0, .ref h13, .int 0, .ref h14, .ref h15, .int 0, .int 0, .ref h16, .int 0, .int 0, .int 0, .int 0]))] sz) := by
  refine Met.ofW (cc := cX12_told) (maxL := 2) (ret := (some .int)) (by decide) rfl ?_
  intro p e s m args below meth c s₁ B hml hv
  obtain ⟨rfl, hsz, hP, hK, hD0, hE⟩ := hv
  have hx := B.exec
  have hb := B.bytes
  have hr := B.returns
  have hts := atoms_spec (ws := wsX12_told) B.pre
  have hown : s.vm.findClass RX12 = some m.cls := findClass_of_methodNamed B.named
  have hlocks := B.notSynchronized
  subst hsz
  have hD := hD0.self (sz := s.heap.size)
  generalize hAe : va_A [(h0, .inr (11, [.int 0, .ref h1, .int 0, .int 0, .int 0, .int 0, .int 0, .int 0, .int 0, .int 0, .int 0, .int 0, .long 0, .int 0, .ref h2, .ref h3, .ref h4, .ref h5, .ref h6, .ref h7, .ref h8, .ref h9, .ref h10, .int 0, .int 0, .int 0, .int 0, .int (-1), .int (-1), .long 0, .long 0, .ref h11, .ref h12, .int 0, .int (-1), .int 0, .ref h13, .int 0, .ref h14, .ref h15, .int 0, .int 0, .ref h16, .int 0, .int 0, .int 0, .int 0]))] s.heap.size = A at hD hE ⊢
  have hA : ∀ q : Nat, s.heap.size ≤ q → A q := fun q h => by rw [← hAe]; exact Or.inr h
  have hS : va_S A s.heap s.heap [] := va_S.rf
  have hl := lv_entry ([.ref h0, .int 0]) (n := 2) (Nat.le_of_ble_eq_true rfl)
  rw [lg_entry_eq]
  generalize (lg_sl ([.ref h0, .int 0]) ++ List.replicate (2 - (lg_sl ([.ref h0, .int 0])).length) Slot.unset).toArray = ls at hl ⊢
  have hl : lv_has ls 2 [(0, .ref h0), (1, .int 0)] := hl
  refine lv_aload_n hx hb dX12_told_0 rfl (lv_at hl 0 rfl) ?_
  refine lv_iconst (v := 0) hx hb dX12_told_1 (by decide) ?_
  refine va_put (D := (dC, dI)) (ci := 11) (v := .int 0) (ty := .int) (C := RX12) (T := TX12) (N := 47) hx hb hts ii_X12_told_X12 tyX12 tyX12_ok nmX12 hown hK hP hD hS 0 rfl rfl 0 (by decide) (hts _ mm_X12_told_1) (fun _ h9 => h9) rfl (by decide +kernel) rfl rfl (Nat.le_of_ble_eq_true rfl) dX12_told_2 (fun H locs hP hD hS => ?_)
  have hP : va_P (dC, dI) vwCl [(h0, .inr (11, [.int 0, .ref h1, .int 0, .int 0, .int 0, .int 0, .int 0, .int 0, .int 0, .int 0, .int 0, .int 0, .long 0, .int 0, .ref h2, .ref h3, .ref h4, .ref h5, .ref h6, .ref h7, .ref h8, .ref h9, .ref h10, .int 0, .int 0, .int 0, .int 0, .int (-1), .int (-1), .long 0, .long 0, .ref h11, .ref h12, .int 0, .int (-1), .int 0, .ref h13, .int 0, .ref h14, .ref h15, .int 0, .int 0, .ref h16, .int 0, .int 0, .int 0, .int 0]))] H := hP
  have hD : va_D A [(h0, .inr (11, [.int 0, .ref h1, .int 0, .int 0, .int 0, .int 0, .int 0, .int 0, .int 0, .int 0, .int 0, .int 0, .long 0, .int 0, .ref h2, .ref h3, .ref h4, .ref h5, .ref h6, .ref h7, .ref h8, .ref h9, .ref h10, .int 0, .int 0, .int 0, .int 0, .int (-1), .int (-1), .long 0, .long 0, .ref h11, .ref h12, .int 0, .int (-1), .int 0, .ref h13, .int 0, .ref h14, .ref h15, .int 0, .int 0, .ref h16, .int 0, .int 0, .int 0, .int 0]))] := hD
  refine lv_aload_n hx hb dX12_told_5 rfl (lv_at hl 0 rfl) ?_
  refine va_get (D := (dC, dI)) (ci := 11) (v := .int 0) (C := RX12) (T := TX12) (N := 47) hx hb hts ii_X12_told_X12 hown hK hP 0 rfl rfl 41 (by decide) (hts _ mm_X12_told_2) (fun _ h9 => h9) rfl dX12_told_6 ?_
  refine lv_if_eq (tgt := 30) hx hb dX12_told_9 (by decide) (fun _ => ?_) (fun c1 => absurd (by decide) c1)
  refine lv_iconst (v := (-1)) hx hb dX12_told_30 (by decide) ?_
  have hP9 := hP.sub (ws' := []) [] rfl
  have hD9 := hD.sub (ws' := []) [] (by decide) rfl
  have hK9 := hK.sub (tys' := []) [] rfl
  refine W.widen (k := 0) (n := 0) (Nat.le_of_ble_eq_true rfl) (Nat.le_of_ble_eq_true rfl) ?_
  exact W.iret (v := (-1)) hx hb hr (fun t ht hW => ⟨⟨(-1), (), rfl, rfl, by rw [ht]; exact hP9, va_K.moved hW.alike hK9, hD9⟩, hS.F ht⟩) hS.2.2 dX12_told_31
set_option maxHeartbeats 4000000 in
set_option maxRecDepth 100000 in
theorem k_X12_told_1 (l : Launch) (dC : Nat → ClassId) (dI : Nat → Nat → Nat) (ad : Nat → Nat) (h0 h1 h2 h3 h4 h5 h6 h7 h8 h9 h10 h11 h12 h13 h14 h15 h16 : Nat) (sz : Nat) : Met l yX12_told wsX12_told ({ frames := 0, cells := 0, slots := 0, locals := 0 }) (va_Pc [.ref h0, .int 1] (CP (dC, dI) [(h0, .inr (11, [.int 0, .ref h1, .int 0, .int 0, .int 0, .int 0, .int 0, .int 0, .int 0, .int 0, .int 0, .int 0, .long 0, .int 0, .ref h2, .ref h3, .ref h4, .ref h5, .ref h6, .ref h7, .ref h8, .ref h9, .ref h10, .int 0, .int 0, .int 0, .int 0, .int (-1), .int (-1), .long 0, .long 0, .ref h11, .ref h12, .int 0, .int (-1), .int 0, .ref h13, .int 0, .ref h14, .ref h15, .int 0, .int 0, .ref h16, .int 0, .int 0, .int 0, .int 0]))] [] sz ad)) (va_Qi (fun (r : Int32) (_ : Unit) => r = (-1)) (fun (_ : Unit) (t : State) => CQ (dC, dI) [] [] (va_A [(h0, .inr (11, [.int 0, .ref h1, .int 0, .int 0, .int 0, .int 0, .int 0, .int 0, .int 0, .int 0, .int 0, .int 0, .long 0, .int 0, .ref h2, .ref h3, .ref h4, .ref h5, .ref h6, .ref h7, .ref h8, .ref h9, .ref h10, .int 0, .int 0, .int 0, .int 0, .int (-1), .int (-1), .long 0, .long 0, .ref h11, .ref h12, .int 0, .int (-1), .int 0, .ref h13, .int 0, .ref h14, .ref h15, .int 0, .int 0, .ref h16, .int 0, .int 0, .int 0, .int 0]))] sz) t) (va_A [(h0, .inr (11, [.int 0, .ref h1, .int 0, .int 0, .int 0, .int 0, .int 0, .int 0, .int 0, .int 0, .int 0, .int 0, .long 0, .int 0, .ref h2, .ref h3, .ref h4, .ref h5, .ref h6, .ref h7, .ref h8, .ref h9, .ref h10, .int 0, .int 0, .int 0, .int 0, .int (-1), .int (-1), .long 0, .long 0, .ref h11, .ref h12, .int 0, .int (-1), .int 0, .ref h13, .int 0, .ref h14, .ref h15, .int 0, .int 0, .ref h16, .int 0, .int 0, .int 0, .int 0]))] sz)) 0 0 (va_A [(h0, .inr (11, [.int 0, .ref h1, .int 0, .int 0, .int 0, .int 0, .int 0, .int 0, .int 0, .int 0, .int 0, .int 0, .long 0, .int 0, .ref h2, .ref h3, .ref h4, .ref h5, .ref h6, .ref h7, .ref h8, .ref h9, .ref h10, .int 0, .int 0, .int 0, .int 0, .int (-1), .int (-1), .long 0, .long 0, .ref h11, .ref h12, .int 0, .int (-1), .int 0, .ref h13, .int 0, .ref h14, .ref h15, .int 0, .int 0, .ref h16, .int 0, .int 0, .int 0, .int 0]))] sz) := by
  refine Met.ofW (cc := cX12_told) (maxL := 2) (ret := (some .int)) (by decide) rfl ?_
  intro p e s m args below meth c s₁ B hml hv
  obtain ⟨rfl, hsz, hP, hK, hD0, hE⟩ := hv
  have hx := B.exec
  have hb := B.bytes
  have hr := B.returns
  have hts := atoms_spec (ws := wsX12_told) B.pre
  have hown : s.vm.findClass RX12 = some m.cls := findClass_of_methodNamed B.named
  have hlocks := B.notSynchronized
  subst hsz
  have hD := hD0.self (sz := s.heap.size)
  generalize hAe : va_A [(h0, .inr (11, [.int 0, .ref h1, .int 0, .int 0, .int 0, .int 0, .int 0, .int 0, .int 0, .int 0, .int 0, .int 0, .long 0, .int 0, .ref h2, .ref h3, .ref h4, .ref h5, .ref h6, .ref h7, .ref h8, .ref h9, .ref h10, .int 0, .int 0, .int 0, .int 0, .int (-1), .int (-1), .long 0, .long 0, .ref h11, .ref h12, .int 0, .int (-1), .int 0, .ref h13, .int 0, .ref h14, .ref h15, .int 0, .int 0, .ref h16, .int 0, .int 0, .int 0, .int 0]))] s.heap.size = A at hD hE ⊢
  have hA : ∀ q : Nat, s.heap.size ≤ q → A q := fun q h => by rw [← hAe]; exact Or.inr h
  have hS : va_S A s.heap s.heap [] := va_S.rf
  have hl := lv_entry ([.ref h0, .int 1]) (n := 2) (Nat.le_of_ble_eq_true rfl)
  rw [lg_entry_eq]
  generalize (lg_sl ([.ref h0, .int 1]) ++ List.replicate (2 - (lg_sl ([.ref h0, .int 1])).length) Slot.unset).toArray = ls at hl ⊢
  have hl : lv_has ls 2 [(0, .ref h0), (1, .int 1)] := hl
  refine lv_aload_n hx hb dX12_told_0 rfl (lv_at hl 0 rfl) ?_
  refine lv_iconst (v := 0) hx hb dX12_told_1 (by decide) ?_
  refine va_put (D := (dC, dI)) (ci := 11) (v := .int 0) (ty := .int) (C := RX12) (T := TX12) (N := 47) hx hb hts ii_X12_told_X12 tyX12 tyX12_ok nmX12 hown hK hP hD hS 0 rfl rfl 0 (by decide) (hts _ mm_X12_told_1) (fun _ h9 => h9) rfl (by decide +kernel) rfl rfl (Nat.le_of_ble_eq_true rfl) dX12_told_2 (fun H locs hP hD hS => ?_)
  have hP : va_P (dC, dI) vwCl [(h0, .inr (11, [.int 0, .ref h1, .int 0, .int 0, .int 0, .int 0, .int 0, .int 0, .int 0, .int 0, .int 0, .int 0, .long 0, .int 0, .ref h2, .ref h3, .ref h4, .ref h5, .ref h6, .ref h7, .ref h8, .ref h9, .ref h10, .int 0, .int 0, .int 0, .int 0, .int (-1), .int (-1), .long 0, .long 0, .ref h11, .ref h12, .int 0, .int (-1), .int 0, .ref h13, .int 0, .ref h14, .ref h15, .int 0, .int 0, .ref h16, .int 0, .int 0, .int 0, .int 0]))] H := hP
  have hD : va_D A [(h0, .inr (11, [.int 0, .ref h1, .int 0, .int 0, .int 0, .int 0, .int 0, .int 0, .int 0, .int 0, .int 0, .int 0, .long 0, .int 0, .ref h2, .ref h3, .ref h4, .ref h5, .ref h6, .ref h7, .ref h8, .ref h9, .ref h10, .int 0, .int 0, .int 0, .int 0, .int (-1), .int (-1), .long 0, .long 0, .ref h11, .ref h12, .int 0, .int (-1), .int 0, .ref h13, .int 0, .ref h14, .ref h15, .int 0, .int 0, .ref h16, .int 0, .int 0, .int 0, .int 0]))] := hD
  refine lv_aload_n hx hb dX12_told_5 rfl (lv_at hl 0 rfl) ?_
  refine va_get (D := (dC, dI)) (ci := 11) (v := .int 0) (C := RX12) (T := TX12) (N := 47) hx hb hts ii_X12_told_X12 hown hK hP 0 rfl rfl 41 (by decide) (hts _ mm_X12_told_2) (fun _ h9 => h9) rfl dX12_told_6 ?_
  refine lv_if_eq (tgt := 30) hx hb dX12_told_9 (by decide) (fun _ => ?_) (fun c1 => absurd (by decide) c1)
  refine lv_iconst (v := (-1)) hx hb dX12_told_30 (by decide) ?_
  have hP9 := hP.sub (ws' := []) [] rfl
  have hD9 := hD.sub (ws' := []) [] (by decide) rfl
  have hK9 := hK.sub (tys' := []) [] rfl
  refine W.widen (k := 0) (n := 0) (Nat.le_of_ble_eq_true rfl) (Nat.le_of_ble_eq_true rfl) ?_
  exact W.iret (v := (-1)) hx hb hr (fun t ht hW => ⟨⟨(-1), (), rfl, rfl, by rw [ht]; exact hP9, va_K.moved hW.alike hK9, hD9⟩, hS.F ht⟩) hS.2.2 dX12_told_31
set_option maxHeartbeats 4000000 in
set_option maxRecDepth 100000 in
theorem k_X12_told_2 (l : Launch) (dC : Nat → ClassId) (dI : Nat → Nat → Nat) (ad : Nat → Nat) (h0 h1 h2 h3 h4 h5 h6 h7 h8 h9 h10 h11 h12 h13 h14 h15 h16 : Nat) (sz : Nat) : Met l yX12_told wsX12_told ({ frames := 0, cells := 0, slots := 0, locals := 0 }) (va_Pc [.ref h0, .int 2] (CP (dC, dI) [(h0, .inr (11, [.int 0, .ref h1, .int 0, .int 0, .int 0, .int 0, .int 0, .int 0, .int 0, .int 0, .int 0, .int 0, .long 0, .int 0, .ref h2, .ref h3, .ref h4, .ref h5, .ref h6, .ref h7, .ref h8, .ref h9, .ref h10, .int 0, .int 0, .int 0, .int 0, .int (-1), .int (-1), .long 0, .long 0, .ref h11, .ref h12, .int 0, .int (-1), .int 0, .ref h13, .int 0, .ref h14, .ref h15, .int 0, .int 0, .ref h16, .int 0, .int 0, .int 0, .int 0]))] [] sz ad)) (va_Qi (fun (r : Int32) (_ : Unit) => r = (-1)) (fun (_ : Unit) (t : State) => CQ (dC, dI) [] [] (va_A [(h0, .inr (11, [.int 0, .ref h1, .int 0, .int 0, .int 0, .int 0, .int 0, .int 0, .int 0, .int 0, .int 0, .int 0, .long 0, .int 0, .ref h2, .ref h3, .ref h4, .ref h5, .ref h6, .ref h7, .ref h8, .ref h9, .ref h10, .int 0, .int 0, .int 0, .int 0, .int (-1), .int (-1), .long 0, .long 0, .ref h11, .ref h12, .int 0, .int (-1), .int 0, .ref h13, .int 0, .ref h14, .ref h15, .int 0, .int 0, .ref h16, .int 0, .int 0, .int 0, .int 0]))] sz) t) (va_A [(h0, .inr (11, [.int 0, .ref h1, .int 0, .int 0, .int 0, .int 0, .int 0, .int 0, .int 0, .int 0, .int 0, .int 0, .long 0, .int 0, .ref h2, .ref h3, .ref h4, .ref h5, .ref h6, .ref h7, .ref h8, .ref h9, .ref h10, .int 0, .int 0, .int 0, .int 0, .int (-1), .int (-1), .long 0, .long 0, .ref h11, .ref h12, .int 0, .int (-1), .int 0, .ref h13, .int 0, .ref h14, .ref h15, .int 0, .int 0, .ref h16, .int 0, .int 0, .int 0, .int 0]))] sz)) 0 0 (va_A [(h0, .inr (11, [.int 0, .ref h1, .int 0, .int 0, .int 0, .int 0, .int 0, .int 0, .int 0, .int 0, .int 0, .int 0, .long 0, .int 0, .ref h2, .ref h3, .ref h4, .ref h5, .ref h6, .ref h7, .ref h8, .ref h9, .ref h10, .int 0, .int 0, .int 0, .int 0, .int (-1), .int (-1), .long 0, .long 0, .ref h11, .ref h12, .int 0, .int (-1), .int 0, .ref h13, .int 0, .ref h14, .ref h15, .int 0, .int 0, .ref h16, .int 0, .int 0, .int 0, .int 0]))] sz) := by
  refine Met.ofW (cc := cX12_told) (maxL := 2) (ret := (some .int)) (by decide) rfl ?_
  intro p e s m args below meth c s₁ B hml hv
  obtain ⟨rfl, hsz, hP, hK, hD0, hE⟩ := hv
  have hx := B.exec
  have hb := B.bytes
  have hr := B.returns
  have hts := atoms_spec (ws := wsX12_told) B.pre
  have hown : s.vm.findClass RX12 = some m.cls := findClass_of_methodNamed B.named
  have hlocks := B.notSynchronized
  subst hsz
  have hD := hD0.self (sz := s.heap.size)
  generalize hAe : va_A [(h0, .inr (11, [.int 0, .ref h1, .int 0, .int 0, .int 0, .int 0, .int 0, .int 0, .int 0, .int 0, .int 0, .int 0, .long 0, .int 0, .ref h2, .ref h3, .ref h4, .ref h5, .ref h6, .ref h7, .ref h8, .ref h9, .ref h10, .int 0, .int 0, .int 0, .int 0, .int (-1), .int (-1), .long 0, .long 0, .ref h11, .ref h12, .int 0, .int (-1), .int 0, .ref h13, .int 0, .ref h14, .ref h15, .int 0, .int 0, .ref h16, .int 0, .int 0, .int 0, .int 0]))] s.heap.size = A at hD hE ⊢
  have hA : ∀ q : Nat, s.heap.size ≤ q → A q := fun q h => by rw [← hAe]; exact Or.inr h
  have hS : va_S A s.heap s.heap [] := va_S.rf
  have hl := lv_entry ([.ref h0, .int 2]) (n := 2) (Nat.le_of_ble_eq_true rfl)
  rw [lg_entry_eq]
  generalize (lg_sl ([.ref h0, .int 2]) ++ List.replicate (2 - (lg_sl ([.ref h0, .int 2])).length) Slot.unset).toArray = ls at hl ⊢
  have hl : lv_has ls 2 [(0, .ref h0), (1, .int 2)] := hl
  refine lv_aload_n hx hb dX12_told_0 rfl (lv_at hl 0 rfl) ?_
  refine lv_iconst (v := 0) hx hb dX12_told_1 (by decide) ?_
  refine va_put (D := (dC, dI)) (ci := 11) (v := .int 0) (ty := .int) (C := RX12) (T := TX12) (N := 47) hx hb hts ii_X12_told_X12 tyX12 tyX12_ok nmX12 hown hK hP hD hS 0 rfl rfl 0 (by decide) (hts _ mm_X12_told_1) (fun _ h9 => h9) rfl (by decide +kernel) rfl rfl (Nat.le_of_ble_eq_true rfl) dX12_told_2 (fun H locs hP hD hS => ?_)
  have hP : va_P (dC, dI) vwCl [(h0, .inr (11, [.int 0, .ref h1, .int 0, .int 0, .int 0, .int 0, .int 0, .int 0, .int 0, .int 0, .int 0, .int 0, .long 0, .int 0, .ref h2, .ref h3, .ref h4, .ref h5, .ref h6, .ref h7, .ref h8, .ref h9, .ref h10, .int 0, .int 0, .int 0, .int 0, .int (-1), .int (-1), .long 0, .long 0, .ref h11, .ref h12, .int 0, .int (-1), .int 0, .ref h13, .int 0, .ref h14, .ref h15, .int 0, .int 0, .ref h16, .int 0, .int 0, .int 0, .int 0]))] H := hP
  have hD : va_D A [(h0, .inr (11, [.int 0, .ref h1, .int 0, .int 0, .int 0, .int 0, .int 0, .int 0, .int 0, .int 0, .int 0, .int 0, .long 0, .int 0, .ref h2, .ref h3, .ref h4, .ref h5, .ref h6, .ref h7, .ref h8, .ref h9, .ref h10, .int 0, .int 0, .int 0, .int 0, .int (-1), .int (-1), .long 0, .long 0, .ref h11, .ref h12, .int 0, .int (-1), .int 0, .ref h13, .int 0, .ref h14, .ref h15, .int 0, .int 0, .ref h16, .int 0, .int 0, .int 0, .int 0]))] := hD
  refine lv_aload_n hx hb dX12_told_5 rfl (lv_at hl 0 rfl) ?_
  refine va_get (D := (dC, dI)) (ci := 11) (v := .int 0) (C := RX12) (T := TX12) (N := 47) hx hb hts ii_X12_told_X12 hown hK hP 0 rfl rfl 41 (by decide) (hts _ mm_X12_told_2) (fun _ h9 => h9) rfl dX12_told_6 ?_
  refine lv_if_eq (tgt := 30) hx hb dX12_told_9 (by decide) (fun _ => ?_) (fun c1 => absurd (by decide) c1)
  refine lv_iconst (v := (-1)) hx hb dX12_told_30 (by decide) ?_
  have hP9 := hP.sub (ws' := []) [] rfl
  have hD9 := hD.sub (ws' := []) [] (by decide) rfl
  have hK9 := hK.sub (tys' := []) [] rfl
  refine W.widen (k := 0) (n := 0) (Nat.le_of_ble_eq_true rfl) (Nat.le_of_ble_eq_true rfl) ?_
  exact W.iret (v := (-1)) hx hb hr (fun t ht hW => ⟨⟨(-1), (), rfl, rfl, by rw [ht]; exact hP9, va_K.moved hW.alike hK9, hD9⟩, hS.F ht⟩) hS.2.2 dX12_told_31
set_option maxHeartbeats 4000000 in
set_option maxRecDepth 100000 in
theorem k_X12_told_3 (l : Launch) (dC : Nat → ClassId) (dI : Nat → Nat → Nat) (ad : Nat → Nat) (h0 h1 h2 h3 h4 h5 h6 h7 h8 h9 h10 h11 h12 h13 h14 h15 h16 : Nat) (sz : Nat) : Met l yX12_told wsX12_told ({ frames := 0, cells := 0, slots := 0, locals := 0 }) (va_Pc [.ref h0, .int 3] (CP (dC, dI) [(h0, .inr (11, [.int 0, .ref h1, .int 0, .int 0, .int 0, .int 0, .int 0, .int 0, .int 0, .int 0, .int 0, .int 0, .long 0, .int 0, .ref h2, .ref h3, .ref h4, .ref h5, .ref h6, .ref h7, .ref h8, .ref h9, .ref h10, .int 0, .int 0, .int 0, .int 0, .int (-1), .int (-1), .long 0, .long 0, .ref h11, .ref h12, .int 0, .int (-1), .int 0, .ref h13, .int 0, .ref h14, .ref h15, .int 0, .int 0, .ref h16, .int 0, .int 0, .int 0, .int 0]))] [] sz ad)) (va_Qi (fun (r : Int32) (_ : Unit) => r = (-1)) (fun (_ : Unit) (t : State) => CQ (dC, dI) [] [] (va_A [(h0, .inr (11, [.int 0, .ref h1, .int 0, .int 0, .int 0, .int 0, .int 0, .int 0, .int 0, .int 0, .int 0, .int 0, .long 0, .int 0, .ref h2, .ref h3, .ref h4, .ref h5, .ref h6, .ref h7, .ref h8, .ref h9, .ref h10, .int 0, .int 0, .int 0, .int 0, .int (-1), .int (-1), .long 0, .long 0, .ref h11, .ref h12, .int 0, .int (-1), .int 0, .ref h13, .int 0, .ref h14, .ref h15, .int 0, .int 0, .ref h16, .int 0, .int 0, .int 0, .int 0]))] sz) t) (va_A [(h0, .inr (11, [.int 0, .ref h1, .int 0, .int 0, .int 0, .int 0, .int 0, .int 0, .int 0, .int 0, .int 0, .int 0, .long 0, .int 0, .ref h2, .ref h3, .ref h4, .ref h5, .ref h6, .ref h7, .ref h8, .ref h9, .ref h10, .int 0, .int 0, .int 0, .int 0, .int (-1), .int (-1), .long 0, .long 0, .ref h11, .ref h12, .int 0, .int (-1), .int 0, .ref h13, .int 0, .ref h14, .ref h15, .int 0, .int 0, .ref h16, .int 0, .int 0, .int 0, .int 0]))] sz)) 0 0 (va_A [(h0, .inr (11, [.int 0, .ref h1, .int 0, .int 0, .int 0, .int 0, .int 0, .int 0, .int 0, .int 0, .int 0, .int 0, .long 0, .int 0, .ref h2, .ref h3, .ref h4, .ref h5, .ref h6, .ref h7, .ref h8, .ref h9, .ref h10, .int 0, .int 0, .int 0, .int 0, .int (-1), .int (-1), .long 0, .long 0, .ref h11, .ref h12, .int 0, .int (-1), .int 0, .ref h13, .int 0, .ref h14, .ref h15, .int 0, .int 0, .ref h16, .int 0, .int 0, .int 0, .int 0]))] sz) := by
  refine Met.ofW (cc := cX12_told) (maxL := 2) (ret := (some .int)) (by decide) rfl ?_
  intro p e s m args below meth c s₁ B hml hv
  obtain ⟨rfl, hsz, hP, hK, hD0, hE⟩ := hv
  have hx := B.exec
  have hb := B.bytes
  have hr := B.returns
  have hts := atoms_spec (ws := wsX12_told) B.pre
  have hown : s.vm.findClass RX12 = some m.cls := findClass_of_methodNamed B.named
  have hlocks := B.notSynchronized
  subst hsz
  have hD := hD0.self (sz := s.heap.size)
  generalize hAe : va_A [(h0, .inr (11, [.int 0, .ref h1, .int 0, .int 0, .int 0, .int 0, .int 0, .int 0, .int 0, .int 0, .int 0, .int 0, .long 0, .int 0, .ref h2, .ref h3, .ref h4, .ref h5, .ref h6, .ref h7, .ref h8, .ref h9, .ref h10, .int 0, .int 0, .int 0, .int 0, .int (-1), .int (-1), .long 0, .long 0, .ref h11, .ref h12, .int 0, .int (-1), .int 0, .ref h13, .int 0, .ref h14, .ref h15, .int 0, .int 0, .ref h16, .int 0, .int 0, .int 0, .int 0]))] s.heap.size = A at hD hE ⊢
  have hA : ∀ q : Nat, s.heap.size ≤ q → A q := fun q h => by rw [← hAe]; exact Or.inr h
  have hS : va_S A s.heap s.heap [] := va_S.rf
  have hl := lv_entry ([.ref h0, .int 3]) (n := 2) (Nat.le_of_ble_eq_true rfl)
  rw [lg_entry_eq]
  generalize (lg_sl ([.ref h0, .int 3]) ++ List.replicate (2 - (lg_sl ([.ref h0, .int 3])).length) Slot.unset).toArray = ls at hl ⊢
  have hl : lv_has ls 2 [(0, .ref h0), (1, .int 3)] := hl
  refine lv_aload_n hx hb dX12_told_0 rfl (lv_at hl 0 rfl) ?_
  refine lv_iconst (v := 0) hx hb dX12_told_1 (by decide) ?_
  refine va_put (D := (dC, dI)) (ci := 11) (v := .int 0) (ty := .int) (C := RX12) (T := TX12) (N := 47) hx hb hts ii_X12_told_X12 tyX12 tyX12_ok nmX12 hown hK hP hD hS 0 rfl rfl 0 (by decide) (hts _ mm_X12_told_1) (fun _ h9 => h9) rfl (by decide +kernel) rfl rfl (Nat.le_of_ble_eq_true rfl) dX12_told_2 (fun H locs hP hD hS => ?_)
  have hP : va_P (dC, dI) vwCl [(h0, .inr (11, [.int 0, .ref h1, .int 0, .int 0, .int 0, .int 0, .int 0, .int 0, .int 0, .int 0, .int 0, .int 0, .long 0, .int 0, .ref h2, .ref h3, .ref h4, .ref h5, .ref h6, .ref h7, .ref h8, .ref h9, .ref h10, .int 0, .int 0, .int 0, .int 0, .int (-1), .int (-1), .long 0, .long 0, .ref h11, .ref h12, .int 0, .int (-1), .int 0, .ref h13, .int 0, .ref h14, .ref h15, .int 0, .int 0, .ref h16, .int 0, .int 0, .int 0, .int 0]))] H := hP
  have hD : va_D A [(h0, .inr (11, [.int 0, .ref h1, .int 0, .int 0, .int 0, .int 0, .int 0, .int 0, .int 0, .int 0, .int 0, .int 0, .long 0, .int 0, .ref h2, .ref h3, .ref h4, .ref h5, .ref h6, .ref h7, .ref h8, .ref h9, .ref h10, .int 0, .int 0, .int 0, .int 0, .int (-1), .int (-1), .long 0, .long 0, .ref h11, .ref h12, .int 0, .int (-1), .int 0, .ref h13, .int 0, .ref h14, .ref h15, .int 0, .int 0, .ref h16, .int 0, .int 0, .int 0, .int 0]))] := hD
  refine lv_aload_n hx hb dX12_told_5 rfl (lv_at hl 0 rfl) ?_
  refine va_get (D := (dC, dI)) (ci := 11) (v := .int 0) (C := RX12) (T := TX12) (N := 47) hx hb hts ii_X12_told_X12 hown hK hP 0 rfl rfl 41 (by decide) (hts _ mm_X12_told_2) (fun _ h9 => h9) rfl dX12_told_6 ?_
  refine lv_if_eq (tgt := 30) hx hb dX12_told_9 (by decide) (fun _ => ?_) (fun c1 => absurd (by decide) c1)
  refine lv_iconst (v := (-1)) hx hb dX12_told_30 (by decide) ?_
  have hP9 := hP.sub (ws' := []) [] rfl
  have hD9 := hD.sub (ws' := []) [] (by decide) rfl
  have hK9 := hK.sub (tys' := []) [] rfl
  refine W.widen (k := 0) (n := 0) (Nat.le_of_ble_eq_true rfl) (Nat.le_of_ble_eq_true rfl) ?_
  exact W.iret (v := (-1)) hx hb hr (fun t ht hW => ⟨⟨(-1), (), rfl, rfl, by rw [ht]; exact hP9, va_K.moved hW.alike hK9, hD9⟩, hS.F ht⟩) hS.2.2 dX12_told_31
set_option maxHeartbeats 4000000 in
set_option maxRecDepth 100000 in
theorem k_X12_told_4 (l : Launch) (dC : Nat → ClassId) (dI : Nat → Nat → Nat) (ad : Nat → Nat) (h0 h1 h2 h3 h4 h5 h6 h7 h8 h9 h10 h11 h12 h13 h14 h15 h16 : Nat) (p0 : Int32) (sz : Nat) (e0_0 : p0 < 0) : Met l yX12_told wsX12_told ({ frames := 0, cells := 0, slots := 0, locals := 0 }) (va_Pc [.ref h0, .int p0] (CP (dC, dI) [(h0, .inr (11, [.int 0, .ref h1, .int 0, .int 0, .int 0, .int 0, .int 0, .int 0, .int 0, .int 0, .int 0, .int 0, .long 0, .int 0, .ref h2, .ref h3, .ref h4, .ref h5, .ref h6, .ref h7, .ref h8, .ref h9, .ref h10, .int 0, .int 0, .int 0, .int 0, .int (-1), .int (-1), .long 0, .long 0, .ref h11, .ref h12, .int 0, .int (-1), .int 0, .ref h13, .int 0, .ref h14, .ref h15, .int 0, .int 0, .ref h16, .int 0, .int 0, .int 0, .int 0]))] [] sz ad)) (va_Qi (fun (r : Int32) (_ : Unit) => r = (-1)) (fun (_ : Unit) (t : State) => CQ (dC, dI) [] [] (va_A [(h0, .inr (11, [.int 0, .ref h1, .int 0, .int 0, .int 0, .int 0, .int 0, .int 0, .int 0, .int 0, .int 0, .int 0, .long 0, .int 0, .ref h2, .ref h3, .ref h4, .ref h5, .ref h6, .ref h7, .ref h8, .ref h9, .ref h10, .int 0, .int 0, .int 0, .int 0, .int (-1), .int (-1), .long 0, .long 0, .ref h11, .ref h12, .int 0, .int (-1), .int 0, .ref h13, .int 0, .ref h14, .ref h15, .int 0, .int 0, .ref h16, .int 0, .int 0, .int 0, .int 0]))] sz) t) (va_A [(h0, .inr (11, [.int 0, .ref h1, .int 0, .int 0, .int 0, .int 0, .int 0, .int 0, .int 0, .int 0, .int 0, .int 0, .long 0, .int 0, .ref h2, .ref h3, .ref h4, .ref h5, .ref h6, .ref h7, .ref h8, .ref h9, .ref h10, .int 0, .int 0, .int 0, .int 0, .int (-1), .int (-1), .long 0, .long 0, .ref h11, .ref h12, .int 0, .int (-1), .int 0, .ref h13, .int 0, .ref h14, .ref h15, .int 0, .int 0, .ref h16, .int 0, .int 0, .int 0, .int 0]))] sz)) 0 0 (va_A [(h0, .inr (11, [.int 0, .ref h1, .int 0, .int 0, .int 0, .int 0, .int 0, .int 0, .int 0, .int 0, .int 0, .int 0, .long 0, .int 0, .ref h2, .ref h3, .ref h4, .ref h5, .ref h6, .ref h7, .ref h8, .ref h9, .ref h10, .int 0, .int 0, .int 0, .int 0, .int (-1), .int (-1), .long 0, .long 0, .ref h11, .ref h12, .int 0, .int (-1), .int 0, .ref h13, .int 0, .ref h14, .ref h15, .int 0, .int 0, .ref h16, .int 0, .int 0, .int 0, .int 0]))] sz) := by
  refine Met.ofW (cc := cX12_told) (maxL := 2) (ret := (some .int)) (by decide) rfl ?_
  intro p e s m args below meth c s₁ B hml hv
  obtain ⟨rfl, hsz, hP, hK, hD0, hE⟩ := hv
  have hx := B.exec
  have hb := B.bytes
  have hr := B.returns
  have hts := atoms_spec (ws := wsX12_told) B.pre
  have hown : s.vm.findClass RX12 = some m.cls := findClass_of_methodNamed B.named
  have hlocks := B.notSynchronized
  subst hsz
  have hD := hD0.self (sz := s.heap.size)
  generalize hAe : va_A [(h0, .inr (11, [.int 0, .ref h1, .int 0, .int 0, .int 0, .int 0, .int 0, .int 0, .int 0, .int 0, .int 0, .int 0, .long 0, .int 0, .ref h2, .ref h3, .ref h4, .ref h5, .ref h6, .ref h7, .ref h8, .ref h9, .ref h10, .int 0, .int 0, .int 0, .int 0, .int (-1), .int (-1), .long 0, .long 0, .ref h11, .ref h12, .int 0, .int (-1), .int 0, .ref h13, .int 0, .ref h14, .ref h15, .int 0, .int 0, .ref h16, .int 0, .int 0, .int 0, .int 0]))] s.heap.size = A at hD hE ⊢
  have hA : ∀ q : Nat, s.heap.size ≤ q → A q := fun q h => by rw [← hAe]; exact Or.inr h
  have hS : va_S A s.heap s.heap [] := va_S.rf
  have hl := lv_entry ([.ref h0, .int p0]) (n := 2) (Nat.le_of_ble_eq_true rfl)
  rw [lg_entry_eq]
  generalize (lg_sl ([.ref h0, .int p0]) ++ List.replicate (2 - (lg_sl ([.ref h0, .int p0])).length) Slot.unset).toArray = ls at hl ⊢
  have hl : lv_has ls 2 [(0, .ref h0), (1, .int p0)] := hl
  refine lv_aload_n hx hb dX12_told_0 rfl (lv_at hl 0 rfl) ?_
  refine lv_iconst (v := 0) hx hb dX12_told_1 (by decide) ?_
  refine va_put (D := (dC, dI)) (ci := 11) (v := .int 0) (ty := .int) (C := RX12) (T := TX12) (N := 47) hx hb hts ii_X12_told_X12 tyX12 tyX12_ok nmX12 hown hK hP hD hS 0 rfl rfl 0 (by decide) (hts _ mm_X12_told_1) (fun _ h9 => h9) rfl (by decide +kernel) rfl rfl (Nat.le_of_ble_eq_true rfl) dX12_told_2 (fun H locs hP hD hS => ?_)
  have hP : va_P (dC, dI) vwCl [(h0, .inr (11, [.int 0, .ref h1, .int 0, .int 0, .int 0, .int 0, .int 0, .int 0, .int 0, .int 0, .int 0, .int 0, .long 0, .int 0, .ref h2, .ref h3, .ref h4, .ref h5, .ref h6, .ref h7, .ref h8, .ref h9, .ref h10, .int 0, .int 0, .int 0, .int 0, .int (-1), .int (-1), .long 0, .long 0, .ref h11, .ref h12, .int 0, .int (-1), .int 0, .ref h13, .int 0, .ref h14, .ref h15, .int 0, .int 0, .ref h16, .int 0, .int 0, .int 0, .int 0]))] H := hP
  have hD : va_D A [(h0, .inr (11, [.int 0, .ref h1, .int 0, .int 0, .int 0, .int 0, .int 0, .int 0, .int 0, .int 0, .int 0, .int 0, .long 0, .int 0, .ref h2, .ref h3, .ref h4, .ref h5, .ref h6, .ref h7, .ref h8, .ref h9, .ref h10, .int 0, .int 0, .int 0, .int 0, .int (-1), .int (-1), .long 0, .long 0, .ref h11, .ref h12, .int 0, .int (-1), .int 0, .ref h13, .int 0, .ref h14, .ref h15, .int 0, .int 0, .ref h16, .int 0, .int 0, .int 0, .int 0]))] := hD
  refine lv_aload_n hx hb dX12_told_5 rfl (lv_at hl 0 rfl) ?_
  refine va_get (D := (dC, dI)) (ci := 11) (v := .int 0) (C := RX12) (T := TX12) (N := 47) hx hb hts ii_X12_told_X12 hown hK hP 0 rfl rfl 41 (by decide) (hts _ mm_X12_told_2) (fun _ h9 => h9) rfl dX12_told_6 ?_
  refine lv_if_eq (tgt := 30) hx hb dX12_told_9 (by decide) (fun _ => ?_) (fun c1 => absurd (by decide) c1)
  refine lv_iconst (v := (-1)) hx hb dX12_told_30 (by decide) ?_
  have hP9 := hP.sub (ws' := []) [] rfl
  have hD9 := hD.sub (ws' := []) [] (by decide) rfl
  have hK9 := hK.sub (tys' := []) [] rfl
  refine W.widen (k := 0) (n := 0) (Nat.le_of_ble_eq_true rfl) (Nat.le_of_ble_eq_true rfl) ?_
  exact W.iret (v := (-1)) hx hb hr (fun t ht hW => ⟨⟨(-1), (), rfl, rfl, by rw [ht]; exact hP9, va_K.moved hW.alike hK9, hD9⟩, hS.F ht⟩) hS.2.2 dX12_told_31
set_option maxHeartbeats 4000000 in
set_option maxRecDepth 100000 in
theorem k_X12_told_5 (l : Launch) (dC : Nat → ClassId) (dI : Nat → Nat → Nat) (ad : Nat → Nat) (h0 h1 h2 h3 h4 h5 h6 h7 h8 h9 h10 h11 h12 h13 h14 h15 h16 : Nat) (p0 : Int32) (sz : Nat) (e0_0 : 3 < p0) : Met l yX12_told wsX12_told ({ frames := 0, cells := 0, slots := 0, locals := 0 }) (va_Pc [.ref h0, .int p0] (CP (dC, dI) [(h0, .inr (11, [.int 0, .ref h1, .int 0, .int 0, .int 0, .int 0, .int 0, .int 0, .int 0, .int 0, .int 0, .int 0, .long 0, .int 0, .ref h2, .ref h3, .ref h4, .ref h5, .ref h6, .ref h7, .ref h8, .ref h9, .ref h10, .int 0, .int 0, .int 0, .int 0, .int (-1), .int (-1), .long 0, .long 0, .ref h11, .ref h12, .int 0, .int (-1), .int 0, .ref h13, .int 0, .ref h14, .ref h15, .int 0, .int 0, .ref h16, .int 0, .int 0, .int 0, .int 0]))] [] sz ad)) (va_Qi (fun (r : Int32) (_ : Unit) => r = (-1)) (fun (_ : Unit) (t : State) => CQ (dC, dI) [] [] (va_A [(h0, .inr (11, [.int 0, .ref h1, .int 0, .int 0, .int 0, .int 0, .int 0, .int 0, .int 0, .int 0, .int 0, .int 0, .long 0, .int 0, .ref h2, .ref h3, .ref h4, .ref h5, .ref h6, .ref h7, .ref h8, .ref h9, .ref h10, .int 0, .int 0, .int 0, .int 0, .int (-1), .int (-1), .long 0, .long 0, .ref h11, .ref h12, .int 0, .int (-1), .int 0, .ref h13, .int 0, .ref h14, .ref h15, .int 0, .int 0, .ref h16, .int 0, .int 0, .int 0, .int 0]))] sz) t) (va_A [(h0, .inr (11, [.int 0, .ref h1, .int 0, .int 0, .int 0, .int 0, .int 0, .int 0, .int 0, .int 0, .int 0, .int 0, .long 0, .int 0, .ref h2, .ref h3, .ref h4, .ref h5, .ref h6, .ref h7, .ref h8, .ref h9, .ref h10, .int 0, .int 0, .int 0, .int 0, .int (-1), .int (-1), .long 0, .long 0, .ref h11, .ref h12, .int 0, .int (-1), .int 0, .ref h13, .int 0, .ref h14, .ref h15, .int 0, .int 0, .ref h16, .int 0, .int 0, .int 0, .int 0]))] sz)) 0 0 (va_A [(h0, .inr (11, [.int 0, .ref h1, .int 0, .int 0, .int 0, .int 0, .int 0, .int 0, .int 0, .int 0, .int 0, .int 0, .long 0, .int 0, .ref h2, .ref h3, .ref h4, .ref h5, .ref h6, .ref h7, .ref h8, .ref h9, .ref h10, .int 0, .int 0, .int 0, .int 0, .int (-1), .int (-1), .long 0, .long 0, .ref h11, .ref h12, .int 0, .int (-1), .int 0, .ref h13, .int 0, .ref h14, .ref h15, .int 0, .int 0, .ref h16, .int 0, .int 0, .int 0, .int 0]))] sz) := by
  refine Met.ofW (cc := cX12_told) (maxL := 2) (ret := (some .int)) (by decide) rfl ?_
  intro p e s m args below meth c s₁ B hml hv
  obtain ⟨rfl, hsz, hP, hK, hD0, hE⟩ := hv
  have hx := B.exec
  have hb := B.bytes
  have hr := B.returns
  have hts := atoms_spec (ws := wsX12_told) B.pre
  have hown : s.vm.findClass RX12 = some m.cls := findClass_of_methodNamed B.named
  have hlocks := B.notSynchronized
  subst hsz
  have hD := hD0.self (sz := s.heap.size)
  generalize hAe : va_A [(h0, .inr (11, [.int 0, .ref h1, .int 0, .int 0, .int 0, .int 0, .int 0, .int 0, .int 0, .int 0, .int 0, .int 0, .long 0, .int 0, .ref h2, .ref h3, .ref h4, .ref h5, .ref h6, .ref h7, .ref h8, .ref h9, .ref h10, .int 0, .int 0, .int 0, .int 0, .int (-1), .int (-1), .long 0, .long 0, .ref h11, .ref h12, .int 0, .int (-1), .int 0, .ref h13, .int 0, .ref h14, .ref h15, .int 0, .int 0, .ref h16, .int 0, .int 0, .int 0, .int 0]))] s.heap.size = A at hD hE ⊢
  have hA : ∀ q : Nat, s.heap.size ≤ q → A q := fun q h => by rw [← hAe]; exact Or.inr h
  have hS : va_S A s.heap s.heap [] := va_S.rf
  have hl := lv_entry ([.ref h0, .int p0]) (n := 2) (Nat.le_of_ble_eq_true rfl)
  rw [lg_entry_eq]
  generalize (lg_sl ([.ref h0, .int p0]) ++ List.replicate (2 - (lg_sl ([.ref h0, .int p0])).length) Slot.unset).toArray = ls at hl ⊢
  have hl : lv_has ls 2 [(0, .ref h0), (1, .int p0)] := hl
  refine lv_aload_n hx hb dX12_told_0 rfl (lv_at hl 0 rfl) ?_
  refine lv_iconst (v := 0) hx hb dX12_told_1 (by decide) ?_
  refine va_put (D := (dC, dI)) (ci := 11) (v := .int 0) (ty := .int) (C := RX12) (T := TX12) (N := 47) hx hb hts ii_X12_told_X12 tyX12 tyX12_ok nmX12 hown hK hP hD hS 0 rfl rfl 0 (by decide) (hts _ mm_X12_told_1) (fun _ h9 => h9) rfl (by decide +kernel) rfl rfl (Nat.le_of_ble_eq_true rfl) dX12_told_2 (fun H locs hP hD hS => ?_)
  have hP : va_P (dC, dI) vwCl [(h0, .inr (11, [.int 0, .ref h1, .int 0, .int 0, .int 0, .int 0, .int 0, .int 0, .int 0, .int 0, .int 0, .int 0, .long 0, .int 0, .ref h2, .ref h3, .ref h4, .ref h5, .ref h6, .ref h7, .ref h8, .ref h9, .ref h10, .int 0, .int 0, .int 0, .int 0, .int (-1), .int (-1), .long 0, .long 0, .ref h11, .ref h12, .int 0, .int (-1), .int 0, .ref h13, .int 0, .ref h14, .ref h15, .int 0, .int 0, .ref h16, .int 0, .int 0, .int 0, .int 0]))] H := hP
  have hD : va_D A [(h0, .inr (11, [.int 0, .ref h1, .int 0, .int 0, .int 0, .int 0, .int 0, .int 0, .int 0, .int 0, .int 0, .int 0, .long 0, .int 0, .ref h2, .ref h3, .ref h4, .ref h5, .ref h6, .ref h7, .ref h8, .ref h9, .ref h10, .int 0, .int 0, .int 0, .int 0, .int (-1), .int (-1), .long 0, .long 0, .ref h11, .ref h12, .int 0, .int (-1), .int 0, .ref h13, .int 0, .ref h14, .ref h15, .int 0, .int 0, .ref h16, .int 0, .int 0, .int 0, .int 0]))] := hD
  refine lv_aload_n hx hb dX12_told_5 rfl (lv_at hl 0 rfl) ?_
  refine va_get (D := (dC, dI)) (ci := 11) (v := .int 0) (C := RX12) (T := TX12) (N := 47) hx hb hts ii_X12_told_X12 hown hK hP 0 rfl rfl 41 (by decide) (hts _ mm_X12_told_2) (fun _ h9 => h9) rfl dX12_told_6 ?_
  refine lv_if_eq (tgt := 30) hx hb dX12_told_9 (by decide) (fun _ => ?_) (fun c1 => absurd (by decide) c1)
  refine lv_iconst (v := (-1)) hx hb dX12_told_30 (by decide) ?_
  have hP9 := hP.sub (ws' := []) [] rfl
  have hD9 := hD.sub (ws' := []) [] (by decide) rfl
  have hK9 := hK.sub (tys' := []) [] rfl
  refine W.widen (k := 0) (n := 0) (Nat.le_of_ble_eq_true rfl) (Nat.le_of_ble_eq_true rfl) ?_
  exact W.iret (v := (-1)) hx hb hr (fun t ht hW => ⟨⟨(-1), (), rfl, rfl, by rw [ht]; exact hP9, va_K.moved hW.alike hK9, hD9⟩, hS.F ht⟩) hS.2.2 dX12_told_31
set_option maxHeartbeats 4000000 in
set_option maxRecDepth 100000 in
theorem k_X12_go_2 (l : Launch) (dC : Nat → ClassId) (dI : Nat → Nat → Nat) (ad : Nat → Nat) (h0 h1 h2 h3 h4 h5 h6 h7 h8 h9 h10 h11 h12 h13 h14 h15 h16 : Nat) (sz : Nat) : Met l yX12_go wsX12_go ({ frames := 0, cells := 0, slots := 0, locals := 0 }) (va_Pc [.ref h0] (CP (dC, dI) [(h0, .inr (11, [.int 0, .ref h1, .int 0, .int 0, .int 200, .int 0, .int 0, .int 0, .int 0, .int 0, .int 0, .int 0, .long 0, .int 0, .ref h2, .ref h3, .ref h4, .ref h5, .ref h6, .ref h7, .ref h8, .ref h9, .ref h10, .int 0, .int 0, .int 0, .int 0, .int (-1), .int (-1), .long 0, .long 0, .ref h11, .ref h12, .int 0, .int (-1), .int 0, .ref h13, .int 0, .ref h14, .ref h15, .int 0, .int 0, .ref h16, .int 0, .int 0, .int 0, .int 0]))] [] sz ad)) (va_Qv (fun _ : Unit => True) (fun (_ : Unit) (t : State) => CQ (dC, dI) [(h0, .inr (11, [.int 0, .ref h1, .int 0, .int 0, .int 200, .int 0, .int 0, .int 0, .int 0, .int 0, .int 0, .int 0, .long 0, .int 0, .ref h2, .ref h3, .ref h4, .ref h5, .ref h6, .ref h7, .ref h8, .ref h9, .ref h10, .int 0, .int 0, .int 0, .int 0, .int (-1), .int (-1), .long 0, .long 0, .ref h11, .ref h12, .int 0, .int (-1), .int 0, .ref h13, .int 0, .ref h14, .ref h15, .int 0, .int 0, .ref h16, .int 0, .int 0, .int 0, .int 0]))] [] (va_A [(h0, .inr (11, [.int 0, .ref h1, .int 0, .int 0, .int 200, .int 0, .int 0, .int 0, .int 0, .int 0, .int 0, .int 0, .long 0, .int 0, .ref h2, .ref h3, .ref h4, .ref h5, .ref h6, .ref h7, .ref h8, .ref h9, .ref h10, .int 0, .int 0, .int 0, .int 0, .int (-1), .int (-1), .long 0, .long 0, .ref h11, .ref h12, .int 0, .int (-1), .int 0, .ref h13, .int 0, .ref h14, .ref h15, .int 0, .int 0, .ref h16, .int 0, .int 0, .int 0, .int 0]))] sz) t) (va_A [(h0, .inr (11, [.int 0, .ref h1, .int 0, .int 0, .int 200, .int 0, .int 0, .int 0, .int 0, .int 0, .int 0, .int 0, .long 0, .int 0, .ref h2, .ref h3, .ref h4, .ref h5, .ref h6, .ref h7, .ref h8, .ref h9, .ref h10, .int 0, .int 0, .int 0, .int 0, .int (-1), .int (-1), .long 0, .long 0, .ref h11, .ref h12, .int 0, .int (-1), .int 0, .ref h13, .int 0, .ref h14, .ref h15, .int 0, .int 0, .ref h16, .int 0, .int 0, .int 0, .int 0]))] sz)) 0 0 (va_A [(h0, .inr (11, [.int 0, .ref h1, .int 0, .int 0, .int 200, .int 0, .int 0, .int 0, .int 0, .int 0, .int 0, .int 0, .long 0, .int 0, .ref h2, .ref h3, .ref h4, .ref h5, .ref h6, .ref h7, .ref h8, .ref h9, .ref h10, .int 0, .int 0, .int 0, .int 0, .int (-1), .int (-1), .long 0, .long 0, .ref h11, .ref h12, .int 0, .int (-1), .int 0, .ref h13, .int 0, .ref h14, .ref h15, .int 0, .int 0, .ref h16, .int 0, .int 0, .int 0, .int 0]))] sz) := by
  refine Met.ofW (cc := cX12_go) (maxL := 5) (ret := none) (by decide) rfl ?_
  intro p e s m args below meth c s₁ B hml hv
  obtain ⟨rfl, hsz, hP, hK, hD0, hE⟩ := hv
  have hx := B.exec
  have hb := B.bytes
  have hr := B.returns
  have hts := atoms_spec (ws := wsX12_go) B.pre
  have hown : s.vm.findClass RX12 = some m.cls := findClass_of_methodNamed B.named
  have hlocks := B.notSynchronized
  subst hsz
  have hD := hD0.self (sz := s.heap.size)
  generalize hAe : va_A [(h0, .inr (11, [.int 0, .ref h1, .int 0, .int 0, .int 200, .int 0, .int 0, .int 0, .int 0, .int 0, .int 0, .int 0, .long 0, .int 0, .ref h2, .ref h3, .ref h4, .ref h5, .ref h6, .ref h7, .ref h8, .ref h9, .ref h10, .int 0, .int 0, .int 0, .int 0, .int (-1), .int (-1), .long 0, .long 0, .ref h11, .ref h12, .int 0, .int (-1), .int 0, .ref h13, .int 0, .ref h14, .ref h15, .int 0, .int 0, .ref h16, .int 0, .int 0, .int 0, .int 0]))] s.heap.size = A at hD hE ⊢
  have hA : ∀ q : Nat, s.heap.size ≤ q → A q := fun q h => by rw [← hAe]; exact Or.inr h
  have hS : va_S A s.heap s.heap [] := va_S.rf
  have hl := lv_entry ([.ref h0]) (n := 5) (Nat.le_of_ble_eq_true rfl)
  rw [lg_entry_eq]
  generalize (lg_sl ([.ref h0]) ++ List.replicate (5 - (lg_sl ([.ref h0])).length) Slot.unset).toArray = ls at hl ⊢
  have hl : lv_has ls 5 [(0, .ref h0)] := hl
  refine lv_aload_n hx hb dX12_go_0 rfl (lv_at hl 0 rfl) ?_
  refine va_get (D := (dC, dI)) (ci := 11) (v := .int 0) (C := RX12) (T := TX12) (N := 47) hx hb hts ii_X12_go_X12 hown hK hP 0 rfl rfl 5 (by decide) (hts _ mm_X12_go_1) (fun _ h9 => h9) rfl dX12_go_1 ?_
  refine lv_aload_n hx hb dX12_go_4 rfl (lv_at hl 0 rfl) ?_
  refine va_get (D := (dC, dI)) (ci := 11) (v := .int 0) (C := RX12) (T := TX12) (N := 47) hx hb hts ii_X12_go_X12 hown hK hP 0 rfl rfl 3 (by decide) (hts _ mm_X12_go_2) (fun _ h9 => h9) rfl dX12_go_5 ?_
  refine lv_icmp_ge (tgt := 52) hx hb dX12_go_8 (by decide) (fun _ => ?_) (fun c1 => absurd (by decide) c1)
  refine lv_aload_n hx hb dX12_go_52 rfl (lv_at hl 0 rfl) ?_
  refine lv_aload_n hx hb dX12_go_53 rfl (lv_at hl 0 rfl) ?_
  refine va_get (D := (dC, dI)) (ci := 11) (v := .int 0) (C := RX12) (T := TX12) (N := 47) hx hb hts ii_X12_go_X12 hown hK hP 0 rfl rfl 5 (by decide) (hts _ mm_X12_go_1) (fun _ h9 => h9) rfl dX12_go_54 ?_
  refine va_put (D := (dC, dI)) (ci := 11) (v := .int 0) (ty := .int) (C := RX12) (T := TX12) (N := 47) hx hb hts ii_X12_go_X12 tyX12 tyX12_ok nmX12 hown hK hP hD hS 0 rfl rfl 6 (by decide) (hts _ mm_X12_go_4) (fun _ h9 => h9) rfl (by decide +kernel) rfl rfl (Nat.le_of_ble_eq_true rfl) dX12_go_57 (fun H locs hP hD hS => ?_)
  have hP : va_P (dC, dI) vwCl [(h0, .inr (11, [.int 0, .ref h1, .int 0, .int 0, .int 200, .int 0, .int 0, .int 0, .int 0, .int 0, .int 0, .int 0, .long 0, .int 0, .ref h2, .ref h3, .ref h4, .ref h5, .ref h6, .ref h7, .ref h8, .ref h9, .ref h10, .int 0, .int 0, .int 0, .int 0, .int (-1), .int (-1), .long 0, .long 0, .ref h11, .ref h12, .int 0, .int (-1), .int 0, .ref h13, .int 0, .ref h14, .ref h15, .int 0, .int 0, .ref h16, .int 0, .int 0, .int 0, .int 0]))] H := hP
  have hD : va_D A [(h0, .inr (11, [.int 0, .ref h1, .int 0, .int 0, .int 200, .int 0, .int 0, .int 0, .int 0, .int 0, .int 0, .int 0, .long 0, .int 0, .ref h2, .ref h3, .ref h4, .ref h5, .ref h6, .ref h7, .ref h8, .ref h9, .ref h10, .int 0, .int 0, .int 0, .int 0, .int (-1), .int (-1), .long 0, .long 0, .ref h11, .ref h12, .int 0, .int (-1), .int 0, .ref h13, .int 0, .ref h14, .ref h15, .int 0, .int 0, .ref h16, .int 0, .int 0, .int 0, .int 0]))] := hD
  refine lv_aload_n hx hb dX12_go_60 rfl (lv_at hl 0 rfl) ?_
  refine va_get (D := (dC, dI)) (ci := 11) (v := .int 0) (C := RX12) (T := TX12) (N := 47) hx hb hts ii_X12_go_X12 hown hK hP 0 rfl rfl 3 (by decide) (hts _ mm_X12_go_2) (fun _ h9 => h9) rfl dX12_go_61 ?_
  refine lv_aload_n hx hb dX12_go_64 rfl (lv_at hl 0 rfl) ?_
  refine va_get (D := (dC, dI)) (ci := 11) (v := .int 200) (C := RX12) (T := TX12) (N := 47) hx hb hts ii_X12_go_X12 hown hK hP 0 rfl rfl 4 (by decide) (hts _ mm_X12_go_5) (fun _ h9 => h9) rfl dX12_go_65 ?_
  refine lv_icmp_le (tgt := 96) hx hb dX12_go_68 (by decide) (fun _ => ?_) (fun c2 => absurd (by decide) c2)
  refine lv_aload_n hx hb dX12_go_96 rfl (lv_at hl 0 rfl) ?_
  refine va_get (D := (dC, dI)) (ci := 11) (v := .int 0) (C := RX12) (T := TX12) (N := 47) hx hb hts ii_X12_go_X12 hown hK hP 0 rfl rfl 5 (by decide) (hts _ mm_X12_go_1) (fun _ h9 => h9) rfl dX12_go_97 ?_
  refine lv_aload_n hx hb dX12_go_100 rfl (lv_at hl 0 rfl) ?_
  refine va_get (D := (dC, dI)) (ci := 11) (v := .int 0) (C := RX12) (T := TX12) (N := 47) hx hb hts ii_X12_go_X12 hown hK hP 0 rfl rfl 3 (by decide) (hts _ mm_X12_go_2) (fun _ h9 => h9) rfl dX12_go_101 ?_
  refine lv_icmp_lt (tgt := 113) hx hb dX12_go_104 (by decide) (fun c3 => absurd c3 (by decide)) (fun _ => ?_)
  refine lv_aload_n hx hb dX12_go_107 rfl (lv_at hl 0 rfl) ?_
  refine lv_iconst (v := 0) hx hb dX12_go_108 (by decide) ?_
  refine va_put (D := (dC, dI)) (ci := 11) (v := .int 0) (ty := .int) (C := RX12) (T := TX12) (N := 47) hx hb hts ii_X12_go_X12 tyX12 tyX12_ok nmX12 hown hK hP hD hS 0 rfl rfl 7 (by decide) (hts _ mm_X12_go_6) (fun _ h9 => h9) rfl (by decide +kernel) rfl rfl (Nat.le_of_ble_eq_true rfl) dX12_go_109 (fun H locs hP hD hS => ?_)
  have hP : va_P (dC, dI) vwCl [(h0, .inr (11, [.int 0, .ref h1, .int 0, .int 0, .int 200, .int 0, .int 0, .int 0, .int 0, .int 0, .int 0, .int 0, .long 0, .int 0, .ref h2, .ref h3, .ref h4, .ref h5, .ref h6, .ref h7, .ref h8, .ref h9, .ref h10, .int 0, .int 0, .int 0, .int 0, .int (-1), .int (-1), .long 0, .long 0, .ref h11, .ref h12, .int 0, .int (-1), .int 0, .ref h13, .int 0, .ref h14, .ref h15, .int 0, .int 0, .ref h16, .int 0, .int 0, .int 0, .int 0]))] H := hP
  have hD : va_D A [(h0, .inr (11, [.int 0, .ref h1, .int 0, .int 0, .int 200, .int 0, .int 0, .int 0, .int 0, .int 0, .int 0, .int 0, .long 0, .int 0, .ref h2, .ref h3, .ref h4, .ref h5, .ref h6, .ref h7, .ref h8, .ref h9, .ref h10, .int 0, .int 0, .int 0, .int 0, .int (-1), .int (-1), .long 0, .long 0, .ref h11, .ref h12, .int 0, .int (-1), .int 0, .ref h13, .int 0, .ref h14, .ref h15, .int 0, .int 0, .ref h16, .int 0, .int 0, .int 0, .int 0]))] := hD
  have hP9 := hP.sub (ws' := [(h0, .inr (11, [.int 0, .ref h1, .int 0, .int 0, .int 200, .int 0, .int 0, .int 0, .int 0, .int 0, .int 0, .int 0, .long 0, .int 0, .ref h2, .ref h3, .ref h4, .ref h5, .ref h6, .ref h7, .ref h8, .ref h9, .ref h10, .int 0, .int 0, .int 0, .int 0, .int (-1), .int (-1), .long 0, .long 0, .ref h11, .ref h12, .int 0, .int (-1), .int 0, .ref h13, .int 0, .ref h14, .ref h15, .int 0, .int 0, .ref h16, .int 0, .int 0, .int 0, .int 0]))]) [0] rfl
  have hD9 := hD.sub (ws' := [(h0, .inr (11, [.int 0, .ref h1, .int 0, .int 0, .int 200, .int 0, .int 0, .int 0, .int 0, .int 0, .int 0, .int 0, .long 0, .int 0, .ref h2, .ref h3, .ref h4, .ref h5, .ref h6, .ref h7, .ref h8, .ref h9, .ref h10, .int 0, .int 0, .int 0, .int 0, .int (-1), .int (-1), .long 0, .long 0, .ref h11, .ref h12, .int 0, .int (-1), .int 0, .ref h13, .int 0, .ref h14, .ref h15, .int 0, .int 0, .ref h16, .int 0, .int 0, .int 0, .int 0]))]) [0] (by decide) rfl
  have hK9 := hK.sub (tys' := []) [] rfl
  refine W.widen (k := 0) (n := 0) (Nat.le_of_ble_eq_true rfl) (Nat.le_of_ble_eq_true rfl) ?_
  exact W.vret hx hb hr (fun t ht hW => ⟨⟨(), rfl, trivial, by rw [ht]; exact hP9, va_K.moved hW.alike hK9, hD9⟩, hS.F ht⟩) hS.2.2 dX12_go_112
