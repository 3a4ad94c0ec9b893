set_option maxHeartbeats 4000000 in
set_option maxRecDepth 100000 in
theorem k_X12_startSo (l : Launch) (dC : Nat → ClassId) (dI : Nat → Nat → Nat) (ad : Nat → Nat) (h0 h1 h2 h3 h4 h5 h6 h7 h8 h9 h10 h11 h12 h13 h14 h15 h16 : Nat) (w0 : ClassId) (sz : Nat) : Met l yX12_startSo wsX12_startSo ({ frames := 0, cells := 0, slots := 0, locals := 0 }) (va_Pc [.ref h0] (CP (dC, dI) [(h0, .inr (11, [.int 0, .ref h1, .int 0, .int 0, .int 0, .int 0, .int 0, .int 0, .int 0, .int 0, .int 0, .int 0, .long 0, .int 0, .ref h2, .ref h3, .ref h4, .ref h5, .ref h6, .ref h7, .ref h8, .ref h9, .ref h10, .int 0, .int 0, .int 0, .int 0, .int (-1), .int (-1), .long 0, .long 0, .ref h11, .ref h12, .int 0, .int (-1), .int 0, .ref h13, .int 0, .ref h14, .ref h15, .int 0, .int 0, .ref h16, .int 0, .int 0, .int 0, .int 0])), (h2, .inl (w0, 373, .inl (upd (fun _ => 0) 60 2)))] [(w0, .int)] sz ad)) (va_Qv (fun _ : Unit => True) (fun (_ : Unit) (t : State) => CQz (dC, dI) [(h0, .inr (11, [.int 0, .ref h1, .int 0, .int 0, .int 0, .int 0, .int 0, .int 0, .int 0, .int 0, .int 0, .int 0, .long 0, .int 0, .ref h2, .ref h3, .ref h4, .ref h5, .ref h6, .ref h7, .ref h8, .ref h9, .ref h10, .int 0, .int 0, .int 0, .int 0, .int (-1), .int (-1), .long 0, .long 0, .ref h11, .ref h12, .int 0, .int (-1), .int 0, .ref h13, .int 0, .ref h14, .ref h15, .int 0, .int 0, .ref h16, .int 0, .int 0, .int 0, .int 0])), (h2, .inl (w0, 373, .inl (upd (upd (fun _ => 0) 60 2) 62 2)))] [] (va_A [(h0, .inr (11, [.int 0, .ref h1, .int 0, .int 0, .int 0, .int 0, .int 0, .int 0, .int 0, .int 0, .int 0, .int 0, .long 0, .int 0, .ref h2, .ref h3, .ref h4, .ref h5, .ref h6, .ref h7, .ref h8, .ref h9, .ref h10, .int 0, .int 0, .int 0, .int 0, .int (-1), .int (-1), .long 0, .long 0, .ref h11, .ref h12, .int 0, .int (-1), .int 0, .ref h13, .int 0, .ref h14, .ref h15, .int 0, .int 0, .ref h16, .int 0, .int 0, .int 0, .int 0])), (h2, .inl (w0, 373, .inl (upd (fun _ => 0) 60 2)))] sz) t) (va_A [(h0, .inr (11, [.int 0, .ref h1, .int 0, .int 0, .int 0, .int 0, .int 0, .int 0, .int 0, .int 0, .int 0, .int 0, .long 0, .int 0, .ref h2, .ref h3, .ref h4, .ref h5, .ref h6, .ref h7, .ref h8, .ref h9, .ref h10, .int 0, .int 0, .int 0, .int 0, .int (-1), .int (-1), .long 0, .long 0, .ref h11, .ref h12, .int 0, .int (-1), .int 0, .ref h13, .int 0, .ref h14, .ref h15, .int 0, .int 0, .ref h16, .int 0, .int 0, .int 0, .int 0])), (h2, .inl (w0, 373, .inl (upd (fun _ => 0) 60 2)))] sz)) 0 0 (va_A [(h0, .inr (11, [.int 0, .ref h1, .int 0, .int 0, .int 0, .int 0, .int 0, .int 0, .int 0, .int 0, .int 0, .int 0, .long 0, .int 0, .ref h2, .ref h3, .ref h4, .ref h5, .ref h6, .ref h7, .ref h8, .ref h9, .ref h10, .int 0, .int 0, .int 0, .int 0, .int (-1), .int (-1), .long 0, .long 0, .ref h11, .ref h12, .int 0, .int (-1), .int 0, .ref h13, .int 0, .ref h14, .ref h15, .int 0, .int 0, .ref h16, .int 0, .int 0, .int 0, .int 0])), (h2, .inl (w0, 373, .inl (upd (fun _ => 0) 60 2)))] sz) := by
  refine Met.ofW (cc := cX12_startSo) (maxL := 2) (ret := none) (by decide) rfl ?_
  intro p e s m args below meth c s₁ B hml hv
  obtain ⟨rfl, hsz, hP, hK, hD0, hE⟩ := hv
  have hx := B.exec
  have hb := B.bytes
  have hr := B.returns
  have hts := atoms_spec (ws := wsX12_startSo) B.pre
  have hown : s.vm.findClass RX12 = some m.cls := findClass_of_methodNamed B.named
  have hlocks := B.notSynchronized
  subst hsz
  have hD := hD0.self (sz := s.heap.size)
  generalize hAe : va_A [(h0, .inr (11, [.int 0, .ref h1, .int 0, .int 0, .int 0, .int 0, .int 0, .int 0, .int 0, .int 0, .int 0, .int 0, .long 0, .int 0, .ref h2, .ref h3, .ref h4, .ref h5, .ref h6, .ref h7, .ref h8, .ref h9, .ref h10, .int 0, .int 0, .int 0, .int 0, .int (-1), .int (-1), .long 0, .long 0, .ref h11, .ref h12, .int 0, .int (-1), .int 0, .ref h13, .int 0, .ref h14, .ref h15, .int 0, .int 0, .ref h16, .int 0, .int 0, .int 0, .int 0])), (h2, .inl (w0, 373, .inl (upd (fun _ => 0) 60 2)))] s.heap.size = A at hD hE ⊢
  have hA : ∀ q : Nat, s.heap.size ≤ q → A q := fun q h => by rw [← hAe]; exact Or.inr h
  have hS : va_S A s.heap s.heap [] := va_S.rf
  have hl := lv_entry ([.ref h0]) (n := 2) (Nat.le_of_ble_eq_true rfl)
  rw [lg_entry_eq]
  generalize (lg_sl ([.ref h0]) ++ List.replicate (2 - (lg_sl ([.ref h0])).length) Slot.unset).toArray = ls at hl ⊢
  have hl : lv_has ls 2 [(0, .ref h0)] := hl
  refine lv_bipush (v := 61) hx hb dX12_startSo_0 (by decide) ?_
  refine lv_istore_n (lv' := [(1, .int 61), (0, .ref h0)]) hx hb dX12_startSo_2 rfl hl (by decide) rfl (fun ls hl => ?_)
  refine zz_loop (σ := Unit) (fun (k : Nat) (x : Unit) (H : Heap) (locs : List Loc) (ls : Array Slot) => 61 ≤ k ∧ va_P (dC, dI) vwCl [(h0, .inr (11, [.int 0, .ref h1, .int 0, .int 0, .int 0, .int 0, .int 0, .int 0, .int 0, .int 0, .int 0, .int 0, .long 0, .int 0, .ref h2, .ref h3, .ref h4, .ref h5, .ref h6, .ref h7, .ref h8, .ref h9, .ref h10, .int 0, .int 0, .int 0, .int 0, .int (-1), .int (-1), .long 0, .long 0, .ref h11, .ref h12, .int 0, .int (-1), .int 0, .ref h13, .int 0, .ref h14, .ref h15, .int 0, .int 0, .ref h16, .int 0, .int 0, .int 0, .int 0])), (h2, .inl (w0, 373, .inl (upd (fun _ => 0) 60 2)))] H ∧ va_D A [(h0, .inr (11, [.int 0, .ref h1, .int 0, .int 0, .int 0, .int 0, .int 0, .int 0, .int 0, .int 0, .int 0, .int 0, .long 0, .int 0, .ref h2, .ref h3, .ref h4, .ref h5, .ref h6, .ref h7, .ref h8, .ref h9, .ref h10, .int 0, .int 0, .int 0, .int 0, .int (-1), .int (-1), .long 0, .long 0, .ref h11, .ref h12, .int 0, .int (-1), .int 0, .ref h13, .int 0, .ref h14, .ref h15, .int 0, .int 0, .ref h16, .int 0, .int 0, .int 0, .int 0])), (h2, .inl (w0, 373, .inl (upd (fun _ => 0) 60 2)))] ∧ va_S A s.heap H locs ∧ lv_has ls 2 [(1, .int (nI k)), (0, .ref h0)]) 373 ?_ ?_ 61 () _ _ _ (by omega) ⟨by omega, hP, hD, hS, hl⟩
  · rintro k1 _ H locs ls hkk1 ⟨hmk1, hP, hD, hS, hl⟩ ih
    have hP : va_P (dC, dI) vwCl [(h0, .inr (11, [.int 0, .ref h1, .int 0, .int 0, .int 0, .int 0, .int 0, .int 0, .int 0, .int 0, .int 0, .int 0, .long 0, .int 0, .ref h2, .ref h3, .ref h4, .ref h5, .ref h6, .ref h7, .ref h8, .ref h9, .ref h10, .int 0, .int 0, .int 0, .int 0, .int (-1), .int (-1), .long 0, .long 0, .ref h11, .ref h12, .int 0, .int (-1), .int 0, .ref h13, .int 0, .ref h14, .ref h15, .int 0, .int 0, .ref h16, .int 0, .int 0, .int 0, .int 0])), (h2, .inl (w0, 373, .inl (upd (fun _ => 0) 60 2)))] H := hP
    have hD : va_D A [(h0, .inr (11, [.int 0, .ref h1, .int 0, .int 0, .int 0, .int 0, .int 0, .int 0, .int 0, .int 0, .int 0, .int 0, .long 0, .int 0, .ref h2, .ref h3, .ref h4, .ref h5, .ref h6, .ref h7, .ref h8, .ref h9, .ref h10, .int 0, .int 0, .int 0, .int 0, .int (-1), .int (-1), .long 0, .long 0, .ref h11, .ref h12, .int 0, .int (-1), .int 0, .ref h13, .int 0, .ref h14, .ref h15, .int 0, .int 0, .ref h16, .int 0, .int 0, .int 0, .int 0])), (h2, .inl (w0, 373, .inl (upd (fun _ => 0) 60 2)))] := hD
    have hl : lv_has ls 2 [(1, .int (nI k1)), (0, .ref h0)] := hl
    refine lv_iload_n hx hb dX12_startSo_3 rfl (lv_at hl 0 rfl) ?_
    refine lv_sipush (v := 373) hx hb dX12_startSo_4 (by decide) ?_
    refine lv_icmp_ge (tgt := 23) hx hb dX12_startSo_7 (by decide) (fun c9 => absurd c9 (nI_ge (a := k1) (b := 373) (by omega) (by omega))) (fun _ => ?_)
    refine lv_aload_n hx hb dX12_startSo_10 rfl (lv_at hl 1 rfl) ?_
    refine va_get (D := (dC, dI)) (ci := 11) (v := .ref h2) (C := RX12) (T := TX12) (N := 47) hx hb hts ii_X12_startSo_X12 hown hK hP 0 rfl rfl 14 (by decide) (hts _ mm_X12_startSo_1) (fun _ h9 => h9) rfl dX12_startSo_11 ?_
    refine lv_iload_n hx hb dX12_startSo_14 rfl (lv_at hl 0 rfl) ?_
    refine lv_iconst (v := 0) hx hb dX12_startSo_15 (by decide) ?_
    refine va_iast hx hb hK hP hD hS 1 0 rfl rfl (i := (nI k1)) (vp_in_nI (by omega) (by decide)) dX12_startSo_16 (fun H locs hP hD hS => ?_)
    have hP : va_P (dC, dI) vwCl [(h0, .inr (11, [.int 0, .ref h1, .int 0, .int 0, .int 0, .int 0, .int 0, .int 0, .int 0, .int 0, .int 0, .int 0, .long 0, .int 0, .ref h2, .ref h3, .ref h4, .ref h5, .ref h6, .ref h7, .ref h8, .ref h9, .ref h10, .int 0, .int 0, .int 0, .int 0, .int (-1), .int (-1), .long 0, .long 0, .ref h11, .ref h12, .int 0, .int (-1), .int 0, .ref h13, .int 0, .ref h14, .ref h15, .int 0, .int 0, .ref h16, .int 0, .int 0, .int 0, .int 0])), (h2, .inl (w0, 373, .inl (upd (upd (fun _ => 0) 60 2) (nI k1).toNatClampNeg 0)))] H := hP
    have hD : va_D A [(h0, .inr (11, [.int 0, .ref h1, .int 0, .int 0, .int 0, .int 0, .int 0, .int 0, .int 0, .int 0, .int 0, .int 0, .long 0, .int 0, .ref h2, .ref h3, .ref h4, .ref h5, .ref h6, .ref h7, .ref h8, .ref h9, .ref h10, .int 0, .int 0, .int 0, .int 0, .int (-1), .int (-1), .long 0, .long 0, .ref h11, .ref h12, .int 0, .int (-1), .int 0, .ref h13, .int 0, .ref h14, .ref h15, .int 0, .int 0, .ref h16, .int 0, .int 0, .int 0, .int 0])), (h2, .inl (w0, 373, .inl (upd (upd (fun _ => 0) 60 2) (nI k1).toNatClampNeg 0)))] := hD
    rw [sw_start k1 hmk1 hkk1] at hP hD
    have hP : va_P (dC, dI) vwCl [(h0, .inr (11, [.int 0, .ref h1, .int 0, .int 0, .int 0, .int 0, .int 0, .int 0, .int 0, .int 0, .int 0, .int 0, .long 0, .int 0, .ref h2, .ref h3, .ref h4, .ref h5, .ref h6, .ref h7, .ref h8, .ref h9, .ref h10, .int 0, .int 0, .int 0, .int 0, .int (-1), .int (-1), .long 0, .long 0, .ref h11, .ref h12, .int 0, .int (-1), .int 0, .ref h13, .int 0, .ref h14, .ref h15, .int 0, .int 0, .ref h16, .int 0, .int 0, .int 0, .int 0])), (h2, .inl (w0, 373, .inl (upd (fun _ => 0) 60 2)))] H := hP
    have hD : va_D A [(h0, .inr (11, [.int 0, .ref h1, .int 0, .int 0, .int 0, .int 0, .int 0, .int 0, .int 0, .int 0, .int 0, .int 0, .long 0, .int 0, .ref h2, .ref h3, .ref h4, .ref h5, .ref h6, .ref h7, .ref h8, .ref h9, .ref h10, .int 0, .int 0, .int 0, .int 0, .int (-1), .int (-1), .long 0, .long 0, .ref h11, .ref h12, .int 0, .int (-1), .int 0, .ref h13, .int 0, .ref h14, .ref h15, .int 0, .int 0, .ref h16, .int 0, .int 0, .int 0, .int 0])), (h2, .inl (w0, 373, .inl (upd (fun _ => 0) 60 2)))] := hD
    refine lv_iinc (v := (nI (k1 + 1))) (lv' := [(1, .int (nI (k1 + 1))), (0, .ref h0)]) hx hb dX12_startSo_17 hl (k := 0) rfl (zz_addr k1 1) (by decide) rfl (fun ls hl => ?_)
    refine lv_goto (tgt := 3) hx hb dX12_startSo_20 (by decide) ?_
    exact ih () _ _ _ ⟨by omega, hP, hD, hS, lv_sub hl [0, 1] rfl⟩
  rintro _ H locs ls ⟨-, hP, hD, hS, hl⟩
  have hP : va_P (dC, dI) vwCl [(h0, .inr (11, [.int 0, .ref h1, .int 0, .int 0, .int 0, .int 0, .int 0, .int 0, .int 0, .int 0, .int 0, .int 0, .long 0, .int 0, .ref h2, .ref h3, .ref h4, .ref h5, .ref h6, .ref h7, .ref h8, .ref h9, .ref h10, .int 0, .int 0, .int 0, .int 0, .int (-1), .int (-1), .long 0, .long 0, .ref h11, .ref h12, .int 0, .int (-1), .int 0, .ref h13, .int 0, .ref h14, .ref h15, .int 0, .int 0, .ref h16, .int 0, .int 0, .int 0, .int 0])), (h2, .inl (w0, 373, .inl (upd (fun _ => 0) 60 2)))] H := hP
  have hD : va_D A [(h0, .inr (11, [.int 0, .ref h1, .int 0, .int 0, .int 0, .int 0, .int 0, .int 0, .int 0, .int 0, .int 0, .int 0, .long 0, .int 0, .ref h2, .ref h3, .ref h4, .ref h5, .ref h6, .ref h7, .ref h8, .ref h9, .ref h10, .int 0, .int 0, .int 0, .int 0, .int (-1), .int (-1), .long 0, .long 0, .ref h11, .ref h12, .int 0, .int (-1), .int 0, .ref h13, .int 0, .ref h14, .ref h15, .int 0, .int 0, .ref h16, .int 0, .int 0, .int 0, .int 0])), (h2, .inl (w0, 373, .inl (upd (fun _ => 0) 60 2)))] := hD
  have hl : lv_has ls 2 [(1, .int 373), (0, .ref h0)] := hl
  refine lv_iload_n hx hb dX12_startSo_3 rfl (lv_at hl 0 rfl) ?_
  refine lv_sipush (v := 373) hx hb dX12_startSo_4 (by decide) ?_
  refine lv_icmp_ge (tgt := 23) hx hb dX12_startSo_7 (by decide) (fun _ => ?_) (fun c2 => absurd (by decide) c2)
  refine lv_aload_n hx hb dX12_startSo_23 rfl (lv_at hl 1 rfl) ?_
  refine va_get (D := (dC, dI)) (ci := 11) (v := .ref h2) (C := RX12) (T := TX12) (N := 47) hx hb hts ii_X12_startSo_X12 hown hK hP 0 rfl rfl 14 (by decide) (hts _ mm_X12_startSo_1) (fun _ h9 => h9) rfl dX12_startSo_24 ?_
  refine lv_bipush (v := 62) hx hb dX12_startSo_27 (by decide) ?_
  refine lv_aload_n hx hb dX12_startSo_29 rfl (lv_at hl 1 rfl) ?_
  refine va_get (D := (dC, dI)) (ci := 11) (v := .ref h2) (C := RX12) (T := TX12) (N := 47) hx hb hts ii_X12_startSo_X12 hown hK hP 0 rfl rfl 14 (by decide) (hts _ mm_X12_startSo_1) (fun _ h9 => h9) rfl dX12_startSo_30 ?_
  refine lv_bipush (v := 60) hx hb dX12_startSo_33 (by decide) ?_
  refine va_iald hx hb hK hP 1 0 rfl rfl (i := 60) (zz_in (by decide)) dX12_startSo_35 ?_
  refine zz_top (v := 2) (by rfl) ?_
  refine va_iast hx hb hK hP hD hS 1 0 rfl rfl (i := 62) (zz_in (by decide)) dX12_startSo_36 (fun H locs hP hD hS => ?_)
  have hP : va_P (dC, dI) vwCl [(h0, .inr (11, [.int 0, .ref h1, .int 0, .int 0, .int 0, .int 0, .int 0, .int 0, .int 0, .int 0, .int 0, .int 0, .long 0, .int 0, .ref h2, .ref h3, .ref h4, .ref h5, .ref h6, .ref h7, .ref h8, .ref h9, .ref h10, .int 0, .int 0, .int 0, .int 0, .int (-1), .int (-1), .long 0, .long 0, .ref h11, .ref h12, .int 0, .int (-1), .int 0, .ref h13, .int 0, .ref h14, .ref h15, .int 0, .int 0, .ref h16, .int 0, .int 0, .int 0, .int 0])), (h2, .inl (w0, 373, .inl (upd (upd (fun _ => 0) 60 2) 62 2)))] H := hP
  have hD : va_D A [(h0, .inr (11, [.int 0, .ref h1, .int 0, .int 0, .int 0, .int 0, .int 0, .int 0, .int 0, .int 0, .int 0, .int 0, .long 0, .int 0, .ref h2, .ref h3, .ref h4, .ref h5, .ref h6, .ref h7, .ref h8, .ref h9, .ref h10, .int 0, .int 0, .int 0, .int 0, .int (-1), .int (-1), .long 0, .long 0, .ref h11, .ref h12, .int 0, .int (-1), .int 0, .ref h13, .int 0, .ref h14, .ref h15, .int 0, .int 0, .ref h16, .int 0, .int 0, .int 0, .int 0])), (h2, .inl (w0, 373, .inl (upd (upd (fun _ => 0) 60 2) 62 2)))] := hD
  refine lv_aload_n hx hb dX12_startSo_37 rfl (lv_at hl 1 rfl) ?_
  refine va_get (D := (dC, dI)) (ci := 11) (v := .ref h2) (C := RX12) (T := TX12) (N := 47) hx hb hts ii_X12_startSo_X12 hown hK hP 0 rfl rfl 14 (by decide) (hts _ mm_X12_startSo_1) (fun _ h9 => h9) rfl dX12_startSo_38 ?_
  refine lv_bipush (v := 65) hx hb dX12_startSo_41 (by decide) ?_
  refine lv_aload_n hx hb dX12_startSo_43 rfl (lv_at hl 1 rfl) ?_
  refine va_get (D := (dC, dI)) (ci := 11) (v := .ref h2) (C := RX12) (T := TX12) (N := 47) hx hb hts ii_X12_startSo_X12 hown hK hP 0 rfl rfl 14 (by decide) (hts _ mm_X12_startSo_1) (fun _ h9 => h9) rfl dX12_startSo_44 ?_
  refine lv_bipush (v := 9) hx hb dX12_startSo_47 (by decide) ?_
  refine va_iald hx hb hK hP 1 0 rfl rfl (i := 9) (zz_in (by decide)) dX12_startSo_49 ?_
  refine zz_top (v := 0) (by rfl) ?_
  refine va_iast hx hb hK hP hD hS 1 0 rfl rfl (i := 65) (zz_in (by decide)) dX12_startSo_50 (fun H locs hP hD hS => ?_)
  have hP : va_P (dC, dI) vwCl [(h0, .inr (11, [.int 0, .ref h1, .int 0, .int 0, .int 0, .int 0, .int 0, .int 0, .int 0, .int 0, .int 0, .int 0, .long 0, .int 0, .ref h2, .ref h3, .ref h4, .ref h5, .ref h6, .ref h7, .ref h8, .ref h9, .ref h10, .int 0, .int 0, .int 0, .int 0, .int (-1), .int (-1), .long 0, .long 0, .ref h11, .ref h12, .int 0, .int (-1), .int 0, .ref h13, .int 0, .ref h14, .ref h15, .int 0, .int 0, .ref h16, .int 0, .int 0, .int 0, .int 0])), (h2, .inl (w0, 373, .inl (upd (upd (upd (fun _ => 0) 60 2) 62 2) 65 0)))] H := hP
  have hD : va_D A [(h0, .inr (11, [.int 0, .ref h1, .int 0, .int 0, .int 0, .int 0, .int 0, .int 0, .int 0, .int 0, .int 0, .int 0, .long 0, .int 0, .ref h2, .ref h3, .ref h4, .ref h5, .ref h6, .ref h7, .ref h8, .ref h9, .ref h10, .int 0, .int 0, .int 0, .int 0, .int (-1), .int (-1), .long 0, .long 0, .ref h11, .ref h12, .int 0, .int (-1), .int 0, .ref h13, .int 0, .ref h14, .ref h15, .int 0, .int 0, .ref h16, .int 0, .int 0, .int 0, .int 0])), (h2, .inl (w0, 373, .inl (upd (upd (upd (fun _ => 0) 60 2) 62 2) 65 0)))] := hD
  rw [zz_sw (f := (upd (upd (fun _ => 0) 60 2) 62 2)) (i := 65) (v := 0) rfl] at hP hD
  have hP : va_P (dC, dI) vwCl [(h0, .inr (11, [.int 0, .ref h1, .int 0, .int 0, .int 0, .int 0, .int 0, .int 0, .int 0, .int 0, .int 0, .int 0, .long 0, .int 0, .ref h2, .ref h3, .ref h4, .ref h5, .ref h6, .ref h7, .ref h8, .ref h9, .ref h10, .int 0, .int 0, .int 0, .int 0, .int (-1), .int (-1), .long 0, .long 0, .ref h11, .ref h12, .int 0, .int (-1), .int 0, .ref h13, .int 0, .ref h14, .ref h15, .int 0, .int 0, .ref h16, .int 0, .int 0, .int 0, .int 0])), (h2, .inl (w0, 373, .inl (upd (upd (fun _ => 0) 60 2) 62 2)))] H := hP
  have hD : va_D A [(h0, .inr (11, [.int 0, .ref h1, .int 0, .int 0, .int 0, .int 0, .int 0, .int 0, .int 0, .int 0, .int 0, .int 0, .long 0, .int 0, .ref h2, .ref h3, .ref h4, .ref h5, .ref h6, .ref h7, .ref h8, .ref h9, .ref h10, .int 0, .int 0, .int 0, .int 0, .int (-1), .int (-1), .long 0, .long 0, .ref h11, .ref h12, .int 0, .int (-1), .int 0, .ref h13, .int 0, .ref h14, .ref h15, .int 0, .int 0, .ref h16, .int 0, .int 0, .int 0, .int 0])), (h2, .inl (w0, 373, .inl (upd (upd (fun _ => 0) 60 2) 62 2)))] := hD
  refine lv_iconst (v := 0) hx hb dX12_startSo_51 (by decide) ?_
  refine lv_istore_n (lv' := [(1, .int 0), (0, .ref h0)]) hx hb dX12_startSo_52 rfl hl (by decide) rfl (fun ls hl => ?_)
  refine lv_iload_n hx hb dX12_startSo_53 rfl (lv_at hl 0 rfl) ?_
  refine lv_iconst (v := 5) hx hb dX12_startSo_54 (by decide) ?_
  refine lv_icmp_ge (tgt := 81) hx hb dX12_startSo_55 (by decide) (fun c3 => absurd c3 (by decide)) (fun _ => ?_)
  refine lv_aload_n hx hb dX12_startSo_58 rfl (lv_at hl 1 rfl) ?_
  refine va_get (D := (dC, dI)) (ci := 11) (v := .ref h2) (C := RX12) (T := TX12) (N := 47) hx hb hts ii_X12_startSo_X12 hown hK hP 0 rfl rfl 14 (by decide) (hts _ mm_X12_startSo_1) (fun _ h9 => h9) rfl dX12_startSo_59 ?_
  refine lv_bipush (v := 66) hx hb dX12_startSo_62 (by decide) ?_
  refine lv_iload_n hx hb dX12_startSo_64 rfl (lv_at hl 0 rfl) ?_
  refine lv_iadd hx hb dX12_startSo_65 ?_
  refine zz_top (v := 66) (by decide) ?_
  refine lv_aload_n hx hb dX12_startSo_66 rfl (lv_at hl 1 rfl) ?_
  refine va_get (D := (dC, dI)) (ci := 11) (v := .ref h2) (C := RX12) (T := TX12) (N := 47) hx hb hts ii_X12_startSo_X12 hown hK hP 0 rfl rfl 14 (by decide) (hts _ mm_X12_startSo_1) (fun _ h9 => h9) rfl dX12_startSo_67 ?_
  refine lv_iconst (v := 4) hx hb dX12_startSo_70 (by decide) ?_
  refine lv_iload_n hx hb dX12_startSo_71 rfl (lv_at hl 0 rfl) ?_
  refine lv_iadd hx hb dX12_startSo_72 ?_
  refine zz_top (v := 4) (by decide) ?_
  refine va_iald hx hb hK hP 1 0 rfl rfl (i := 4) (zz_in (by decide)) dX12_startSo_73 ?_
  refine zz_top (v := 0) (by rfl) ?_
  refine va_iast hx hb hK hP hD hS 1 0 rfl rfl (i := 66) (zz_in (by decide)) dX12_startSo_74 (fun H locs hP hD hS => ?_)
  have hP : va_P (dC, dI) vwCl [(h0, .inr (11, [.int 0, .ref h1, .int 0, .int 0, .int 0, .int 0, .int 0, .int 0, .int 0, .int 0, .int 0, .int 0, .long 0, .int 0, .ref h2, .ref h3, .ref h4, .ref h5, .ref h6, .ref h7, .ref h8, .ref h9, .ref h10, .int 0, .int 0, .int 0, .int 0, .int (-1), .int (-1), .long 0, .long 0, .ref h11, .ref h12, .int 0, .int (-1), .int 0, .ref h13, .int 0, .ref h14, .ref h15, .int 0, .int 0, .ref h16, .int 0, .int 0, .int 0, .int 0])), (h2, .inl (w0, 373, .inl (upd (upd (upd (fun _ => 0) 60 2) 62 2) 66 0)))] H := hP
  have hD : va_D A [(h0, .inr (11, [.int 0, .ref h1, .int 0, .int 0, .int 0, .int 0, .int 0, .int 0, .int 0, .int 0, .int 0, .int 0, .long 0, .int 0, .ref h2, .ref h3, .ref h4, .ref h5, .ref h6, .ref h7, .ref h8, .ref h9, .ref h10, .int 0, .int 0, .int 0, .int 0, .int (-1), .int (-1), .long 0, .long 0, .ref h11, .ref h12, .int 0, .int (-1), .int 0, .ref h13, .int 0, .ref h14, .ref h15, .int 0, .int 0, .ref h16, .int 0, .int 0, .int 0, .int 0])), (h2, .inl (w0, 373, .inl (upd (upd (upd (fun _ => 0) 60 2) 62 2) 66 0)))] := hD
  rw [zz_sw (f := (upd (upd (fun _ => 0) 60 2) 62 2)) (i := 66) (v := 0) rfl] at hP hD
  have hP : va_P (dC, dI) vwCl [(h0, .inr (11, [.int 0, .ref h1, .int 0, .int 0, .int 0, .int 0, .int 0, .int 0, .int 0, .int 0, .int 0, .int 0, .long 0, .int 0, .ref h2, .ref h3, .ref h4, .ref h5, .ref h6, .ref h7, .ref h8, .ref h9, .ref h10, .int 0, .int 0, .int 0, .int 0, .int (-1), .int (-1), .long 0, .long 0, .ref h11, .ref h12, .int 0, .int (-1), .int 0, .ref h13, .int 0, .ref h14, .ref h15, .int 0, .int 0, .ref h16, .int 0, .int 0, .int 0, .int 0])), (h2, .inl (w0, 373, .inl (upd (upd (fun _ => 0) 60 2) 62 2)))] H := hP
  have hD : va_D A [(h0, .inr (11, [.int 0, .ref h1, .int 0, .int 0, .int 0, .int 0, .int 0, .int 0, .int 0, .int 0, .int 0, .int 0, .long 0, .int 0, .ref h2, .ref h3, .ref h4, .ref h5, .ref h6, .ref h7, .ref h8, .ref h9, .ref h10, .int 0, .int 0, .int 0, .int 0, .int (-1), .int (-1), .long 0, .long 0, .ref h11, .ref h12, .int 0, .int (-1), .int 0, .ref h13, .int 0, .ref h14, .ref h15, .int 0, .int 0, .ref h16, .int 0, .int 0, .int 0, .int 0])), (h2, .inl (w0, 373, .inl (upd (upd (fun _ => 0) 60 2) 62 2)))] := hD
  refine lv_iinc (v := 1) (lv' := [(1, .int 1), (0, .ref h0)]) hx hb dX12_startSo_75 hl (k := 0) rfl (by decide) (by decide) rfl (fun ls hl => ?_)
  refine lv_goto (tgt := 53) hx hb dX12_startSo_78 (by decide) ?_
  refine lv_iload_n hx hb dX12_startSo_53 rfl (lv_at hl 0 rfl) ?_
  refine lv_iconst (v := 5) hx hb dX12_startSo_54 (by decide) ?_
  refine lv_icmp_ge (tgt := 81) hx hb dX12_startSo_55 (by decide) (fun c4 => absurd c4 (by decide)) (fun _ => ?_)
  refine lv_aload_n hx hb dX12_startSo_58 rfl (lv_at hl 1 rfl) ?_
  refine va_get (D := (dC, dI)) (ci := 11) (v := .ref h2) (C := RX12) (T := TX12) (N := 47) hx hb hts ii_X12_startSo_X12 hown hK hP 0 rfl rfl 14 (by decide) (hts _ mm_X12_startSo_1) (fun _ h9 => h9) rfl dX12_startSo_59 ?_
  refine lv_bipush (v := 66) hx hb dX12_startSo_62 (by decide) ?_
  refine lv_iload_n hx hb dX12_startSo_64 rfl (lv_at hl 0 rfl) ?_
  refine lv_iadd hx hb dX12_startSo_65 ?_
  refine zz_top (v := 67) (by decide) ?_
  refine lv_aload_n hx hb dX12_startSo_66 rfl (lv_at hl 1 rfl) ?_
  refine va_get (D := (dC, dI)) (ci := 11) (v := .ref h2) (C := RX12) (T := TX12) (N := 47) hx hb hts ii_X12_startSo_X12 hown hK hP 0 rfl rfl 14 (by decide) (hts _ mm_X12_startSo_1) (fun _ h9 => h9) rfl dX12_startSo_67 ?_
  refine lv_iconst (v := 4) hx hb dX12_startSo_70 (by decide) ?_
  refine lv_iload_n hx hb dX12_startSo_71 rfl (lv_at hl 0 rfl) ?_
  refine lv_iadd hx hb dX12_startSo_72 ?_
  refine zz_top (v := 5) (by decide) ?_
  refine va_iald hx hb hK hP 1 0 rfl rfl (i := 5) (zz_in (by decide)) dX12_startSo_73 ?_
  refine zz_top (v := 0) (by rfl) ?_
  refine va_iast hx hb hK hP hD hS 1 0 rfl rfl (i := 67) (zz_in (by decide)) dX12_startSo_74 (fun H locs hP hD hS => ?_)
  have hP : va_P (dC, dI) vwCl [(h0, .inr (11, [.int 0, .ref h1, .int 0, .int 0, .int 0, .int 0, .int 0, .int 0, .int 0, .int 0, .int 0, .int 0, .long 0, .int 0, .ref h2, .ref h3, .ref h4, .ref h5, .ref h6, .ref h7, .ref h8, .ref h9, .ref h10, .int 0, .int 0, .int 0, .int 0, .int (-1), .int (-1), .long 0, .long 0, .ref h11, .ref h12, .int 0, .int (-1), .int 0, .ref h13, .int 0, .ref h14, .ref h15, .int 0, .int 0, .ref h16, .int 0, .int 0, .int 0, .int 0])), (h2, .inl (w0, 373, .inl (upd (upd (upd (fun _ => 0) 60 2) 62 2) 67 0)))] H := hP
  have hD : va_D A [(h0, .inr (11, [.int 0, .ref h1, .int 0, .int 0, .int 0, .int 0, .int 0, .int 0, .int 0, .int 0, .int 0, .int 0, .long 0, .int 0, .ref h2, .ref h3, .ref h4, .ref h5, .ref h6, .ref h7, .ref h8, .ref h9, .ref h10, .int 0, .int 0, .int 0, .int 0, .int (-1), .int (-1), .long 0, .long 0, .ref h11, .ref h12, .int 0, .int (-1), .int 0, .ref h13, .int 0, .ref h14, .ref h15, .int 0, .int 0, .ref h16, .int 0, .int 0, .int 0, .int 0])), (h2, .inl (w0, 373, .inl (upd (upd (upd (fun _ => 0) 60 2) 62 2) 67 0)))] := hD
  rw [zz_sw (f := (upd (upd (fun _ => 0) 60 2) 62 2)) (i := 67) (v := 0) rfl] at hP hD
  have hP : va_P (dC, dI) vwCl [(h0, .inr (11, [.int 0, .ref h1, .int 0, .int 0, .int 0, .int 0, .int 0, .int 0, .int 0, .int 0, .int 0, .int 0, .long 0, .int 0, .ref h2, .ref h3, .ref h4, .ref h5, .ref h6, .ref h7, .ref h8, .ref h9, .ref h10, .int 0, .int 0, .int 0, .int 0, .int (-1), .int (-1), .long 0, .long 0, .ref h11, .ref h12, .int 0, .int (-1), .int 0, .ref h13, .int 0, .ref h14, .ref h15, .int 0, .int 0, .ref h16, .int 0, .int 0, .int 0, .int 0])), (h2, .inl (w0, 373, .inl (upd (upd (fun _ => 0) 60 2) 62 2)))] H := hP
  have hD : va_D A [(h0, .inr (11, [.int 0, .ref h1, .int 0, .int 0, .int 0, .int 0, .int 0, .int 0, .int 0, .int 0, .int 0, .int 0, .long 0, .int 0, .ref h2, .ref h3, .ref h4, .ref h5, .ref h6, .ref h7, .ref h8, .ref h9, .ref h10, .int 0, .int 0, .int 0, .int 0, .int (-1), .int (-1), .long 0, .long 0, .ref h11, .ref h12, .int 0, .int (-1), .int 0, .ref h13, .int 0, .ref h14, .ref h15, .int 0, .int 0, .ref h16, .int 0, .int 0, .int 0, .int 0])), (h2, .inl (w0, 373, .inl (upd (upd (fun _ => 0) 60 2) 62 2)))] := hD
  refine lv_iinc (v := 2) (lv' := [(1, .int 2), (0, .ref h0)]) hx hb dX12_startSo_75 hl (k := 0) rfl (by decide) (by decide) rfl (fun ls hl => ?_)
  refine lv_goto (tgt := 53) hx hb dX12_startSo_78 (by decide) ?_
  refine lv_iload_n hx hb dX12_startSo_53 rfl (lv_at hl 0 rfl) ?_
  refine lv_iconst (v := 5) hx hb dX12_startSo_54 (by decide) ?_
  refine lv_icmp_ge (tgt := 81) hx hb dX12_startSo_55 (by decide) (fun c5 => absurd c5 (by decide)) (fun _ => ?_)
  refine lv_aload_n hx hb dX12_startSo_58 rfl (lv_at hl 1 rfl) ?_
  refine va_get (D := (dC, dI)) (ci := 11) (v := .ref h2) (C := RX12) (T := TX12) (N := 47) hx hb hts ii_X12_startSo_X12 hown hK hP 0 rfl rfl 14 (by decide) (hts _ mm_X12_startSo_1) (fun _ h9 => h9) rfl dX12_startSo_59 ?_
  refine lv_bipush (v := 66) hx hb dX12_startSo_62 (by decide) ?_
  refine lv_iload_n hx hb dX12_startSo_64 rfl (lv_at hl 0 rfl) ?_
  refine lv_iadd hx hb dX12_startSo_65 ?_
  refine zz_top (v := 68) (by decide) ?_
  refine lv_aload_n hx hb dX12_startSo_66 rfl (lv_at hl 1 rfl) ?_
  refine va_get (D := (dC, dI)) (ci := 11) (v := .ref h2) (C := RX12) (T := TX12) (N := 47) hx hb hts ii_X12_startSo_X12 hown hK hP 0 rfl rfl 14 (by decide) (hts _ mm_X12_startSo_1) (fun _ h9 => h9) rfl dX12_startSo_67 ?_
  refine lv_iconst (v := 4) hx hb dX12_startSo_70 (by decide) ?_
  refine lv_iload_n hx hb dX12_startSo_71 rfl (lv_at hl 0 rfl) ?_
  refine lv_iadd hx hb dX12_startSo_72 ?_
  refine zz_top (v := 6) (by decide) ?_
  refine va_iald hx hb hK hP 1 0 rfl rfl (i := 6) (zz_in (by decide)) dX12_startSo_73 ?_
  refine zz_top (v := 0) (by rfl) ?_
  refine va_iast hx hb hK hP hD hS 1 0 rfl rfl (i := 68) (zz_in (by decide)) dX12_startSo_74 (fun H locs hP hD hS => ?_)
  have hP : va_P (dC, dI) vwCl [(h0, .inr (11, [.int 0, .ref h1, .int 0, .int 0, .int 0, .int 0, .int 0, .int 0, .int 0, .int 0, .int 0, .int 0, .long 0, .int 0, .ref h2, .ref h3, .ref h4, .ref h5, .ref h6, .ref h7, .ref h8, .ref h9, .ref h10, .int 0, .int 0, .int 0, .int 0, .int (-1), .int (-1), .long 0, .long 0, .ref h11, .ref h12, .int 0, .int (-1), .int 0, .ref h13, .int 0, .ref h14, .ref h15, .int 0, .int 0, .ref h16, .int 0, .int 0, .int 0, .int 0])), (h2, .inl (w0, 373, .inl (upd (upd (upd (fun _ => 0) 60 2) 62 2) 68 0)))] H := hP
  have hD : va_D A [(h0, .inr (11, [.int 0, .ref h1, .int 0, .int 0, .int 0, .int 0, .int 0, .int 0, .int 0, .int 0, .int 0, .int 0, .long 0, .int 0, .ref h2, .ref h3, .ref h4, .ref h5, .ref h6, .ref h7, .ref h8, .ref h9, .ref h10, .int 0, .int 0, .int 0, .int 0, .int (-1), .int (-1), .long 0, .long 0, .ref h11, .ref h12, .int 0, .int (-1), .int 0, .ref h13, .int 0, .ref h14, .ref h15, .int 0, .int 0, .ref h16, .int 0, .int 0, .int 0, .int 0])), (h2, .inl (w0, 373, .inl (upd (upd (upd (fun _ => 0) 60 2) 62 2) 68 0)))] := hD
  rw [zz_sw (f := (upd (upd (fun _ => 0) 60 2) 62 2)) (i := 68) (v := 0) rfl] at hP hD
  have hP : va_P (dC, dI) vwCl [(h0, .inr (11, [.int 0, .ref h1, .int 0, .int 0, .int 0, .int 0, .int 0, .int 0, .int 0, .int 0, .int 0, .int 0, .long 0, .int 0, .ref h2, .ref h3, .ref h4, .ref h5, .ref h6, .ref h7, .ref h8, .ref h9, .ref h10, .int 0, .int 0, .int 0, .int 0, .int (-1), .int (-1), .long 0, .long 0, .ref h11, .ref h12, .int 0, .int (-1), .int 0, .ref h13, .int 0, .ref h14, .ref h15, .int 0, .int 0, .ref h16, .int 0, .int 0, .int 0, .int 0])), (h2, .inl (w0, 373, .inl (upd (upd (fun _ => 0) 60 2) 62 2)))] H := hP
  have hD : va_D A [(h0, .inr (11, [.int 0, .ref h1, .int 0, .int 0, .int 0, .int 0, .int 0, .int 0, .int 0, .int 0, .int 0, .int 0, .long 0, .int 0, .ref h2, .ref h3, .ref h4, .ref h5, .ref h6, .ref h7, .ref h8, .ref h9, .ref h10, .int 0, .int 0, .int 0, .int 0, .int (-1), .int (-1), .long 0, .long 0, .ref h11, .ref h12, .int 0, .int (-1), .int 0, .ref h13, .int 0, .ref h14, .ref h15, .int 0, .int 0, .ref h16, .int 0, .int 0, .int 0, .int 0])), (h2, .inl (w0, 373, .inl (upd (upd (fun _ => 0) 60 2) 62 2)))] := hD
  refine lv_iinc (v := 3) (lv' := [(1, .int 3), (0, .ref h0)]) hx hb dX12_startSo_75 hl (k := 0) rfl (by decide) (by decide) rfl (fun ls hl => ?_)
  refine lv_goto (tgt := 53) hx hb dX12_startSo_78 (by decide) ?_
  refine lv_iload_n hx hb dX12_startSo_53 rfl (lv_at hl 0 rfl) ?_
  refine lv_iconst (v := 5) hx hb dX12_startSo_54 (by decide) ?_
  refine lv_icmp_ge (tgt := 81) hx hb dX12_startSo_55 (by decide) (fun c6 => absurd c6 (by decide)) (fun _ => ?_)
  refine lv_aload_n hx hb dX12_startSo_58 rfl (lv_at hl 1 rfl) ?_
  refine va_get (D := (dC, dI)) (ci := 11) (v := .ref h2) (C := RX12) (T := TX12) (N := 47) hx hb hts ii_X12_startSo_X12 hown hK hP 0 rfl rfl 14 (by decide) (hts _ mm_X12_startSo_1) (fun _ h9 => h9) rfl dX12_startSo_59 ?_
  refine lv_bipush (v := 66) hx hb dX12_startSo_62 (by decide) ?_
  refine lv_iload_n hx hb dX12_startSo_64 rfl (lv_at hl 0 rfl) ?_
  refine lv_iadd hx hb dX12_startSo_65 ?_
  refine zz_top (v := 69) (by decide) ?_
  refine lv_aload_n hx hb dX12_startSo_66 rfl (lv_at hl 1 rfl) ?_
  refine va_get (D := (dC, dI)) (ci := 11) (v := .ref h2) (C := RX12) (T := TX12) (N := 47) hx hb hts ii_X12_startSo_X12 hown hK hP 0 rfl rfl 14 (by decide) (hts _ mm_X12_startSo_1) (fun _ h9 => h9) rfl dX12_startSo_67 ?_
  refine lv_iconst (v := 4) hx hb dX12_startSo_70 (by decide) ?_
  refine lv_iload_n hx hb dX12_startSo_71 rfl (lv_at hl 0 rfl) ?_
  refine lv_iadd hx hb dX12_startSo_72 ?_
  refine zz_top (v := 7) (by decide) ?_
  refine va_iald hx hb hK hP 1 0 rfl rfl (i := 7) (zz_in (by decide)) dX12_startSo_73 ?_
  refine zz_top (v := 0) (by rfl) ?_
  refine va_iast hx hb hK hP hD hS 1 0 rfl rfl (i := 69) (zz_in (by decide)) dX12_startSo_74 (fun H locs hP hD hS => ?_)
  have hP : va_P (dC, dI) vwCl [(h0, .inr (11, [.int 0, .ref h1, .int 0, .int 0, .int 0, .int 0, .int 0, .int 0, .int 0, .int 0, .int 0, .int 0, .long 0, .int 0, .ref h2, .ref h3, .ref h4, .ref h5, .ref h6, .ref h7, .ref h8, .ref h9, .ref h10, .int 0, .int 0, .int 0, .int 0, .int (-1), .int (-1), .long 0, .long 0, .ref h11, .ref h12, .int 0, .int (-1), .int 0, .ref h13, .int 0, .ref h14, .ref h15, .int 0, .int 0, .ref h16, .int 0, .int 0, .int 0, .int 0])), (h2, .inl (w0, 373, .inl (upd (upd (upd (fun _ => 0) 60 2) 62 2) 69 0)))] H := hP
  have hD : va_D A [(h0, .inr (11, [.int 0, .ref h1, .int 0, .int 0, .int 0, .int 0, .int 0, .int 0, .int 0, .int 0, .int 0, .int 0, .long 0, .int 0, .ref h2, .ref h3, .ref h4, .ref h5, .ref h6, .ref h7, .ref h8, .ref h9, .ref h10, .int 0, .int 0, .int 0, .int 0, .int (-1), .int (-1), .long 0, .long 0, .ref h11, .ref h12, .int 0, .int (-1), .int 0, .ref h13, .int 0, .ref h14, .ref h15, .int 0, .int 0, .ref h16, .int 0, .int 0, .int 0, .int 0])), (h2, .inl (w0, 373, .inl (upd (upd (upd (fun _ => 0) 60 2) 62 2) 69 0)))] := hD
  rw [zz_sw (f := (upd (upd (fun _ => 0) 60 2) 62 2)) (i := 69) (v := 0) rfl] at hP hD
  have hP : va_P (dC, dI) vwCl [(h0, .inr (11, [.int 0, .ref h1, .int 0, .int 0, .int 0, .int 0, .int 0, .int 0, .int 0, .int 0, .int 0, .int 0, .long 0, .int 0, .ref h2, .ref h3, .ref h4, .ref h5, .ref h6, .ref h7, .ref h8, .ref h9, .ref h10, .int 0, .int 0, .int 0, .int 0, .int (-1), .int (-1), .long 0, .long 0, .ref h11, .ref h12, .int 0, .int (-1), .int 0, .ref h13, .int 0, .ref h14, .ref h15, .int 0, .int 0, .ref h16, .int 0, .int 0, .int 0, .int 0])), (h2, .inl (w0, 373, .inl (upd (upd (fun _ => 0) 60 2) 62 2)))] H := hP
  have hD : va_D A [(h0, .inr (11, [.int 0, .ref h1, .int 0, .int 0, .int 0, .int 0, .int 0, .int 0, .int 0, .int 0, .int 0, .int 0, .long 0, .int 0, .ref h2, .ref h3, .ref h4, .ref h5, .ref h6, .ref h7, .ref h8, .ref h9, .ref h10, .int 0, .int 0, .int 0, .int 0, .int (-1), .int (-1), .long 0, .long 0, .ref h11, .ref h12, .int 0, .int (-1), .int 0, .ref h13, .int 0, .ref h14, .ref h15, .int 0, .int 0, .ref h16, .int 0, .int 0, .int 0, .int 0])), (h2, .inl (w0, 373, .inl (upd (upd (fun _ => 0) 60 2) 62 2)))] := hD
  refine lv_iinc (v := 4) (lv' := [(1, .int 4), (0, .ref h0)]) hx hb dX12_startSo_75 hl (k := 0) rfl (by decide) (by decide) rfl (fun ls hl => ?_)
  refine lv_goto (tgt := 53) hx hb dX12_startSo_78 (by decide) ?_
  refine lv_iload_n hx hb dX12_startSo_53 rfl (lv_at hl 0 rfl) ?_
  refine lv_iconst (v := 5) hx hb dX12_startSo_54 (by decide) ?_
  refine lv_icmp_ge (tgt := 81) hx hb dX12_startSo_55 (by decide) (fun c7 => absurd c7 (by decide)) (fun _ => ?_)
  refine lv_aload_n hx hb dX12_startSo_58 rfl (lv_at hl 1 rfl) ?_
  refine va_get (D := (dC, dI)) (ci := 11) (v := .ref h2) (C := RX12) (T := TX12) (N := 47) hx hb hts ii_X12_startSo_X12 hown hK hP 0 rfl rfl 14 (by decide) (hts _ mm_X12_startSo_1) (fun _ h9 => h9) rfl dX12_startSo_59 ?_
  refine lv_bipush (v := 66) hx hb dX12_startSo_62 (by decide) ?_
  refine lv_iload_n hx hb dX12_startSo_64 rfl (lv_at hl 0 rfl) ?_
  refine lv_iadd hx hb dX12_startSo_65 ?_
  refine zz_top (v := 70) (by decide) ?_
  refine lv_aload_n hx hb dX12_startSo_66 rfl (lv_at hl 1 rfl) ?_
  refine va_get (D := (dC, dI)) (ci := 11) (v := .ref h2) (C := RX12) (T := TX12) (N := 47) hx hb hts ii_X12_startSo_X12 hown hK hP 0 rfl rfl 14 (by decide) (hts _ mm_X12_startSo_1) (fun _ h9 => h9) rfl dX12_startSo_67 ?_
  refine lv_iconst (v := 4) hx hb dX12_startSo_70 (by decide) ?_
  refine lv_iload_n hx hb dX12_startSo_71 rfl (lv_at hl 0 rfl) ?_
  refine lv_iadd hx hb dX12_startSo_72 ?_
  refine zz_top (v := 8) (by decide) ?_
  refine va_iald hx hb hK hP 1 0 rfl rfl (i := 8) (zz_in (by decide)) dX12_startSo_73 ?_
  refine zz_top (v := 0) (by rfl) ?_
  refine va_iast hx hb hK hP hD hS 1 0 rfl rfl (i := 70) (zz_in (by decide)) dX12_startSo_74 (fun H locs hP hD hS => ?_)
  have hP : va_P (dC, dI) vwCl [(h0, .inr (11, [.int 0, .ref h1, .int 0, .int 0, .int 0, .int 0, .int 0, .int 0, .int 0, .int 0, .int 0, .int 0, .long 0, .int 0, .ref h2, .ref h3, .ref h4, .ref h5, .ref h6, .ref h7, .ref h8, .ref h9, .ref h10, .int 0, .int 0, .int 0, .int 0, .int (-1), .int (-1), .long 0, .long 0, .ref h11, .ref h12, .int 0, .int (-1), .int 0, .ref h13, .int 0, .ref h14, .ref h15, .int 0, .int 0, .ref h16, .int 0, .int 0, .int 0, .int 0])), (h2, .inl (w0, 373, .inl (upd (upd (upd (fun _ => 0) 60 2) 62 2) 70 0)))] H := hP
  have hD : va_D A [(h0, .inr (11, [.int 0, .ref h1, .int 0, .int 0, .int 0, .int 0, .int 0, .int 0, .int 0, .int 0, .int 0, .int 0, .long 0, .int 0, .ref h2, .ref h3, .ref h4, .ref h5, .ref h6, .ref h7, .ref h8, .ref h9, .ref h10, .int 0, .int 0, .int 0, .int 0, .int (-1), .int (-1), .long 0, .long 0, .ref h11, .ref h12, .int 0, .int (-1), .int 0, .ref h13, .int 0, .ref h14, .ref h15, .int 0, .int 0, .ref h16, .int 0, .int 0, .int 0, .int 0])), (h2, .inl (w0, 373, .inl (upd (upd (upd (fun _ => 0) 60 2) 62 2) 70 0)))] := hD
  rw [zz_sw (f := (upd (upd (fun _ => 0) 60 2) 62 2)) (i := 70) (v := 0) rfl] at hP hD
  have hP : va_P (dC, dI) vwCl [(h0, .inr (11, [.int 0, .ref h1, .int 0, .int 0, .int 0, .int 0, .int 0, .int 0, .int 0, .int 0, .int 0, .int 0, .long 0, .int 0, .ref h2, .ref h3, .ref h4, .ref h5, .ref h6, .ref h7, .ref h8, .ref h9, .ref h10, .int 0, .int 0, .int 0, .int 0, .int (-1), .int (-1), .long 0, .long 0, .ref h11, .ref h12, .int 0, .int (-1), .int 0, .ref h13, .int 0, .ref h14, .ref h15, .int 0, .int 0, .ref h16, .int 0, .int 0, .int 0, .int 0])), (h2, .inl (w0, 373, .inl (upd (upd (fun _ => 0) 60 2) 62 2)))] H := hP
  have hD : va_D A [(h0, .inr (11, [.int 0, .ref h1, .int 0, .int 0, .int 0, .int 0, .int 0, .int 0, .int 0, .int 0, .int 0, .int 0, .long 0, .int 0, .ref h2, .ref h3, .ref h4, .ref h5, .ref h6, .ref h7, .ref h8, .ref h9, .ref h10, .int 0, .int 0, .int 0, .int 0, .int (-1), .int (-1), .long 0, .long 0, .ref h11, .ref h12, .int 0, .int (-1), .int 0, .ref h13, .int 0, .ref h14, .ref h15, .int 0, .int 0, .ref h16, .int 0, .int 0, .int 0, .int 0])), (h2, .inl (w0, 373, .inl (upd (upd (fun _ => 0) 60 2) 62 2)))] := hD
  refine lv_iinc (v := 5) (lv' := [(1, .int 5), (0, .ref h0)]) hx hb dX12_startSo_75 hl (k := 0) rfl (by decide) (by decide) rfl (fun ls hl => ?_)
  refine lv_goto (tgt := 53) hx hb dX12_startSo_78 (by decide) ?_
  refine lv_iload_n hx hb dX12_startSo_53 rfl (lv_at hl 0 rfl) ?_
  refine lv_iconst (v := 5) hx hb dX12_startSo_54 (by decide) ?_
  refine lv_icmp_ge (tgt := 81) hx hb dX12_startSo_55 (by decide) (fun _ => ?_) (fun c8 => absurd (by decide) c8)
  refine lv_iconst (v := 0) hx hb dX12_startSo_81 (by decide) ?_
  refine lv_istore_n (lv' := [(1, .int 0), (0, .ref h0)]) hx hb dX12_startSo_82 rfl hl (by decide) rfl (fun ls hl => ?_)
  refine lv_iload_n hx hb dX12_startSo_83 rfl (lv_at hl 0 rfl) ?_
  refine lv_bipush (v := 8) hx hb dX12_startSo_84 (by decide) ?_
  refine lv_icmp_ge (tgt := 149) hx hb dX12_startSo_86 (by decide) (fun c9 => absurd c9 (by decide)) (fun _ => ?_)
  refine lv_aload_n hx hb dX12_startSo_89 rfl (lv_at hl 1 rfl) ?_
  refine va_get (D := (dC, dI)) (ci := 11) (v := .ref h2) (C := RX12) (T := TX12) (N := 47) hx hb hts ii_X12_startSo_X12 hown hK hP 0 rfl rfl 14 (by decide) (hts _ mm_X12_startSo_1) (fun _ h9 => h9) rfl dX12_startSo_90 ?_
  refine lv_bipush (v := 71) hx hb dX12_startSo_93 (by decide) ?_
  refine lv_iload_n hx hb dX12_startSo_95 rfl (lv_at hl 0 rfl) ?_
  refine lv_iadd hx hb dX12_startSo_96 ?_
  refine zz_top (v := 71) (by decide) ?_
  refine lv_aload_n hx hb dX12_startSo_97 rfl (lv_at hl 1 rfl) ?_
  refine va_get (D := (dC, dI)) (ci := 11) (v := .ref h2) (C := RX12) (T := TX12) (N := 47) hx hb hts ii_X12_startSo_X12 hown hK hP 0 rfl rfl 14 (by decide) (hts _ mm_X12_startSo_1) (fun _ h9 => h9) rfl dX12_startSo_98 ?_
  refine lv_bipush (v := 10) hx hb dX12_startSo_101 (by decide) ?_
  refine lv_iload_n hx hb dX12_startSo_103 rfl (lv_at hl 0 rfl) ?_
  refine lv_iadd hx hb dX12_startSo_104 ?_
  refine zz_top (v := 10) (by decide) ?_
  refine va_iald hx hb hK hP 1 0 rfl rfl (i := 10) (zz_in (by decide)) dX12_startSo_105 ?_
  refine zz_top (v := 0) (by rfl) ?_
  refine va_iast hx hb hK hP hD hS 1 0 rfl rfl (i := 71) (zz_in (by decide)) dX12_startSo_106 (fun H locs hP hD hS => ?_)
  have hP : va_P (dC, dI) vwCl [(h0, .inr (11, [.int 0, .ref h1, .int 0, .int 0, .int 0, .int 0, .int 0, .int 0, .int 0, .int 0, .int 0, .int 0, .long 0, .int 0, .ref h2, .ref h3, .ref h4, .ref h5, .ref h6, .ref h7, .ref h8, .ref h9, .ref h10, .int 0, .int 0, .int 0, .int 0, .int (-1), .int (-1), .long 0, .long 0, .ref h11, .ref h12, .int 0, .int (-1), .int 0, .ref h13, .int 0, .ref h14, .ref h15, .int 0, .int 0, .ref h16, .int 0, .int 0, .int 0, .int 0])), (h2, .inl (w0, 373, .inl (upd (upd (upd (fun _ => 0) 60 2) 62 2) 71 0)))] H := hP
  have hD : va_D A [(h0, .inr (11, [.int 0, .ref h1, .int 0, .int 0, .int 0, .int 0, .int 0, .int 0, .int 0, .int 0, .int 0, .int 0, .long 0, .int 0, .ref h2, .ref h3, .ref h4, .ref h5, .ref h6, .ref h7, .ref h8, .ref h9, .ref h10, .int 0, .int 0, .int 0, .int 0, .int (-1), .int (-1), .long 0, .long 0, .ref h11, .ref h12, .int 0, .int (-1), .int 0, .ref h13, .int 0, .ref h14, .ref h15, .int 0, .int 0, .ref h16, .int 0, .int 0, .int 0, .int 0])), (h2, .inl (w0, 373, .inl (upd (upd (upd (fun _ => 0) 60 2) 62 2) 71 0)))] := hD
  rw [zz_sw (f := (upd (upd (fun _ => 0) 60 2) 62 2)) (i := 71) (v := 0) rfl] at hP hD
  have hP : va_P (dC, dI) vwCl [(h0, .inr (11, [.int 0, .ref h1, .int 0, .int 0, .int 0, .int 0, .int 0, .int 0, .int 0, .int 0, .int 0, .int 0, .long 0, .int 0, .ref h2, .ref h3, .ref h4, .ref h5, .ref h6, .ref h7, .ref h8, .ref h9, .ref h10, .int 0, .int 0, .int 0, .int 0, .int (-1), .int (-1), .long 0, .long 0, .ref h11, .ref h12, .int 0, .int (-1), .int 0, .ref h13, .int 0, .ref h14, .ref h15, .int 0, .int 0, .ref h16, .int 0, .int 0, .int 0, .int 0])), (h2, .inl (w0, 373, .inl (upd (upd (fun _ => 0) 60 2) 62 2)))] H := hP
  have hD : va_D A [(h0, .inr (11, [.int 0, .ref h1, .int 0, .int 0, .int 0, .int 0, .int 0, .int 0, .int 0, .int 0, .int 0, .int 0, .long 0, .int 0, .ref h2, .ref h3, .ref h4, .ref h5, .ref h6, .ref h7, .ref h8, .ref h9, .ref h10, .int 0, .int 0, .int 0, .int 0, .int (-1), .int (-1), .long 0, .long 0, .ref h11, .ref h12, .int 0, .int (-1), .int 0, .ref h13, .int 0, .ref h14, .ref h15, .int 0, .int 0, .ref h16, .int 0, .int 0, .int 0, .int 0])), (h2, .inl (w0, 373, .inl (upd (upd (fun _ => 0) 60 2) 62 2)))] := hD
  refine lv_aload_n hx hb dX12_startSo_107 rfl (lv_at hl 1 rfl) ?_
  refine va_get (D := (dC, dI)) (ci := 11) (v := .ref h2) (C := RX12) (T := TX12) (N := 47) hx hb hts ii_X12_startSo_X12 hown hK hP 0 rfl rfl 14 (by decide) (hts _ mm_X12_startSo_1) (fun _ h9 => h9) rfl dX12_startSo_108 ?_
  refine lv_bipush (v := 79) hx hb dX12_startSo_111 (by decide) ?_
  refine lv_iload_n hx hb dX12_startSo_113 rfl (lv_at hl 0 rfl) ?_
  refine lv_iadd hx hb dX12_startSo_114 ?_
  refine zz_top (v := 79) (by decide) ?_
  refine lv_aload_n hx hb dX12_startSo_115 rfl (lv_at hl 1 rfl) ?_
  refine va_get (D := (dC, dI)) (ci := 11) (v := .ref h2) (C := RX12) (T := TX12) (N := 47) hx hb hts ii_X12_startSo_X12 hown hK hP 0 rfl rfl 14 (by decide) (hts _ mm_X12_startSo_1) (fun _ h9 => h9) rfl dX12_startSo_116 ?_
  refine lv_bipush (v := 18) hx hb dX12_startSo_119 (by decide) ?_
  refine lv_iload_n hx hb dX12_startSo_121 rfl (lv_at hl 0 rfl) ?_
  refine lv_iadd hx hb dX12_startSo_122 ?_
  refine zz_top (v := 18) (by decide) ?_
  refine va_iald hx hb hK hP 1 0 rfl rfl (i := 18) (zz_in (by decide)) dX12_startSo_123 ?_
  refine zz_top (v := 0) (by rfl) ?_
  refine va_iast hx hb hK hP hD hS 1 0 rfl rfl (i := 79) (zz_in (by decide)) dX12_startSo_124 (fun H locs hP hD hS => ?_)
  have hP : va_P (dC, dI) vwCl [(h0, .inr (11, [.int 0, .ref h1, .int 0, .int 0, .int 0, .int 0, .int 0, .int 0, .int 0, .int 0, .int 0, .int 0, .long 0, .int 0, .ref h2, .ref h3, .ref h4, .ref h5, .ref h6, .ref h7, .ref h8, .ref h9, .ref h10, .int 0, .int 0, .int 0, .int 0, .int (-1), .int (-1), .long 0, .long 0, .ref h11, .ref h12, .int 0, .int (-1), .int 0, .ref h13, .int 0, .ref h14, .ref h15, .int 0, .int 0, .ref h16, .int 0, .int 0, .int 0, .int 0])), (h2, .inl (w0, 373, .inl (upd (upd (upd (fun _ => 0) 60 2) 62 2) 79 0)))] H := hP
  have hD : va_D A [(h0, .inr (11, [.int 0, .ref h1, .int 0, .int 0, .int 0, .int 0, .int 0, .int 0, .int 0, .int 0, .int 0, .int 0, .long 0, .int 0, .ref h2, .ref h3, .ref h4, .ref h5, .ref h6, .ref h7, .ref h8, .ref h9, .ref h10, .int 0, .int 0, .int 0, .int 0, .int (-1), .int (-1), .long 0, .long 0, .ref h11, .ref h12, .int 0, .int (-1), .int 0, .ref h13, .int 0, .ref h14, .ref h15, .int 0, .int 0, .ref h16, .int 0, .int 0, .int 0, .int 0])), (h2, .inl (w0, 373, .inl (upd (upd (upd (fun _ => 0) 60 2) 62 2) 79 0)))] := hD
  rw [zz_sw (f := (upd (upd (fun _ => 0) 60 2) 62 2)) (i := 79) (v := 0) rfl] at hP hD
  have hP : va_P (dC, dI) vwCl [(h0, .inr (11, [.int 0, .ref h1, .int 0, .int 0, .int 0, .int 0, .int 0, .int 0, .int 0, .int 0, .int 0, .int 0, .long 0, .int 0, .ref h2, .ref h3, .ref h4, .ref h5, .ref h6, .ref h7, .ref h8, .ref h9, .ref h10, .int 0, .int 0, .int 0, .int 0, .int (-1), .int (-1), .long 0, .long 0, .ref h11, .ref h12, .int 0, .int (-1), .int 0, .ref h13, .int 0, .ref h14, .ref h15, .int 0, .int 0, .ref h16, .int 0, .int 0, .int 0, .int 0])), (h2, .inl (w0, 373, .inl (upd (upd (fun _ => 0) 60 2) 62 2)))] H := hP
  have hD : va_D A [(h0, .inr (11, [.int 0, .ref h1, .int 0, .int 0, .int 0, .int 0, .int 0, .int 0, .int 0, .int 0, .int 0, .int 0, .long 0, .int 0, .ref h2, .ref h3, .ref h4, .ref h5, .ref h6, .ref h7, .ref h8, .ref h9, .ref h10, .int 0, .int 0, .int 0, .int 0, .int (-1), .int (-1), .long 0, .long 0, .ref h11, .ref h12, .int 0, .int (-1), .int 0, .ref h13, .int 0, .ref h14, .ref h15, .int 0, .int 0, .ref h16, .int 0, .int 0, .int 0, .int 0])), (h2, .inl (w0, 373, .inl (upd (upd (fun _ => 0) 60 2) 62 2)))] := hD
  refine lv_aload_n hx hb dX12_startSo_125 rfl (lv_at hl 1 rfl) ?_
  refine va_get (D := (dC, dI)) (ci := 11) (v := .ref h2) (C := RX12) (T := TX12) (N := 47) hx hb hts ii_X12_startSo_X12 hown hK hP 0 rfl rfl 14 (by decide) (hts _ mm_X12_startSo_1) (fun _ h9 => h9) rfl dX12_startSo_126 ?_
  refine lv_bipush (v := 87) hx hb dX12_startSo_129 (by decide) ?_
  refine lv_iload_n hx hb dX12_startSo_131 rfl (lv_at hl 0 rfl) ?_
  refine lv_iadd hx hb dX12_startSo_132 ?_
  refine zz_top (v := 87) (by decide) ?_
  refine lv_aload_n hx hb dX12_startSo_133 rfl (lv_at hl 1 rfl) ?_
  refine va_get (D := (dC, dI)) (ci := 11) (v := .ref h2) (C := RX12) (T := TX12) (N := 47) hx hb hts ii_X12_startSo_X12 hown hK hP 0 rfl rfl 14 (by decide) (hts _ mm_X12_startSo_1) (fun _ h9 => h9) rfl dX12_startSo_134 ?_
  refine lv_bipush (v := 26) hx hb dX12_startSo_137 (by decide) ?_
  refine lv_iload_n hx hb dX12_startSo_139 rfl (lv_at hl 0 rfl) ?_
  refine lv_iadd hx hb dX12_startSo_140 ?_
  refine zz_top (v := 26) (by decide) ?_
  refine va_iald hx hb hK hP 1 0 rfl rfl (i := 26) (zz_in (by decide)) dX12_startSo_141 ?_
  refine zz_top (v := 0) (by rfl) ?_
  refine va_iast hx hb hK hP hD hS 1 0 rfl rfl (i := 87) (zz_in (by decide)) dX12_startSo_142 (fun H locs hP hD hS => ?_)
  have hP : va_P (dC, dI) vwCl [(h0, .inr (11, [.int 0, .ref h1, .int 0, .int 0, .int 0, .int 0, .int 0, .int 0, .int 0, .int 0, .int 0, .int 0, .long 0, .int 0, .ref h2, .ref h3, .ref h4, .ref h5, .ref h6, .ref h7, .ref h8, .ref h9, .ref h10, .int 0, .int 0, .int 0, .int 0, .int (-1), .int (-1), .long 0, .long 0, .ref h11, .ref h12, .int 0, .int (-1), .int 0, .ref h13, .int 0, .ref h14, .ref h15, .int 0, .int 0, .ref h16, .int 0, .int 0, .int 0, .int 0])), (h2, .inl (w0, 373, .inl (upd (upd (upd (fun _ => 0) 60 2) 62 2) 87 0)))] H := hP
  have hD : va_D A [(h0, .inr (11, [.int 0, .ref h1, .int 0, .int 0, .int 0, .int 0, .int 0, .int 0, .int 0, .int 0, .int 0, .int 0, .long 0, .int 0, .ref h2, .ref h3, .ref h4, .ref h5, .ref h6, .ref h7, .ref h8, .ref h9, .ref h10, .int 0, .int 0, .int 0, .int 0, .int (-1), .int (-1), .long 0, .long 0, .ref h11, .ref h12, .int 0, .int (-1), .int 0, .ref h13, .int 0, .ref h14, .ref h15, .int 0, .int 0, .ref h16, .int 0, .int 0, .int 0, .int 0])), (h2, .inl (w0, 373, .inl (upd (upd (upd (fun _ => 0) 60 2) 62 2) 87 0)))] := hD
  rw [zz_sw (f := (upd (upd (fun _ => 0) 60 2) 62 2)) (i := 87) (v := 0) rfl] at hP hD
  have hP : va_P (dC, dI) vwCl [(h0, .inr (11, [.int 0, .ref h1, .int 0, .int 0, .int 0, .int 0, .int 0, .int 0, .int 0, .int 0, .int 0, .int 0, .long 0, .int 0, .ref h2, .ref h3, .ref h4, .ref h5, .ref h6, .ref h7, .ref h8, .ref h9, .ref h10, .int 0, .int 0, .int 0, .int 0, .int (-1), .int (-1), .long 0, .long 0, .ref h11, .ref h12, .int 0, .int (-1), .int 0, .ref h13, .int 0, .ref h14, .ref h15, .int 0, .int 0, .ref h16, .int 0, .int 0, .int 0, .int 0])), (h2, .inl (w0, 373, .inl (upd (upd (fun _ => 0) 60 2) 62 2)))] H := hP
  have hD : va_D A [(h0, .inr (11, [.int 0, .ref h1, .int 0, .int 0, .int 0, .int 0, .int 0, .int 0, .int 0, .int 0, .int 0, .int 0, .long 0, .int 0, .ref h2, .ref h3, .ref h4, .ref h5, .ref h6, .ref h7, .ref h8, .ref h9, .ref h10, .int 0, .int 0, .int 0, .int 0, .int (-1), .int (-1), .long 0, .long 0, .ref h11, .ref h12, .int 0, .int (-1), .int 0, .ref h13, .int 0, .ref h14, .ref h15, .int 0, .int 0, .ref h16, .int 0, .int 0, .int 0, .int 0])), (h2, .inl (w0, 373, .inl (upd (upd (fun _ => 0) 60 2) 62 2)))] := hD
  refine lv_iinc (v := 1) (lv' := [(1, .int 1), (0, .ref h0)]) hx hb dX12_startSo_143 hl (k := 0) rfl (by decide) (by decide) rfl (fun ls hl => ?_)
  refine lv_goto (tgt := 83) hx hb dX12_startSo_146 (by decide) ?_
  refine lv_iload_n hx hb dX12_startSo_83 rfl (lv_at hl 0 rfl) ?_
  refine lv_bipush (v := 8) hx hb dX12_startSo_84 (by decide) ?_
  refine lv_icmp_ge (tgt := 149) hx hb dX12_startSo_86 (by decide) (fun c10 => absurd c10 (by decide)) (fun _ => ?_)
  refine lv_aload_n hx hb dX12_startSo_89 rfl (lv_at hl 1 rfl) ?_
  refine va_get (D := (dC, dI)) (ci := 11) (v := .ref h2) (C := RX12) (T := TX12) (N := 47) hx hb hts ii_X12_startSo_X12 hown hK hP 0 rfl rfl 14 (by decide) (hts _ mm_X12_startSo_1) (fun _ h9 => h9) rfl dX12_startSo_90 ?_
  refine lv_bipush (v := 71) hx hb dX12_startSo_93 (by decide) ?_
  refine lv_iload_n hx hb dX12_startSo_95 rfl (lv_at hl 0 rfl) ?_
  refine lv_iadd hx hb dX12_startSo_96 ?_
  refine zz_top (v := 72) (by decide) ?_
  refine lv_aload_n hx hb dX12_startSo_97 rfl (lv_at hl 1 rfl) ?_
  refine va_get (D := (dC, dI)) (ci := 11) (v := .ref h2) (C := RX12) (T := TX12) (N := 47) hx hb hts ii_X12_startSo_X12 hown hK hP 0 rfl rfl 14 (by decide) (hts _ mm_X12_startSo_1) (fun _ h9 => h9) rfl dX12_startSo_98 ?_
  refine lv_bipush (v := 10) hx hb dX12_startSo_101 (by decide) ?_
  refine lv_iload_n hx hb dX12_startSo_103 rfl (lv_at hl 0 rfl) ?_
  refine lv_iadd hx hb dX12_startSo_104 ?_
  refine zz_top (v := 11) (by decide) ?_
  refine va_iald hx hb hK hP 1 0 rfl rfl (i := 11) (zz_in (by decide)) dX12_startSo_105 ?_
  refine zz_top (v := 0) (by rfl) ?_
  refine va_iast hx hb hK hP hD hS 1 0 rfl rfl (i := 72) (zz_in (by decide)) dX12_startSo_106 (fun H locs hP hD hS => ?_)
  have hP : va_P (dC, dI) vwCl [(h0, .inr (11, [.int 0, .ref h1, .int 0, .int 0, .int 0, .int 0, .int 0, .int 0, .int 0, .int 0, .int 0, .int 0, .long 0, .int 0, .ref h2, .ref h3, .ref h4, .ref h5, .ref h6, .ref h7, .ref h8, .ref h9, .ref h10, .int 0, .int 0, .int 0, .int 0, .int (-1), .int (-1), .long 0, .long 0, .ref h11, .ref h12, .int 0, .int (-1), .int 0, .ref h13, .int 0, .ref h14, .ref h15, .int 0, .int 0, .ref h16, .int 0, .int 0, .int 0, .int 0])), (h2, .inl (w0, 373, .inl (upd (upd (upd (fun _ => 0) 60 2) 62 2) 72 0)))] H := hP
  have hD : va_D A [(h0, .inr (11, [.int 0, .ref h1, .int 0, .int 0, .int 0, .int 0, .int 0, .int 0, .int 0, .int 0, .int 0, .int 0, .long 0, .int 0, .ref h2, .ref h3, .ref h4, .ref h5, .ref h6, .ref h7, .ref h8, .ref h9, .ref h10, .int 0, .int 0, .int 0, .int 0, .int (-1), .int (-1), .long 0, .long 0, .ref h11, .ref h12, .int 0, .int (-1), .int 0, .ref h13, .int 0, .ref h14, .ref h15, .int 0, .int 0, .ref h16, .int 0, .int 0, .int 0, .int 0])), (h2, .inl (w0, 373, .inl (upd (upd (upd (fun _ => 0) 60 2) 62 2) 72 0)))] := hD
  rw [zz_sw (f := (upd (upd (fun _ => 0) 60 2) 62 2)) (i := 72) (v := 0) rfl] at hP hD
  have hP : va_P (dC, dI) vwCl [(h0, .inr (11, [.int 0, .ref h1, .int 0, .int 0, .int 0, .int 0, .int 0, .int 0, .int 0, .int 0, .int 0, .int 0, .long 0, .int 0, .ref h2, .ref h3, .ref h4, .ref h5, .ref h6, .ref h7, .ref h8, .ref h9, .ref h10, .int 0, .int 0, .int 0, .int 0, .int (-1), .int (-1), .long 0, .long 0, .ref h11, .ref h12, .int 0, .int (-1), .int 0, .ref h13, .int 0, .ref h14, .ref h15, .int 0, .int 0, .ref h16, .int 0, .int 0, .int 0, .int 0])), (h2, .inl (w0, 373, .inl (upd (upd (fun _ => 0) 60 2) 62 2)))] H := hP
  have hD : va_D A [(h0, .inr (11, [.int 0, .ref h1, .int 0, .int 0, .int 0, .int 0, .int 0, .int 0, .int 0, .int 0, .int 0, .int 0, .long 0, .int 0, .ref h2, .ref h3, .ref h4, .ref h5, .ref h6, .ref h7, .ref h8, .ref h9, .ref h10, .int 0, .int 0, .int 0, .int 0, .int (-1), .int (-1), .long 0, .long 0, .ref h11, .ref h12, .int 0, .int (-1), .int 0, .ref h13, .int 0, .ref h14, .ref h15, .int 0, .int 0, .ref h16, .int 0, .int 0, .int 0, .int 0])), (h2, .inl (w0, 373, .inl (upd (upd (fun _ => 0) 60 2) 62 2)))] := hD
  refine lv_aload_n hx hb dX12_startSo_107 rfl (lv_at hl 1 rfl) ?_
  refine va_get (D := (dC, dI)) (ci := 11) (v := .ref h2) (C := RX12) (T := TX12) (N := 47) hx hb hts ii_X12_startSo_X12 hown hK hP 0 rfl rfl 14 (by decide) (hts _ mm_X12_startSo_1) (fun _ h9 => h9) rfl dX12_startSo_108 ?_
  refine lv_bipush (v := 79) hx hb dX12_startSo_111 (by decide) ?_
  refine lv_iload_n hx hb dX12_startSo_113 rfl (lv_at hl 0 rfl) ?_
  refine lv_iadd hx hb dX12_startSo_114 ?_
  refine zz_top (v := 80) (by decide) ?_
  refine lv_aload_n hx hb dX12_startSo_115 rfl (lv_at hl 1 rfl) ?_
  refine va_get (D := (dC, dI)) (ci := 11) (v := .ref h2) (C := RX12) (T := TX12) (N := 47) hx hb hts ii_X12_startSo_X12 hown hK hP 0 rfl rfl 14 (by decide) (hts _ mm_X12_startSo_1) (fun _ h9 => h9) rfl dX12_startSo_116 ?_
  refine lv_bipush (v := 18) hx hb dX12_startSo_119 (by decide) ?_
  refine lv_iload_n hx hb dX12_startSo_121 rfl (lv_at hl 0 rfl) ?_
  refine lv_iadd hx hb dX12_startSo_122 ?_
  refine zz_top (v := 19) (by decide) ?_
  refine va_iald hx hb hK hP 1 0 rfl rfl (i := 19) (zz_in (by decide)) dX12_startSo_123 ?_
  refine zz_top (v := 0) (by rfl) ?_
  refine va_iast hx hb hK hP hD hS 1 0 rfl rfl (i := 80) (zz_in (by decide)) dX12_startSo_124 (fun H locs hP hD hS => ?_)
  have hP : va_P (dC, dI) vwCl [(h0, .inr (11, [.int 0, .ref h1, .int 0, .int 0, .int 0, .int 0, .int 0, .int 0, .int 0, .int 0, .int 0, .int 0, .long 0, .int 0, .ref h2, .ref h3, .ref h4, .ref h5, .ref h6, .ref h7, .ref h8, .ref h9, .ref h10, .int 0, .int 0, .int 0, .int 0, .int (-1), .int (-1), .long 0, .long 0, .ref h11, .ref h12, .int 0, .int (-1), .int 0, .ref h13, .int 0, .ref h14, .ref h15, .int 0, .int 0, .ref h16, .int 0, .int 0, .int 0, .int 0])), (h2, .inl (w0, 373, .inl (upd (upd (upd (fun _ => 0) 60 2) 62 2) 80 0)))] H := hP
  have hD : va_D A [(h0, .inr (11, [.int 0, .ref h1, .int 0, .int 0, .int 0, .int 0, .int 0, .int 0, .int 0, .int 0, .int 0, .int 0, .long 0, .int 0, .ref h2, .ref h3, .ref h4, .ref h5, .ref h6, .ref h7, .ref h8, .ref h9, .ref h10, .int 0, .int 0, .int 0, .int 0, .int (-1), .int (-1), .long 0, .long 0, .ref h11, .ref h12, .int 0, .int (-1), .int 0, .ref h13, .int 0, .ref h14, .ref h15, .int 0, .int 0, .ref h16, .int 0, .int 0, .int 0, .int 0])), (h2, .inl (w0, 373, .inl (upd (upd (upd (fun _ => 0) 60 2) 62 2) 80 0)))] := hD
  rw [zz_sw (f := (upd (upd (fun _ => 0) 60 2) 62 2)) (i := 80) (v := 0) rfl] at hP hD
  have hP : va_P (dC, dI) vwCl [(h0, .inr (11, [.int 0, .ref h1, .int 0, .int 0, .int 0, .int 0, .int 0, .int 0, .int 0, .int 0, .int 0, .int 0, .long 0, .int 0, .ref h2, .ref h3, .ref h4, .ref h5, .ref h6, .ref h7, .ref h8, .ref h9, .ref h10, .int 0, .int 0, .int 0, .int 0, .int (-1), .int (-1), .long 0, .long 0, .ref h11, .ref h12, .int 0, .int (-1), .int 0, .ref h13, .int 0, .ref h14, .ref h15, .int 0, .int 0, .ref h16, .int 0, .int 0, .int 0, .int 0])), (h2, .inl (w0, 373, .inl (upd (upd (fun _ => 0) 60 2) 62 2)))] H := hP
  have hD : va_D A [(h0, .inr (11, [.int 0, .ref h1, .int 0, .int 0, .int 0, .int 0, .int 0, .int 0, .int 0, .int 0, .int 0, .int 0, .long 0, .int 0, .ref h2, .ref h3, .ref h4, .ref h5, .ref h6, .ref h7, .ref h8, .ref h9, .ref h10, .int 0, .int 0, .int 0, .int 0, .int (-1), .int (-1), .long 0, .long 0, .ref h11, .ref h12, .int 0, .int (-1), .int 0, .ref h13, .int 0, .ref h14, .ref h15, .int 0, .int 0, .ref h16, .int 0, .int 0, .int 0, .int 0])), (h2, .inl (w0, 373, .inl (upd (upd (fun _ => 0) 60 2) 62 2)))] := hD
  refine lv_aload_n hx hb dX12_startSo_125 rfl (lv_at hl 1 rfl) ?_
  refine va_get (D := (dC, dI)) (ci := 11) (v := .ref h2) (C := RX12) (T := TX12) (N := 47) hx hb hts ii_X12_startSo_X12 hown hK hP 0 rfl rfl 14 (by decide) (hts _ mm_X12_startSo_1) (fun _ h9 => h9) rfl dX12_startSo_126 ?_
  refine lv_bipush (v := 87) hx hb dX12_startSo_129 (by decide) ?_
  refine lv_iload_n hx hb dX12_startSo_131 rfl (lv_at hl 0 rfl) ?_
  refine lv_iadd hx hb dX12_startSo_132 ?_
  refine zz_top (v := 88) (by decide) ?_
  refine lv_aload_n hx hb dX12_startSo_133 rfl (lv_at hl 1 rfl) ?_
  refine va_get (D := (dC, dI)) (ci := 11) (v := .ref h2) (C := RX12) (T := TX12) (N := 47) hx hb hts ii_X12_startSo_X12 hown hK hP 0 rfl rfl 14 (by decide) (hts _ mm_X12_startSo_1) (fun _ h9 => h9) rfl dX12_startSo_134 ?_
  refine lv_bipush (v := 26) hx hb dX12_startSo_137 (by decide) ?_
  refine lv_iload_n hx hb dX12_startSo_139 rfl (lv_at hl 0 rfl) ?_
  refine lv_iadd hx hb dX12_startSo_140 ?_
  refine zz_top (v := 27) (by decide) ?_
  refine va_iald hx hb hK hP 1 0 rfl rfl (i := 27) (zz_in (by decide)) dX12_startSo_141 ?_
  refine zz_top (v := 0) (by rfl) ?_
  refine va_iast hx hb hK hP hD hS 1 0 rfl rfl (i := 88) (zz_in (by decide)) dX12_startSo_142 (fun H locs hP hD hS => ?_)
  have hP : va_P (dC, dI) vwCl [(h0, .inr (11, [.int 0, .ref h1, .int 0, .int 0, .int 0, .int 0, .int 0, .int 0, .int 0, .int 0, .int 0, .int 0, .long 0, .int 0, .ref h2, .ref h3, .ref h4, .ref h5, .ref h6, .ref h7, .ref h8, .ref h9, .ref h10, .int 0, .int 0, .int 0, .int 0, .int (-1), .int (-1), .long 0, .long 0, .ref h11, .ref h12, .int 0, .int (-1), .int 0, .ref h13, .int 0, .ref h14, .ref h15, .int 0, .int 0, .ref h16, .int 0, .int 0, .int 0, .int 0])), (h2, .inl (w0, 373, .inl (upd (upd (upd (fun _ => 0) 60 2) 62 2) 88 0)))] H := hP
  have hD : va_D A [(h0, .inr (11, [.int 0, .ref h1, .int 0, .int 0, .int 0, .int 0, .int 0, .int 0, .int 0, .int 0, .int 0, .int 0, .long 0, .int 0, .ref h2, .ref h3, .ref h4, .ref h5, .ref h6, .ref h7, .ref h8, .ref h9, .ref h10, .int 0, .int 0, .int 0, .int 0, .int (-1), .int (-1), .long 0, .long 0, .ref h11, .ref h12, .int 0, .int (-1), .int 0, .ref h13, .int 0, .ref h14, .ref h15, .int 0, .int 0, .ref h16, .int 0, .int 0, .int 0, .int 0])), (h2, .inl (w0, 373, .inl (upd (upd (upd (fun _ => 0) 60 2) 62 2) 88 0)))] := hD
  rw [zz_sw (f := (upd (upd (fun _ => 0) 60 2) 62 2)) (i := 88) (v := 0) rfl] at hP hD
  have hP : va_P (dC, dI) vwCl [(h0, .inr (11, [.int 0, .ref h1, .int 0, .int 0, .int 0, .int 0, .int 0, .int 0, .int 0, .int 0, .int 0, .int 0, .long 0, .int 0, .ref h2, .ref h3, .ref h4, .ref h5, .ref h6, .ref h7, .ref h8, .ref h9, .ref h10, .int 0, .int 0, .int 0, .int 0, .int (-1), .int (-1), .long 0, .long 0, .ref h11, .ref h12, .int 0, .int (-1), .int 0, .ref h13, .int 0, .ref h14, .ref h15, .int 0, .int 0, .ref h16, .int 0, .int 0, .int 0, .int 0])), (h2, .inl (w0, 373, .inl (upd (upd (fun _ => 0) 60 2) 62 2)))] H := hP
  have hD : va_D A [(h0, .inr (11, [.int 0, .ref h1, .int 0, .int 0, .int 0, .int 0, .int 0, .int 0, .int 0, .int 0, .int 0, .int 0, .long 0, .int 0, .ref h2, .ref h3, .ref h4, .ref h5, .ref h6, .ref h7, .ref h8, .ref h9, .ref h10, .int 0, .int 0, .int 0, .int 0, .int (-1), .int (-1), .long 0, .long 0, .ref h11, .ref h12, .int 0, .int (-1), .int 0, .ref h13, .int 0, .ref h14, .ref h15, .int 0, .int 0, .ref h16, .int 0, .int 0, .int 0, .int 0])), (h2, .inl (w0, 373, .inl (upd (upd (fun _ => 0) 60 2) 62 2)))] := hD
  refine lv_iinc (v := 2) (lv' := [(1, .int 2), (0, .ref h0)]) hx hb dX12_startSo_143 hl (k := 0) rfl (by decide) (by decide) rfl (fun ls hl => ?_)
  refine lv_goto (tgt := 83) hx hb dX12_startSo_146 (by decide) ?_
  refine lv_iload_n hx hb dX12_startSo_83 rfl (lv_at hl 0 rfl) ?_
  refine lv_bipush (v := 8) hx hb dX12_startSo_84 (by decide) ?_
  refine lv_icmp_ge (tgt := 149) hx hb dX12_startSo_86 (by decide) (fun c11 => absurd c11 (by decide)) (fun _ => ?_)
  refine lv_aload_n hx hb dX12_startSo_89 rfl (lv_at hl 1 rfl) ?_
  refine va_get (D := (dC, dI)) (ci := 11) (v := .ref h2) (C := RX12) (T := TX12) (N := 47) hx hb hts ii_X12_startSo_X12 hown hK hP 0 rfl rfl 14 (by decide) (hts _ mm_X12_startSo_1) (fun _ h9 => h9) rfl dX12_startSo_90 ?_
  refine lv_bipush (v := 71) hx hb dX12_startSo_93 (by decide) ?_
  refine lv_iload_n hx hb dX12_startSo_95 rfl (lv_at hl 0 rfl) ?_
  refine lv_iadd hx hb dX12_startSo_96 ?_
  refine zz_top (v := 73) (by decide) ?_
  refine lv_aload_n hx hb dX12_startSo_97 rfl (lv_at hl 1 rfl) ?_
  refine va_get (D := (dC, dI)) (ci := 11) (v := .ref h2) (C := RX12) (T := TX12) (N := 47) hx hb hts ii_X12_startSo_X12 hown hK hP 0 rfl rfl 14 (by decide) (hts _ mm_X12_startSo_1) (fun _ h9 => h9) rfl dX12_startSo_98 ?_
  refine lv_bipush (v := 10) hx hb dX12_startSo_101 (by decide) ?_
  refine lv_iload_n hx hb dX12_startSo_103 rfl (lv_at hl 0 rfl) ?_
  refine lv_iadd hx hb dX12_startSo_104 ?_
  refine zz_top (v := 12) (by decide) ?_
  refine va_iald hx hb hK hP 1 0 rfl rfl (i := 12) (zz_in (by decide)) dX12_startSo_105 ?_
  refine zz_top (v := 0) (by rfl) ?_
  refine va_iast hx hb hK hP hD hS 1 0 rfl rfl (i := 73) (zz_in (by decide)) dX12_startSo_106 (fun H locs hP hD hS => ?_)
  have hP : va_P (dC, dI) vwCl [(h0, .inr (11, [.int 0, .ref h1, .int 0, .int 0, .int 0, .int 0, .int 0, .int 0, .int 0, .int 0, .int 0, .int 0, .long 0, .int 0, .ref h2, .ref h3, .ref h4, .ref h5, .ref h6, .ref h7, .ref h8, .ref h9, .ref h10, .int 0, .int 0, .int 0, .int 0, .int (-1), .int (-1), .long 0, .long 0, .ref h11, .ref h12, .int 0, .int (-1), .int 0, .ref h13, .int 0, .ref h14, .ref h15, .int 0, .int 0, .ref h16, .int 0, .int 0, .int 0, .int 0])), (h2, .inl (w0, 373, .inl (upd (upd (upd (fun _ => 0) 60 2) 62 2) 73 0)))] H := hP
  have hD : va_D A [(h0, .inr (11, [.int 0, .ref h1, .int 0, .int 0, .int 0, .int 0, .int 0, .int 0, .int 0, .int 0, .int 0, .int 0, .long 0, .int 0, .ref h2, .ref h3, .ref h4, .ref h5, .ref h6, .ref h7, .ref h8, .ref h9, .ref h10, .int 0, .int 0, .int 0, .int 0, .int (-1), .int (-1), .long 0, .long 0, .ref h11, .ref h12, .int 0, .int (-1), .int 0, .ref h13, .int 0, .ref h14, .ref h15, .int 0, .int 0, .ref h16, .int 0, .int 0, .int 0, .int 0])), (h2, .inl (w0, 373, .inl (upd (upd (upd (fun _ => 0) 60 2) 62 2) 73 0)))] := hD
  rw [zz_sw (f := (upd (upd (fun _ => 0) 60 2) 62 2)) (i := 73) (v := 0) rfl] at hP hD
  have hP : va_P (dC, dI) vwCl [(h0, .inr (11, [.int 0, .ref h1, .int 0, .int 0, .int 0, .int 0, .int 0, .int 0, .int 0, .int 0, .int 0, .int 0, .long 0, .int 0, .ref h2, .ref h3, .ref h4, .ref h5, .ref h6, .ref h7, .ref h8, .ref h9, .ref h10, .int 0, .int 0, .int 0, .int 0, .int (-1), .int (-1), .long 0, .long 0, .ref h11, .ref h12, .int 0, .int (-1), .int 0, .ref h13, .int 0, .ref h14, .ref h15, .int 0, .int 0, .ref h16, .int 0, .int 0, .int 0, .int 0])), (h2, .inl (w0, 373, .inl (upd (upd (fun _ => 0) 60 2) 62 2)))] H := hP
  have hD : va_D A [(h0, .inr (11, [.int 0, .ref h1, .int 0, .int 0, .int 0, .int 0, .int 0, .int 0, .int 0, .int 0, .int 0, .int 0, .long 0, .int 0, .ref h2, .ref h3, .ref h4, .ref h5, .ref h6, .ref h7, .ref h8, .ref h9, .ref h10, .int 0, .int 0, .int 0, .int 0, .int (-1), .int (-1), .long 0, .long 0, .ref h11, .ref h12, .int 0, .int (-1), .int 0, .ref h13, .int 0, .ref h14, .ref h15, .int 0, .int 0, .ref h16, .int 0, .int 0, .int 0, .int 0])), (h2, .inl (w0, 373, .inl (upd (upd (fun _ => 0) 60 2) 62 2)))] := hD
  refine lv_aload_n hx hb dX12_startSo_107 rfl (lv_at hl 1 rfl) ?_
  refine va_get (D := (dC, dI)) (ci := 11) (v := .ref h2) (C := RX12) (T := TX12) (N := 47) hx hb hts ii_X12_startSo_X12 hown hK hP 0 rfl rfl 14 (by decide) (hts _ mm_X12_startSo_1) (fun _ h9 => h9) rfl dX12_startSo_108 ?_
  refine lv_bipush (v := 79) hx hb dX12_startSo_111 (by decide) ?_
  refine lv_iload_n hx hb dX12_startSo_113 rfl (lv_at hl 0 rfl) ?_
  refine lv_iadd hx hb dX12_startSo_114 ?_
  refine zz_top (v := 81) (by decide) ?_
  refine lv_aload_n hx hb dX12_startSo_115 rfl (lv_at hl 1 rfl) ?_
  refine va_get (D := (dC, dI)) (ci := 11) (v := .ref h2) (C := RX12) (T := TX12) (N := 47) hx hb hts ii_X12_startSo_X12 hown hK hP 0 rfl rfl 14 (by decide) (hts _ mm_X12_startSo_1) (fun _ h9 => h9) rfl dX12_startSo_116 ?_
  refine lv_bipush (v := 18) hx hb dX12_startSo_119 (by decide) ?_
  refine lv_iload_n hx hb dX12_startSo_121 rfl (lv_at hl 0 rfl) ?_
  refine lv_iadd hx hb dX12_startSo_122 ?_
  refine zz_top (v := 20) (by decide) ?_
  refine va_iald hx hb hK hP 1 0 rfl rfl (i := 20) (zz_in (by decide)) dX12_startSo_123 ?_
  refine zz_top (v := 0) (by rfl) ?_
  refine va_iast hx hb hK hP hD hS 1 0 rfl rfl (i := 81) (zz_in (by decide)) dX12_startSo_124 (fun H locs hP hD hS => ?_)
  have hP : va_P (dC, dI) vwCl [(h0, .inr (11, [.int 0, .ref h1, .int 0, .int 0, .int 0, .int 0, .int 0, .int 0, .int 0, .int 0, .int 0, .int 0, .long 0, .int 0, .ref h2, .ref h3, .ref h4, .ref h5, .ref h6, .ref h7, .ref h8, .ref h9, .ref h10, .int 0, .int 0, .int 0, .int 0, .int (-1), .int (-1), .long 0, .long 0, .ref h11, .ref h12, .int 0, .int (-1), .int 0, .ref h13, .int 0, .ref h14, .ref h15, .int 0, .int 0, .ref h16, .int 0, .int 0, .int 0, .int 0])), (h2, .inl (w0, 373, .inl (upd (upd (upd (fun _ => 0) 60 2) 62 2) 81 0)))] H := hP
  have hD : va_D A [(h0, .inr (11, [.int 0, .ref h1, .int 0, .int 0, .int 0, .int 0, .int 0, .int 0, .int 0, .int 0, .int 0, .int 0, .long 0, .int 0, .ref h2, .ref h3, .ref h4, .ref h5, .ref h6, .ref h7, .ref h8, .ref h9, .ref h10, .int 0, .int 0, .int 0, .int 0, .int (-1), .int (-1), .long 0, .long 0, .ref h11, .ref h12, .int 0, .int (-1), .int 0, .ref h13, .int 0, .ref h14, .ref h15, .int 0, .int 0, .ref h16, .int 0, .int 0, .int 0, .int 0])), (h2, .inl (w0, 373, .inl (upd (upd (upd (fun _ => 0) 60 2) 62 2) 81 0)))] := hD
  rw [zz_sw (f := (upd (upd (fun _ => 0) 60 2) 62 2)) (i := 81) (v := 0) rfl] at hP hD
  have hP : va_P (dC, dI) vwCl [(h0, .inr (11, [.int 0, .ref h1, .int 0, .int 0, .int 0, .int 0, .int 0, .int 0, .int 0, .int 0, .int 0, .int 0, .long 0, .int 0, .ref h2, .ref h3, .ref h4, .ref h5, .ref h6, .ref h7, .ref h8, .ref h9, .ref h10, .int 0, .int 0, .int 0, .int 0, .int (-1), .int (-1), .long 0, .long 0, .ref h11, .ref h12, .int 0, .int (-1), .int 0, .ref h13, .int 0, .ref h14, .ref h15, .int 0, .int 0, .ref h16, .int 0, .int 0, .int 0, .int 0])), (h2, .inl (w0, 373, .inl (upd (upd (fun _ => 0) 60 2) 62 2)))] H := hP
  have hD : va_D A [(h0, .inr (11, [.int 0, .ref h1, .int 0, .int 0, .int 0, .int 0, .int 0, .int 0, .int 0, .int 0, .int 0, .int 0, .long 0, .int 0, .ref h2, .ref h3, .ref h4, .ref h5, .ref h6, .ref h7, .ref h8, .ref h9, .ref h10, .int 0, .int 0, .int 0, .int 0, .int (-1), .int (-1), .long 0, .long 0, .ref h11, .ref h12, .int 0, .int (-1), .int 0, .ref h13, .int 0, .ref h14, .ref h15, .int 0, .int 0, .ref h16, .int 0, .int 0, .int 0, .int 0])), (h2, .inl (w0, 373, .inl (upd (upd (fun _ => 0) 60 2) 62 2)))] := hD
  refine lv_aload_n hx hb dX12_startSo_125 rfl (lv_at hl 1 rfl) ?_
  refine va_get (D := (dC, dI)) (ci := 11) (v := .ref h2) (C := RX12) (T := TX12) (N := 47) hx hb hts ii_X12_startSo_X12 hown hK hP 0 rfl rfl 14 (by decide) (hts _ mm_X12_startSo_1) (fun _ h9 => h9) rfl dX12_startSo_126 ?_
  refine lv_bipush (v := 87) hx hb dX12_startSo_129 (by decide) ?_
  refine lv_iload_n hx hb dX12_startSo_131 rfl (lv_at hl 0 rfl) ?_
  refine lv_iadd hx hb dX12_startSo_132 ?_
  refine zz_top (v := 89) (by decide) ?_
  refine lv_aload_n hx hb dX12_startSo_133 rfl (lv_at hl 1 rfl) ?_
  refine va_get (D := (dC, dI)) (ci := 11) (v := .ref h2) (C := RX12) (T := TX12) (N := 47) hx hb hts ii_X12_startSo_X12 hown hK hP 0 rfl rfl 14 (by decide) (hts _ mm_X12_startSo_1) (fun _ h9 => h9) rfl dX12_startSo_134 ?_
  refine lv_bipush (v := 26) hx hb dX12_startSo_137 (by decide) ?_
  refine lv_iload_n hx hb dX12_startSo_139 rfl (lv_at hl 0 rfl) ?_
  refine lv_iadd hx hb dX12_startSo_140 ?_
  refine zz_top (v := 28) (by decide) ?_
  refine va_iald hx hb hK hP 1 0 rfl rfl (i := 28) (zz_in (by decide)) dX12_startSo_141 ?_
  refine zz_top (v := 0) (by rfl) ?_
  refine va_iast hx hb hK hP hD hS 1 0 rfl rfl (i := 89) (zz_in (by decide)) dX12_startSo_142 (fun H locs hP hD hS => ?_)
  have hP : va_P (dC, dI) vwCl [(h0, .inr (11, [.int 0, .ref h1, .int 0, .int 0, .int 0, .int 0, .int 0, .int 0, .int 0, .int 0, .int 0, .int 0, .long 0, .int 0, .ref h2, .ref h3, .ref h4, .ref h5, .ref h6, .ref h7, .ref h8, .ref h9, .ref h10, .int 0, .int 0, .int 0, .int 0, .int (-1), .int (-1), .long 0, .long 0, .ref h11, .ref h12, .int 0, .int (-1), .int 0, .ref h13, .int 0, .ref h14, .ref h15, .int 0, .int 0, .ref h16, .int 0, .int 0, .int 0, .int 0])), (h2, .inl (w0, 373, .inl (upd (upd (upd (fun _ => 0) 60 2) 62 2) 89 0)))] H := hP
  have hD : va_D A [(h0, .inr (11, [.int 0, .ref h1, .int 0, .int 0, .int 0, .int 0, .int 0, .int 0, .int 0, .int 0, .int 0, .int 0, .long 0, .int 0, .ref h2, .ref h3, .ref h4, .ref h5, .ref h6, .ref h7, .ref h8, .ref h9, .ref h10, .int 0, .int 0, .int 0, .int 0, .int (-1), .int (-1), .long 0, .long 0, .ref h11, .ref h12, .int 0, .int (-1), .int 0, .ref h13, .int 0, .ref h14, .ref h15, .int 0, .int 0, .ref h16, .int 0, .int 0, .int 0, .int 0])), (h2, .inl (w0, 373, .inl (upd (upd (upd (fun _ => 0) 60 2) 62 2) 89 0)))] := hD
  rw [zz_sw (f := (upd (upd (fun _ => 0) 60 2) 62 2)) (i := 89) (v := 0) rfl] at hP hD
  have hP : va_P (dC, dI) vwCl [(h0, .inr (11, [.int 0, .ref h1, .int 0, .int 0, .int 0, .int 0, .int 0, .int 0, .int 0, .int 0, .int 0, .int 0, .long 0, .int 0, .ref h2, .ref h3, .ref h4, .ref h5, .ref h6, .ref h7, .ref h8, .ref h9, .ref h10, .int 0, .int 0, .int 0, .int 0, .int (-1), .int (-1), .long 0, .long 0, .ref h11, .ref h12, .int 0, .int (-1), .int 0, .ref h13, .int 0, .ref h14, .ref h15, .int 0, .int 0, .ref h16, .int 0, .int 0, .int 0, .int 0])), (h2, .inl (w0, 373, .inl (upd (upd (fun _ => 0) 60 2) 62 2)))] H := hP
  have hD : va_D A [(h0, .inr (11, [.int 0, .ref h1, .int 0, .int 0, .int 0, .int 0, .int 0, .int 0, .int 0, .int 0, .int 0, .int 0, .long 0, .int 0, .ref h2, .ref h3, .ref h4, .ref h5, .ref h6, .ref h7, .ref h8, .ref h9, .ref h10, .int 0, .int 0, .int 0, .int 0, .int (-1), .int (-1), .long 0, .long 0, .ref h11, .ref h12, .int 0, .int (-1), .int 0, .ref h13, .int 0, .ref h14, .ref h15, .int 0, .int 0, .ref h16, .int 0, .int 0, .int 0, .int 0])), (h2, .inl (w0, 373, .inl (upd (upd (fun _ => 0) 60 2) 62 2)))] := hD
  refine lv_iinc (v := 3) (lv' := [(1, .int 3), (0, .ref h0)]) hx hb dX12_startSo_143 hl (k := 0) rfl (by decide) (by decide) rfl (fun ls hl => ?_)
  refine lv_goto (tgt := 83) hx hb dX12_startSo_146 (by decide) ?_
  refine lv_iload_n hx hb dX12_startSo_83 rfl (lv_at hl 0 rfl) ?_
  refine lv_bipush (v := 8) hx hb dX12_startSo_84 (by decide) ?_
  refine lv_icmp_ge (tgt := 149) hx hb dX12_startSo_86 (by decide) (fun c12 => absurd c12 (by decide)) (fun _ => ?_)
  refine lv_aload_n hx hb dX12_startSo_89 rfl (lv_at hl 1 rfl) ?_
  refine va_get (D := (dC, dI)) (ci := 11) (v := .ref h2) (C := RX12) (T := TX12) (N := 47) hx hb hts ii_X12_startSo_X12 hown hK hP 0 rfl rfl 14 (by decide) (hts _ mm_X12_startSo_1) (fun _ h9 => h9) rfl dX12_startSo_90 ?_
  refine lv_bipush (v := 71) hx hb dX12_startSo_93 (by decide) ?_
  refine lv_iload_n hx hb dX12_startSo_95 rfl (lv_at hl 0 rfl) ?_
  refine lv_iadd hx hb dX12_startSo_96 ?_
  refine zz_top (v := 74) (by decide) ?_
  refine lv_aload_n hx hb dX12_startSo_97 rfl (lv_at hl 1 rfl) ?_
  refine va_get (D := (dC, dI)) (ci := 11) (v := .ref h2) (C := RX12) (T := TX12) (N := 47) hx hb hts ii_X12_startSo_X12 hown hK hP 0 rfl rfl 14 (by decide) (hts _ mm_X12_startSo_1) (fun _ h9 => h9) rfl dX12_startSo_98 ?_
  refine lv_bipush (v := 10) hx hb dX12_startSo_101 (by decide) ?_
  refine lv_iload_n hx hb dX12_startSo_103 rfl (lv_at hl 0 rfl) ?_
  refine lv_iadd hx hb dX12_startSo_104 ?_
  refine zz_top (v := 13) (by decide) ?_
  refine va_iald hx hb hK hP 1 0 rfl rfl (i := 13) (zz_in (by decide)) dX12_startSo_105 ?_
  refine zz_top (v := 0) (by rfl) ?_
  refine va_iast hx hb hK hP hD hS 1 0 rfl rfl (i := 74) (zz_in (by decide)) dX12_startSo_106 (fun H locs hP hD hS => ?_)
  have hP : va_P (dC, dI) vwCl [(h0, .inr (11, [.int 0, .ref h1, .int 0, .int 0, .int 0, .int 0, .int 0, .int 0, .int 0, .int 0, .int 0, .int 0, .long 0, .int 0, .ref h2, .ref h3, .ref h4, .ref h5, .ref h6, .ref h7, .ref h8, .ref h9, .ref h10, .int 0, .int 0, .int 0, .int 0, .int (-1), .int (-1), .long 0, .long 0, .ref h11, .ref h12, .int 0, .int (-1), .int 0, .ref h13, .int 0, .ref h14, .ref h15, .int 0, .int 0, .ref h16, .int 0, .int 0, .int 0, .int 0])), (h2, .inl (w0, 373, .inl (upd (upd (upd (fun _ => 0) 60 2) 62 2) 74 0)))] H := hP
  have hD : va_D A [(h0, .inr (11, [.int 0, .ref h1, .int 0, .int 0, .int 0, .int 0, .int 0, .int 0, .int 0, .int 0, .int 0, .int 0, .long 0, .int 0, .ref h2, .ref h3, .ref h4, .ref h5, .ref h6, .ref h7, .ref h8, .ref h9, .ref h10, .int 0, .int 0, .int 0, .int 0, .int (-1), .int (-1), .long 0, .long 0, .ref h11, .ref h12, .int 0, .int (-1), .int 0, .ref h13, .int 0, .ref h14, .ref h15, .int 0, .int 0, .ref h16, .int 0, .int 0, .int 0, .int 0])), (h2, .inl (w0, 373, .inl (upd (upd (upd (fun _ => 0) 60 2) 62 2) 74 0)))] := hD
  rw [zz_sw (f := (upd (upd (fun _ => 0) 60 2) 62 2)) (i := 74) (v := 0) rfl] at hP hD
  have hP : va_P (dC, dI) vwCl [(h0, .inr (11, [.int 0, .ref h1, .int 0, .int 0, .int 0, .int 0, .int 0, .int 0, .int 0, .int 0, .int 0, .int 0, .long 0, .int 0, .ref h2, .ref h3, .ref h4, .ref h5, .ref h6, .ref h7, .ref h8, .ref h9, .ref h10, .int 0, .int 0, .int 0, .int 0, .int (-1), .int (-1), .long 0, .long 0, .ref h11, .ref h12, .int 0, .int (-1), .int 0, .ref h13, .int 0, .ref h14, .ref h15, .int 0, .int 0, .ref h16, .int 0, .int 0, .int 0, .int 0])), (h2, .inl (w0, 373, .inl (upd (upd (fun _ => 0) 60 2) 62 2)))] H := hP
  have hD : va_D A [(h0, .inr (11, [.int 0, .ref h1, .int 0, .int 0, .int 0, .int 0, .int 0, .int 0, .int 0, .int 0, .int 0, .int 0, .long 0, .int 0, .ref h2, .ref h3, .ref h4, .ref h5, .ref h6, .ref h7, .ref h8, .ref h9, .ref h10, .int 0, .int 0, .int 0, .int 0, .int (-1), .int (-1), .long 0, .long 0, .ref h11, .ref h12, .int 0, .int (-1), .int 0, .ref h13, .int 0, .ref h14, .ref h15, .int 0, .int 0, .ref h16, .int 0, .int 0, .int 0, .int 0])), (h2, .inl (w0, 373, .inl (upd (upd (fun _ => 0) 60 2) 62 2)))] := hD
  refine lv_aload_n hx hb dX12_startSo_107 rfl (lv_at hl 1 rfl) ?_
  refine va_get (D := (dC, dI)) (ci := 11) (v := .ref h2) (C := RX12) (T := TX12) (N := 47) hx hb hts ii_X12_startSo_X12 hown hK hP 0 rfl rfl 14 (by decide) (hts _ mm_X12_startSo_1) (fun _ h9 => h9) rfl dX12_startSo_108 ?_
  refine lv_bipush (v := 79) hx hb dX12_startSo_111 (by decide) ?_
  refine lv_iload_n hx hb dX12_startSo_113 rfl (lv_at hl 0 rfl) ?_
  refine lv_iadd hx hb dX12_startSo_114 ?_
  refine zz_top (v := 82) (by decide) ?_
  refine lv_aload_n hx hb dX12_startSo_115 rfl (lv_at hl 1 rfl) ?_
  refine va_get (D := (dC, dI)) (ci := 11) (v := .ref h2) (C := RX12) (T := TX12) (N := 47) hx hb hts ii_X12_startSo_X12 hown hK hP 0 rfl rfl 14 (by decide) (hts _ mm_X12_startSo_1) (fun _ h9 => h9) rfl dX12_startSo_116 ?_
  refine lv_bipush (v := 18) hx hb dX12_startSo_119 (by decide) ?_
  refine lv_iload_n hx hb dX12_startSo_121 rfl (lv_at hl 0 rfl) ?_
  refine lv_iadd hx hb dX12_startSo_122 ?_
  refine zz_top (v := 21) (by decide) ?_
  refine va_iald hx hb hK hP 1 0 rfl rfl (i := 21) (zz_in (by decide)) dX12_startSo_123 ?_
  refine zz_top (v := 0) (by rfl) ?_
  refine va_iast hx hb hK hP hD hS 1 0 rfl rfl (i := 82) (zz_in (by decide)) dX12_startSo_124 (fun H locs hP hD hS => ?_)
  have hP : va_P (dC, dI) vwCl [(h0, .inr (11, [.int 0, .ref h1, .int 0, .int 0, .int 0, .int 0, .int 0, .int 0, .int 0, .int 0, .int 0, .int 0, .long 0, .int 0, .ref h2, .ref h3, .ref h4, .ref h5, .ref h6, .ref h7, .ref h8, .ref h9, .ref h10, .int 0, .int 0, .int 0, .int 0, .int (-1), .int (-1), .long 0, .long 0, .ref h11, .ref h12, .int 0, .int (-1), .int 0, .ref h13, .int 0, .ref h14, .ref h15, .int 0, .int 0, .ref h16, .int 0, .int 0, .int 0, .int 0])), (h2, .inl (w0, 373, .inl (upd (upd (upd (fun _ => 0) 60 2) 62 2) 82 0)))] H := hP
  have hD : va_D A [(h0, .inr (11, [.int 0, .ref h1, .int 0, .int 0, .int 0, .int 0, .int 0, .int 0, .int 0, .int 0, .int 0, .int 0, .long 0, .int 0, .ref h2, .ref h3, .ref h4, .ref h5, .ref h6, .ref h7, .ref h8, .ref h9, .ref h10, .int 0, .int 0, .int 0, .int 0, .int (-1), .int (-1), .long 0, .long 0, .ref h11, .ref h12, .int 0, .int (-1), .int 0, .ref h13, .int 0, .ref h14, .ref h15, .int 0, .int 0, .ref h16, .int 0, .int 0, .int 0, .int 0])), (h2, .inl (w0, 373, .inl (upd (upd (upd (fun _ => 0) 60 2) 62 2) 82 0)))] := hD
  rw [zz_sw (f := (upd (upd (fun _ => 0) 60 2) 62 2)) (i := 82) (v := 0) rfl] at hP hD
  have hP : va_P (dC, dI) vwCl [(h0, .inr (11, [.int 0, .ref h1, .int 0, .int 0, .int 0, .int 0, .int 0, .int 0, .int 0, .int 0, .int 0, .int 0, .long 0, .int 0, .ref h2, .ref h3, .ref h4, .ref h5, .ref h6, .ref h7, .ref h8, .ref h9, .ref h10, .int 0, .int 0, .int 0, .int 0, .int (-1), .int (-1), .long 0, .long 0, .ref h11, .ref h12, .int 0, .int (-1), .int 0, .ref h13, .int 0, .ref h14, .ref h15, .int 0, .int 0, .ref h16, .int 0, .int 0, .int 0, .int 0])), (h2, .inl (w0, 373, .inl (upd (upd (fun _ => 0) 60 2) 62 2)))] H := hP
  have hD : va_D A [(h0, .inr (11, [.int 0, .ref h1, .int 0, .int 0, .int 0, .int 0, .int 0, .int 0, .int 0, .int 0, .int 0, .int 0, .long 0, .int 0, .ref h2, .ref h3, .ref h4, .ref h5, .ref h6, .ref h7, .ref h8, .ref h9, .ref h10, .int 0, .int 0, .int 0, .int 0, .int (-1), .int (-1), .long 0, .long 0, .ref h11, .ref h12, .int 0, .int (-1), .int 0, .ref h13, .int 0, .ref h14, .ref h15, .int 0, .int 0, .ref h16, .int 0, .int 0, .int 0, .int 0])), (h2, .inl (w0, 373, .inl (upd (upd (fun _ => 0) 60 2) 62 2)))] := hD
  refine lv_aload_n hx hb dX12_startSo_125 rfl (lv_at hl 1 rfl) ?_
  refine va_get (D := (dC, dI)) (ci := 11) (v := .ref h2) (C := RX12) (T := TX12) (N := 47) hx hb hts ii_X12_startSo_X12 hown hK hP 0 rfl rfl 14 (by decide) (hts _ mm_X12_startSo_1) (fun _ h9 => h9) rfl dX12_startSo_126 ?_
  refine lv_bipush (v := 87) hx hb dX12_startSo_129 (by decide) ?_
  refine lv_iload_n hx hb dX12_startSo_131 rfl (lv_at hl 0 rfl) ?_
  refine lv_iadd hx hb dX12_startSo_132 ?_
  refine zz_top (v := 90) (by decide) ?_
  refine lv_aload_n hx hb dX12_startSo_133 rfl (lv_at hl 1 rfl) ?_
  refine va_get (D := (dC, dI)) (ci := 11) (v := .ref h2) (C := RX12) (T := TX12) (N := 47) hx hb hts ii_X12_startSo_X12 hown hK hP 0 rfl rfl 14 (by decide) (hts _ mm_X12_startSo_1) (fun _ h9 => h9) rfl dX12_startSo_134 ?_
  refine lv_bipush (v := 26) hx hb dX12_startSo_137 (by decide) ?_
  refine lv_iload_n hx hb dX12_startSo_139 rfl (lv_at hl 0 rfl) ?_
  refine lv_iadd hx hb dX12_startSo_140 ?_
  refine zz_top (v := 29) (by decide) ?_
  refine va_iald hx hb hK hP 1 0 rfl rfl (i := 29) (zz_in (by decide)) dX12_startSo_141 ?_
  refine zz_top (v := 0) (by rfl) ?_
  refine va_iast hx hb hK hP hD hS 1 0 rfl rfl (i := 90) (zz_in (by decide)) dX12_startSo_142 (fun H locs hP hD hS => ?_)
  have hP : va_P (dC, dI) vwCl [(h0, .inr (11, [.int 0, .ref h1, .int 0, .int 0, .int 0, .int 0, .int 0, .int 0, .int 0, .int 0, .int 0, .int 0, .long 0, .int 0, .ref h2, .ref h3, .ref h4, .ref h5, .ref h6, .ref h7, .ref h8, .ref h9, .ref h10, .int 0, .int 0, .int 0, .int 0, .int (-1), .int (-1), .long 0, .long 0, .ref h11, .ref h12, .int 0, .int (-1), .int 0, .ref h13, .int 0, .ref h14, .ref h15, .int 0, .int 0, .ref h16, .int 0, .int 0, .int 0, .int 0])), (h2, .inl (w0, 373, .inl (upd (upd (upd (fun _ => 0) 60 2) 62 2) 90 0)))] H := hP
  have hD : va_D A [(h0, .inr (11, [.int 0, .ref h1, .int 0, .int 0, .int 0, .int 0, .int 0, .int 0, .int 0, .int 0, .int 0, .int 0, .long 0, .int 0, .ref h2, .ref h3, .ref h4, .ref h5, .ref h6, .ref h7, .ref h8, .ref h9, .ref h10, .int 0, .int 0, .int 0, .int 0, .int (-1), .int (-1), .long 0, .long 0, .ref h11, .ref h12, .int 0, .int (-1), .int 0, .ref h13, .int 0, .ref h14, .ref h15, .int 0, .int 0, .ref h16, .int 0, .int 0, .int 0, .int 0])), (h2, .inl (w0, 373, .inl (upd (upd (upd (fun _ => 0) 60 2) 62 2) 90 0)))] := hD
  rw [zz_sw (f := (upd (upd (fun _ => 0) 60 2) 62 2)) (i := 90) (v := 0) rfl] at hP hD
  have hP : va_P (dC, dI) vwCl [(h0, .inr (11, [.int 0, .ref h1, .int 0, .int 0, .int 0, .int 0, .int 0, .int 0, .int 0, .int 0, .int 0, .int 0, .long 0, .int 0, .ref h2, .ref h3, .ref h4, .ref h5, .ref h6, .ref h7, .ref h8, .ref h9, .ref h10, .int 0, .int 0, .int 0, .int 0, .int (-1), .int (-1), .long 0, .long 0, .ref h11, .ref h12, .int 0, .int (-1), .int 0, .ref h13, .int 0, .ref h14, .ref h15, .int 0, .int 0, .ref h16, .int 0, .int 0, .int 0, .int 0])), (h2, .inl (w0, 373, .inl (upd (upd (fun _ => 0) 60 2) 62 2)))] H := hP
  have hD : va_D A [(h0, .inr (11, [.int 0, .ref h1, .int 0, .int 0, .int 0, .int 0, .int 0, .int 0, .int 0, .int 0, .int 0, .int 0, .long 0, .int 0, .ref h2, .ref h3, .ref h4, .ref h5, .ref h6, .ref h7, .ref h8, .ref h9, .ref h10, .int 0, .int 0, .int 0, .int 0, .int (-1), .int (-1), .long 0, .long 0, .ref h11, .ref h12, .int 0, .int (-1), .int 0, .ref h13, .int 0, .ref h14, .ref h15, .int 0, .int 0, .ref h16, .int 0, .int 0, .int 0, .int 0])), (h2, .inl (w0, 373, .inl (upd (upd (fun _ => 0) 60 2) 62 2)))] := hD
  refine lv_iinc (v := 4) (lv' := [(1, .int 4), (0, .ref h0)]) hx hb dX12_startSo_143 hl (k := 0) rfl (by decide) (by decide) rfl (fun ls hl => ?_)
  refine lv_goto (tgt := 83) hx hb dX12_startSo_146 (by decide) ?_
  refine lv_iload_n hx hb dX12_startSo_83 rfl (lv_at hl 0 rfl) ?_
  refine lv_bipush (v := 8) hx hb dX12_startSo_84 (by decide) ?_
  refine lv_icmp_ge (tgt := 149) hx hb dX12_startSo_86 (by decide) (fun c13 => absurd c13 (by decide)) (fun _ => ?_)
  refine lv_aload_n hx hb dX12_startSo_89 rfl (lv_at hl 1 rfl) ?_
  refine va_get (D := (dC, dI)) (ci := 11) (v := .ref h2) (C := RX12) (T := TX12) (N := 47) hx hb hts ii_X12_startSo_X12 hown hK hP 0 rfl rfl 14 (by decide) (hts _ mm_X12_startSo_1) (fun _ h9 => h9) rfl dX12_startSo_90 ?_
  refine lv_bipush (v := 71) hx hb dX12_startSo_93 (by decide) ?_
  refine lv_iload_n hx hb dX12_startSo_95 rfl (lv_at hl 0 rfl) ?_
  refine lv_iadd hx hb dX12_startSo_96 ?_
  refine zz_top (v := 75) (by decide) ?_
  refine lv_aload_n hx hb dX12_startSo_97 rfl (lv_at hl 1 rfl) ?_
  refine va_get (D := (dC, dI)) (ci := 11) (v := .ref h2) (C := RX12) (T := TX12) (N := 47) hx hb hts ii_X12_startSo_X12 hown hK hP 0 rfl rfl 14 (by decide) (hts _ mm_X12_startSo_1) (fun _ h9 => h9) rfl dX12_startSo_98 ?_
  refine lv_bipush (v := 10) hx hb dX12_startSo_101 (by decide) ?_
  refine lv_iload_n hx hb dX12_startSo_103 rfl (lv_at hl 0 rfl) ?_
  refine lv_iadd hx hb dX12_startSo_104 ?_
  refine zz_top (v := 14) (by decide) ?_
  refine va_iald hx hb hK hP 1 0 rfl rfl (i := 14) (zz_in (by decide)) dX12_startSo_105 ?_
  refine zz_top (v := 0) (by rfl) ?_
  refine va_iast hx hb hK hP hD hS 1 0 rfl rfl (i := 75) (zz_in (by decide)) dX12_startSo_106 (fun H locs hP hD hS => ?_)
  have hP : va_P (dC, dI) vwCl [(h0, .inr (11, [.int 0, .ref h1, .int 0, .int 0, .int 0, .int 0, .int 0, .int 0, .int 0, .int 0, .int 0, .int 0, .long 0, .int 0, .ref h2, .ref h3, .ref h4, .ref h5, .ref h6, .ref h7, .ref h8, .ref h9, .ref h10, .int 0, .int 0, .int 0, .int 0, .int (-1), .int (-1), .long 0, .long 0, .ref h11, .ref h12, .int 0, .int (-1), .int 0, .ref h13, .int 0, .ref h14, .ref h15, .int 0, .int 0, .ref h16, .int 0, .int 0, .int 0, .int 0])), (h2, .inl (w0, 373, .inl (upd (upd (upd (fun _ => 0) 60 2) 62 2) 75 0)))] H := hP
  have hD : va_D A [(h0, .inr (11, [.int 0, .ref h1, .int 0, .int 0, .int 0, .int 0, .int 0, .int 0, .int 0, .int 0, .int 0, .int 0, .long 0, .int 0, .ref h2, .ref h3, .ref h4, .ref h5, .ref h6, .ref h7, .ref h8, .ref h9, .ref h10, .int 0, .int 0, .int 0, .int 0, .int (-1), .int (-1), .long 0, .long 0, .ref h11, .ref h12, .int 0, .int (-1), .int 0, .ref h13, .int 0, .ref h14, .ref h15, .int 0, .int 0, .ref h16, .int 0, .int 0, .int 0, .int 0])), (h2, .inl (w0, 373, .inl (upd (upd (upd (fun _ => 0) 60 2) 62 2) 75 0)))] := hD
  rw [zz_sw (f := (upd (upd (fun _ => 0) 60 2) 62 2)) (i := 75) (v := 0) rfl] at hP hD
  have hP : va_P (dC, dI) vwCl [(h0, .inr (11, [.int 0, .ref h1, .int 0, .int 0, .int 0, .int 0, .int 0, .int 0, .int 0, .int 0, .int 0, .int 0, .long 0, .int 0, .ref h2, .ref h3, .ref h4, .ref h5, .ref h6, .ref h7, .ref h8, .ref h9, .ref h10, .int 0, .int 0, .int 0, .int 0, .int (-1), .int (-1), .long 0, .long 0, .ref h11, .ref h12, .int 0, .int (-1), .int 0, .ref h13, .int 0, .ref h14, .ref h15, .int 0, .int 0, .ref h16, .int 0, .int 0, .int 0, .int 0])), (h2, .inl (w0, 373, .inl (upd (upd (fun _ => 0) 60 2) 62 2)))] H := hP
  have hD : va_D A [(h0, .inr (11, [.int 0, .ref h1, .int 0, .int 0, .int 0, .int 0, .int 0, .int 0, .int 0, .int 0, .int 0, .int 0, .long 0, .int 0, .ref h2, .ref h3, .ref h4, .ref h5, .ref h6, .ref h7, .ref h8, .ref h9, .ref h10, .int 0, .int 0, .int 0, .int 0, .int (-1), .int (-1), .long 0, .long 0, .ref h11, .ref h12, .int 0, .int (-1), .int 0, .ref h13, .int 0, .ref h14, .ref h15, .int 0, .int 0, .ref h16, .int 0, .int 0, .int 0, .int 0])), (h2, .inl (w0, 373, .inl (upd (upd (fun _ => 0) 60 2) 62 2)))] := hD
  refine lv_aload_n hx hb dX12_startSo_107 rfl (lv_at hl 1 rfl) ?_
  refine va_get (D := (dC, dI)) (ci := 11) (v := .ref h2) (C := RX12) (T := TX12) (N := 47) hx hb hts ii_X12_startSo_X12 hown hK hP 0 rfl rfl 14 (by decide) (hts _ mm_X12_startSo_1) (fun _ h9 => h9) rfl dX12_startSo_108 ?_
  refine lv_bipush (v := 79) hx hb dX12_startSo_111 (by decide) ?_
  refine lv_iload_n hx hb dX12_startSo_113 rfl (lv_at hl 0 rfl) ?_
  refine lv_iadd hx hb dX12_startSo_114 ?_
  refine zz_top (v := 83) (by decide) ?_
  refine lv_aload_n hx hb dX12_startSo_115 rfl (lv_at hl 1 rfl) ?_
  refine va_get (D := (dC, dI)) (ci := 11) (v := .ref h2) (C := RX12) (T := TX12) (N := 47) hx hb hts ii_X12_startSo_X12 hown hK hP 0 rfl rfl 14 (by decide) (hts _ mm_X12_startSo_1) (fun _ h9 => h9) rfl dX12_startSo_116 ?_
  refine lv_bipush (v := 18) hx hb dX12_startSo_119 (by decide) ?_
  refine lv_iload_n hx hb dX12_startSo_121 rfl (lv_at hl 0 rfl) ?_
  refine lv_iadd hx hb dX12_startSo_122 ?_
  refine zz_top (v := 22) (by decide) ?_
  refine va_iald hx hb hK hP 1 0 rfl rfl (i := 22) (zz_in (by decide)) dX12_startSo_123 ?_
  refine zz_top (v := 0) (by rfl) ?_
  refine va_iast hx hb hK hP hD hS 1 0 rfl rfl (i := 83) (zz_in (by decide)) dX12_startSo_124 (fun H locs hP hD hS => ?_)
  have hP : va_P (dC, dI) vwCl [(h0, .inr (11, [.int 0, .ref h1, .int 0, .int 0, .int 0, .int 0, .int 0, .int 0, .int 0, .int 0, .int 0, .int 0, .long 0, .int 0, .ref h2, .ref h3, .ref h4, .ref h5, .ref h6, .ref h7, .ref h8, .ref h9, .ref h10, .int 0, .int 0, .int 0, .int 0, .int (-1), .int (-1), .long 0, .long 0, .ref h11, .ref h12, .int 0, .int (-1), .int 0, .ref h13, .int 0, .ref h14, .ref h15, .int 0, .int 0, .ref h16, .int 0, .int 0, .int 0, .int 0])), (h2, .inl (w0, 373, .inl (upd (upd (upd (fun _ => 0) 60 2) 62 2) 83 0)))] H := hP
  have hD : va_D A [(h0, .inr (11, [.int 0, .ref h1, .int 0, .int 0, .int 0, .int 0, .int 0, .int 0, .int 0, .int 0, .int 0, .int 0, .long 0, .int 0, .ref h2, .ref h3, .ref h4, .ref h5, .ref h6, .ref h7, .ref h8, .ref h9, .ref h10, .int 0, .int 0, .int 0, .int 0, .int (-1), .int (-1), .long 0, .long 0, .ref h11, .ref h12, .int 0, .int (-1), .int 0, .ref h13, .int 0, .ref h14, .ref h15, .int 0, .int 0, .ref h16, .int 0, .int 0, .int 0, .int 0])), (h2, .inl (w0, 373, .inl (upd (upd (upd (fun _ => 0) 60 2) 62 2) 83 0)))] := hD
  rw [zz_sw (f := (upd (upd (fun _ => 0) 60 2) 62 2)) (i := 83) (v := 0) rfl] at hP hD
  have hP : va_P (dC, dI) vwCl [(h0, .inr (11, [.int 0, .ref h1, .int 0, .int 0, .int 0, .int 0, .int 0, .int 0, .int 0, .int 0, .int 0, .int 0, .long 0, .int 0, .ref h2, .ref h3, .ref h4, .ref h5, .ref h6, .ref h7, .ref h8, .ref h9, .ref h10, .int 0, .int 0, .int 0, .int 0, .int (-1), .int (-1), .long 0, .long 0, .ref h11, .ref h12, .int 0, .int (-1), .int 0, .ref h13, .int 0, .ref h14, .ref h15, .int 0, .int 0, .ref h16, .int 0, .int 0, .int 0, .int 0])), (h2, .inl (w0, 373, .inl (upd (upd (fun _ => 0) 60 2) 62 2)))] H := hP
  have hD : va_D A [(h0, .inr (11, [.int 0, .ref h1, .int 0, .int 0, .int 0, .int 0, .int 0, .int 0, .int 0, .int 0, .int 0, .int 0, .long 0, .int 0, .ref h2, .ref h3, .ref h4, .ref h5, .ref h6, .ref h7, .ref h8, .ref h9, .ref h10, .int 0, .int 0, .int 0, .int 0, .int (-1), .int (-1), .long 0, .long 0, .ref h11, .ref h12, .int 0, .int (-1), .int 0, .ref h13, .int 0, .ref h14, .ref h15, .int 0, .int 0, .ref h16, .int 0, .int 0, .int 0, .int 0])), (h2, .inl (w0, 373, .inl (upd (upd (fun _ => 0) 60 2) 62 2)))] := hD
  refine lv_aload_n hx hb dX12_startSo_125 rfl (lv_at hl 1 rfl) ?_
  refine va_get (D := (dC, dI)) (ci := 11) (v := .ref h2) (C := RX12) (T := TX12) (N := 47) hx hb hts ii_X12_startSo_X12 hown hK hP 0 rfl rfl 14 (by decide) (hts _ mm_X12_startSo_1) (fun _ h9 => h9) rfl dX12_startSo_126 ?_
  refine lv_bipush (v := 87) hx hb dX12_startSo_129 (by decide) ?_
  refine lv_iload_n hx hb dX12_startSo_131 rfl (lv_at hl 0 rfl) ?_
  refine lv_iadd hx hb dX12_startSo_132 ?_
  refine zz_top (v := 91) (by decide) ?_
  refine lv_aload_n hx hb dX12_startSo_133 rfl (lv_at hl 1 rfl) ?_
  refine va_get (D := (dC, dI)) (ci := 11) (v := .ref h2) (C := RX12) (T := TX12) (N := 47) hx hb hts ii_X12_startSo_X12 hown hK hP 0 rfl rfl 14 (by decide) (hts _ mm_X12_startSo_1) (fun _ h9 => h9) rfl dX12_startSo_134 ?_
  refine lv_bipush (v := 26) hx hb dX12_startSo_137 (by decide) ?_
  refine lv_iload_n hx hb dX12_startSo_139 rfl (lv_at hl 0 rfl) ?_
  refine lv_iadd hx hb dX12_startSo_140 ?_
  refine zz_top (v := 30) (by decide) ?_
  refine va_iald hx hb hK hP 1 0 rfl rfl (i := 30) (zz_in (by decide)) dX12_startSo_141 ?_
  refine zz_top (v := 0) (by rfl) ?_
  refine va_iast hx hb hK hP hD hS 1 0 rfl rfl (i := 91) (zz_in (by decide)) dX12_startSo_142 (fun H locs hP hD hS => ?_)
  have hP : va_P (dC, dI) vwCl [(h0, .inr (11, [.int 0, .ref h1, .int 0, .int 0, .int 0, .int 0, .int 0, .int 0, .int 0, .int 0, .int 0, .int 0, .long 0, .int 0, .ref h2, .ref h3, .ref h4, .ref h5, .ref h6, .ref h7, .ref h8, .ref h9, .ref h10, .int 0, .int 0, .int 0, .int 0, .int (-1), .int (-1), .long 0, .long 0, .ref h11, .ref h12, .int 0, .int (-1), .int 0, .ref h13, .int 0, .ref h14, .ref h15, .int 0, .int 0, .ref h16, .int 0, .int 0, .int 0, .int 0])), (h2, .inl (w0, 373, .inl (upd (upd (upd (fun _ => 0) 60 2) 62 2) 91 0)))] H := hP
  have hD : va_D A [(h0, .inr (11, [.int 0, .ref h1, .int 0, .int 0, .int 0, .int 0, .int 0, .int 0, .int 0, .int 0, .int 0, .int 0, .long 0, .int 0, .ref h2, .ref h3, .ref h4, .ref h5, .ref h6, .ref h7, .ref h8, .ref h9, .ref h10, .int 0, .int 0, .int 0, .int 0, .int (-1), .int (-1), .long 0, .long 0, .ref h11, .ref h12, .int 0, .int (-1), .int 0, .ref h13, .int 0, .ref h14, .ref h15, .int 0, .int 0, .ref h16, .int 0, .int 0, .int 0, .int 0])), (h2, .inl (w0, 373, .inl (upd (upd (upd (fun _ => 0) 60 2) 62 2) 91 0)))] := hD
  rw [zz_sw (f := (upd (upd (fun _ => 0) 60 2) 62 2)) (i := 91) (v := 0) rfl] at hP hD
  have hP : va_P (dC, dI) vwCl [(h0, .inr (11, [.int 0, .ref h1, .int 0, .int 0, .int 0, .int 0, .int 0, .int 0, .int 0, .int 0, .int 0, .int 0, .long 0, .int 0, .ref h2, .ref h3, .ref h4, .ref h5, .ref h6, .ref h7, .ref h8, .ref h9, .ref h10, .int 0, .int 0, .int 0, .int 0, .int (-1), .int (-1), .long 0, .long 0, .ref h11, .ref h12, .int 0, .int (-1), .int 0, .ref h13, .int 0, .ref h14, .ref h15, .int 0, .int 0, .ref h16, .int 0, .int 0, .int 0, .int 0])), (h2, .inl (w0, 373, .inl (upd (upd (fun _ => 0) 60 2) 62 2)))] H := hP
  have hD : va_D A [(h0, .inr (11, [.int 0, .ref h1, .int 0, .int 0, .int 0, .int 0, .int 0, .int 0, .int 0, .int 0, .int 0, .int 0, .long 0, .int 0, .ref h2, .ref h3, .ref h4, .ref h5, .ref h6, .ref h7, .ref h8, .ref h9, .ref h10, .int 0, .int 0, .int 0, .int 0, .int (-1), .int (-1), .long 0, .long 0, .ref h11, .ref h12, .int 0, .int (-1), .int 0, .ref h13, .int 0, .ref h14, .ref h15, .int 0, .int 0, .ref h16, .int 0, .int 0, .int 0, .int 0])), (h2, .inl (w0, 373, .inl (upd (upd (fun _ => 0) 60 2) 62 2)))] := hD
  refine lv_iinc (v := 5) (lv' := [(1, .int 5), (0, .ref h0)]) hx hb dX12_startSo_143 hl (k := 0) rfl (by decide) (by decide) rfl (fun ls hl => ?_)
  refine lv_goto (tgt := 83) hx hb dX12_startSo_146 (by decide) ?_
  refine lv_iload_n hx hb dX12_startSo_83 rfl (lv_at hl 0 rfl) ?_
  refine lv_bipush (v := 8) hx hb dX12_startSo_84 (by decide) ?_
  refine lv_icmp_ge (tgt := 149) hx hb dX12_startSo_86 (by decide) (fun c14 => absurd c14 (by decide)) (fun _ => ?_)
  refine lv_aload_n hx hb dX12_startSo_89 rfl (lv_at hl 1 rfl) ?_
  refine va_get (D := (dC, dI)) (ci := 11) (v := .ref h2) (C := RX12) (T := TX12) (N := 47) hx hb hts ii_X12_startSo_X12 hown hK hP 0 rfl rfl 14 (by decide) (hts _ mm_X12_startSo_1) (fun _ h9 => h9) rfl dX12_startSo_90 ?_
  refine lv_bipush (v := 71) hx hb dX12_startSo_93 (by decide) ?_
  refine lv_iload_n hx hb dX12_startSo_95 rfl (lv_at hl 0 rfl) ?_
  refine lv_iadd hx hb dX12_startSo_96 ?_
  refine zz_top (v := 76) (by decide) ?_
  refine lv_aload_n hx hb dX12_startSo_97 rfl (lv_at hl 1 rfl) ?_
  refine va_get (D := (dC, dI)) (ci := 11) (v := .ref h2) (C := RX12) (T := TX12) (N := 47) hx hb hts ii_X12_startSo_X12 hown hK hP 0 rfl rfl 14 (by decide) (hts _ mm_X12_startSo_1) (fun _ h9 => h9) rfl dX12_startSo_98 ?_
  refine lv_bipush (v := 10) hx hb dX12_startSo_101 (by decide) ?_
  refine lv_iload_n hx hb dX12_startSo_103 rfl (lv_at hl 0 rfl) ?_
  refine lv_iadd hx hb dX12_startSo_104 ?_
  refine zz_top (v := 15) (by decide) ?_
  refine va_iald hx hb hK hP 1 0 rfl rfl (i := 15) (zz_in (by decide)) dX12_startSo_105 ?_
  refine zz_top (v := 0) (by rfl) ?_
  refine va_iast hx hb hK hP hD hS 1 0 rfl rfl (i := 76) (zz_in (by decide)) dX12_startSo_106 (fun H locs hP hD hS => ?_)
  have hP : va_P (dC, dI) vwCl [(h0, .inr (11, [.int 0, .ref h1, .int 0, .int 0, .int 0, .int 0, .int 0, .int 0, .int 0, .int 0, .int 0, .int 0, .long 0, .int 0, .ref h2, .ref h3, .ref h4, .ref h5, .ref h6, .ref h7, .ref h8, .ref h9, .ref h10, .int 0, .int 0, .int 0, .int 0, .int (-1), .int (-1), .long 0, .long 0, .ref h11, .ref h12, .int 0, .int (-1), .int 0, .ref h13, .int 0, .ref h14, .ref h15, .int 0, .int 0, .ref h16, .int 0, .int 0, .int 0, .int 0])), (h2, .inl (w0, 373, .inl (upd (upd (upd (fun _ => 0) 60 2) 62 2) 76 0)))] H := hP
  have hD : va_D A [(h0, .inr (11, [.int 0, .ref h1, .int 0, .int 0, .int 0, .int 0, .int 0, .int 0, .int 0, .int 0, .int 0, .int 0, .long 0, .int 0, .ref h2, .ref h3, .ref h4, .ref h5, .ref h6, .ref h7, .ref h8, .ref h9, .ref h10, .int 0, .int 0, .int 0, .int 0, .int (-1), .int (-1), .long 0, .long 0, .ref h11, .ref h12, .int 0, .int (-1), .int 0, .ref h13, .int 0, .ref h14, .ref h15, .int 0, .int 0, .ref h16, .int 0, .int 0, .int 0, .int 0])), (h2, .inl (w0, 373, .inl (upd (upd (upd (fun _ => 0) 60 2) 62 2) 76 0)))] := hD
  rw [zz_sw (f := (upd (upd (fun _ => 0) 60 2) 62 2)) (i := 76) (v := 0) rfl] at hP hD
  have hP : va_P (dC, dI) vwCl [(h0, .inr (11, [.int 0, .ref h1, .int 0, .int 0, .int 0, .int 0, .int 0, .int 0, .int 0, .int 0, .int 0, .int 0, .long 0, .int 0, .ref h2, .ref h3, .ref h4, .ref h5, .ref h6, .ref h7, .ref h8, .ref h9, .ref h10, .int 0, .int 0, .int 0, .int 0, .int (-1), .int (-1), .long 0, .long 0, .ref h11, .ref h12, .int 0, .int (-1), .int 0, .ref h13, .int 0, .ref h14, .ref h15, .int 0, .int 0, .ref h16, .int 0, .int 0, .int 0, .int 0])), (h2, .inl (w0, 373, .inl (upd (upd (fun _ => 0) 60 2) 62 2)))] H := hP
  have hD : va_D A [(h0, .inr (11, [.int 0, .ref h1, .int 0, .int 0, .int 0, .int 0, .int 0, .int 0, .int 0, .int 0, .int 0, .int 0, .long 0, .int 0, .ref h2, .ref h3, .ref h4, .ref h5, .ref h6, .ref h7, .ref h8, .ref h9, .ref h10, .int 0, .int 0, .int 0, .int 0, .int (-1), .int (-1), .long 0, .long 0, .ref h11, .ref h12, .int 0, .int (-1), .int 0, .ref h13, .int 0, .ref h14, .ref h15, .int 0, .int 0, .ref h16, .int 0, .int 0, .int 0, .int 0])), (h2, .inl (w0, 373, .inl (upd (upd (fun _ => 0) 60 2) 62 2)))] := hD
  refine lv_aload_n hx hb dX12_startSo_107 rfl (lv_at hl 1 rfl) ?_
  refine va_get (D := (dC, dI)) (ci := 11) (v := .ref h2) (C := RX12) (T := TX12) (N := 47) hx hb hts ii_X12_startSo_X12 hown hK hP 0 rfl rfl 14 (by decide) (hts _ mm_X12_startSo_1) (fun _ h9 => h9) rfl dX12_startSo_108 ?_
  refine lv_bipush (v := 79) hx hb dX12_startSo_111 (by decide) ?_
  refine lv_iload_n hx hb dX12_startSo_113 rfl (lv_at hl 0 rfl) ?_
  refine lv_iadd hx hb dX12_startSo_114 ?_
  refine zz_top (v := 84) (by decide) ?_
  refine lv_aload_n hx hb dX12_startSo_115 rfl (lv_at hl 1 rfl) ?_
  refine va_get (D := (dC, dI)) (ci := 11) (v := .ref h2) (C := RX12) (T := TX12) (N := 47) hx hb hts ii_X12_startSo_X12 hown hK hP 0 rfl rfl 14 (by decide) (hts _ mm_X12_startSo_1) (fun _ h9 => h9) rfl dX12_startSo_116 ?_
  refine lv_bipush (v := 18) hx hb dX12_startSo_119 (by decide) ?_
  refine lv_iload_n hx hb dX12_startSo_121 rfl (lv_at hl 0 rfl) ?_
  refine lv_iadd hx hb dX12_startSo_122 ?_
  refine zz_top (v := 23) (by decide) ?_
  refine va_iald hx hb hK hP 1 0 rfl rfl (i := 23) (zz_in (by decide)) dX12_startSo_123 ?_
  refine zz_top (v := 0) (by rfl) ?_
  refine va_iast hx hb hK hP hD hS 1 0 rfl rfl (i := 84) (zz_in (by decide)) dX12_startSo_124 (fun H locs hP hD hS => ?_)
  have hP : va_P (dC, dI) vwCl [(h0, .inr (11, [.int 0, .ref h1, .int 0, .int 0, .int 0, .int 0, .int 0, .int 0, .int 0, .int 0, .int 0, .int 0, .long 0, .int 0, .ref h2, .ref h3, .ref h4, .ref h5, .ref h6, .ref h7, .ref h8, .ref h9, .ref h10, .int 0, .int 0, .int 0, .int 0, .int (-1), .int (-1), .long 0, .long 0, .ref h11, .ref h12, .int 0, .int (-1), .int 0, .ref h13, .int 0, .ref h14, .ref h15, .int 0, .int 0, .ref h16, .int 0, .int 0, .int 0, .int 0])), (h2, .inl (w0, 373, .inl (upd (upd (upd (fun _ => 0) 60 2) 62 2) 84 0)))] H := hP
  have hD : va_D A [(h0, .inr (11, [.int 0, .ref h1, .int 0, .int 0, .int 0, .int 0, .int 0, .int 0, .int 0, .int 0, .int 0, .int 0, .long 0, .int 0, .ref h2, .ref h3, .ref h4, .ref h5, .ref h6, .ref h7, .ref h8, .ref h9, .ref h10, .int 0, .int 0, .int 0, .int 0, .int (-1), .int (-1), .long 0, .long 0, .ref h11, .ref h12, .int 0, .int (-1), .int 0, .ref h13, .int 0, .ref h14, .ref h15, .int 0, .int 0, .ref h16, .int 0, .int 0, .int 0, .int 0])), (h2, .inl (w0, 373, .inl (upd (upd (upd (fun _ => 0) 60 2) 62 2) 84 0)))] := hD
  rw [zz_sw (f := (upd (upd (fun _ => 0) 60 2) 62 2)) (i := 84) (v := 0) rfl] at hP hD
  have hP : va_P (dC, dI) vwCl [(h0, .inr (11, [.int 0, .ref h1, .int 0, .int 0, .int 0, .int 0, .int 0, .int 0, .int 0, .int 0, .int 0, .int 0, .long 0, .int 0, .ref h2, .ref h3, .ref h4, .ref h5, .ref h6, .ref h7, .ref h8, .ref h9, .ref h10, .int 0, .int 0, .int 0, .int 0, .int (-1), .int (-1), .long 0, .long 0, .ref h11, .ref h12, .int 0, .int (-1), .int 0, .ref h13, .int 0, .ref h14, .ref h15, .int 0, .int 0, .ref h16, .int 0, .int 0, .int 0, .int 0])), (h2, .inl (w0, 373, .inl (upd (upd (fun _ => 0) 60 2) 62 2)))] H := hP
  have hD : va_D A [(h0, .inr (11, [.int 0, .ref h1, .int 0, .int 0, .int 0, .int 0, .int 0, .int 0, .int 0, .int 0, .int 0, .int 0, .long 0, .int 0, .ref h2, .ref h3, .ref h4, .ref h5, .ref h6, .ref h7, .ref h8, .ref h9, .ref h10, .int 0, .int 0, .int 0, .int 0, .int (-1), .int (-1), .long 0, .long 0, .ref h11, .ref h12, .int 0, .int (-1), .int 0, .ref h13, .int 0, .ref h14, .ref h15, .int 0, .int 0, .ref h16, .int 0, .int 0, .int 0, .int 0])), (h2, .inl (w0, 373, .inl (upd (upd (fun _ => 0) 60 2) 62 2)))] := hD
  refine lv_aload_n hx hb dX12_startSo_125 rfl (lv_at hl 1 rfl) ?_
  refine va_get (D := (dC, dI)) (ci := 11) (v := .ref h2) (C := RX12) (T := TX12) (N := 47) hx hb hts ii_X12_startSo_X12 hown hK hP 0 rfl rfl 14 (by decide) (hts _ mm_X12_startSo_1) (fun _ h9 => h9) rfl dX12_startSo_126 ?_
  refine lv_bipush (v := 87) hx hb dX12_startSo_129 (by decide) ?_
  refine lv_iload_n hx hb dX12_startSo_131 rfl (lv_at hl 0 rfl) ?_
  refine lv_iadd hx hb dX12_startSo_132 ?_
  refine zz_top (v := 92) (by decide) ?_
  refine lv_aload_n hx hb dX12_startSo_133 rfl (lv_at hl 1 rfl) ?_
  refine va_get (D := (dC, dI)) (ci := 11) (v := .ref h2) (C := RX12) (T := TX12) (N := 47) hx hb hts ii_X12_startSo_X12 hown hK hP 0 rfl rfl 14 (by decide) (hts _ mm_X12_startSo_1) (fun _ h9 => h9) rfl dX12_startSo_134 ?_
  refine lv_bipush (v := 26) hx hb dX12_startSo_137 (by decide) ?_
  refine lv_iload_n hx hb dX12_startSo_139 rfl (lv_at hl 0 rfl) ?_
  refine lv_iadd hx hb dX12_startSo_140 ?_
  refine zz_top (v := 31) (by decide) ?_
  refine va_iald hx hb hK hP 1 0 rfl rfl (i := 31) (zz_in (by decide)) dX12_startSo_141 ?_
  refine zz_top (v := 0) (by rfl) ?_
  refine va_iast hx hb hK hP hD hS 1 0 rfl rfl (i := 92) (zz_in (by decide)) dX12_startSo_142 (fun H locs hP hD hS => ?_)
  have hP : va_P (dC, dI) vwCl [(h0, .inr (11, [.int 0, .ref h1, .int 0, .int 0, .int 0, .int 0, .int 0, .int 0, .int 0, .int 0, .int 0, .int 0, .long 0, .int 0, .ref h2, .ref h3, .ref h4, .ref h5, .ref h6, .ref h7, .ref h8, .ref h9, .ref h10, .int 0, .int 0, .int 0, .int 0, .int (-1), .int (-1), .long 0, .long 0, .ref h11, .ref h12, .int 0, .int (-1), .int 0, .ref h13, .int 0, .ref h14, .ref h15, .int 0, .int 0, .ref h16, .int 0, .int 0, .int 0, .int 0])), (h2, .inl (w0, 373, .inl (upd (upd (upd (fun _ => 0) 60 2) 62 2) 92 0)))] H := hP
  have hD : va_D A [(h0, .inr (11, [.int 0, .ref h1, .int 0, .int 0, .int 0, .int 0, .int 0, .int 0, .int 0, .int 0, .int 0, .int 0, .long 0, .int 0, .ref h2, .ref h3, .ref h4, .ref h5, .ref h6, .ref h7, .ref h8, .ref h9, .ref h10, .int 0, .int 0, .int 0, .int 0, .int (-1), .int (-1), .long 0, .long 0, .ref h11, .ref h12, .int 0, .int (-1), .int 0, .ref h13, .int 0, .ref h14, .ref h15, .int 0, .int 0, .ref h16, .int 0, .int 0, .int 0, .int 0])), (h2, .inl (w0, 373, .inl (upd (upd (upd (fun _ => 0) 60 2) 62 2) 92 0)))] := hD
  rw [zz_sw (f := (upd (upd (fun _ => 0) 60 2) 62 2)) (i := 92) (v := 0) rfl] at hP hD
  have hP : va_P (dC, dI) vwCl [(h0, .inr (11, [.int 0, .ref h1, .int 0, .int 0, .int 0, .int 0, .int 0, .int 0, .int 0, .int 0, .int 0, .int 0, .long 0, .int 0, .ref h2, .ref h3, .ref h4, .ref h5, .ref h6, .ref h7, .ref h8, .ref h9, .ref h10, .int 0, .int 0, .int 0, .int 0, .int (-1), .int (-1), .long 0, .long 0, .ref h11, .ref h12, .int 0, .int (-1), .int 0, .ref h13, .int 0, .ref h14, .ref h15, .int 0, .int 0, .ref h16, .int 0, .int 0, .int 0, .int 0])), (h2, .inl (w0, 373, .inl (upd (upd (fun _ => 0) 60 2) 62 2)))] H := hP
  have hD : va_D A [(h0, .inr (11, [.int 0, .ref h1, .int 0, .int 0, .int 0, .int 0, .int 0, .int 0, .int 0, .int 0, .int 0, .int 0, .long 0, .int 0, .ref h2, .ref h3, .ref h4, .ref h5, .ref h6, .ref h7, .ref h8, .ref h9, .ref h10, .int 0, .int 0, .int 0, .int 0, .int (-1), .int (-1), .long 0, .long 0, .ref h11, .ref h12, .int 0, .int (-1), .int 0, .ref h13, .int 0, .ref h14, .ref h15, .int 0, .int 0, .ref h16, .int 0, .int 0, .int 0, .int 0])), (h2, .inl (w0, 373, .inl (upd (upd (fun _ => 0) 60 2) 62 2)))] := hD
  refine lv_iinc (v := 6) (lv' := [(1, .int 6), (0, .ref h0)]) hx hb dX12_startSo_143 hl (k := 0) rfl (by decide) (by decide) rfl (fun ls hl => ?_)
  refine lv_goto (tgt := 83) hx hb dX12_startSo_146 (by decide) ?_
  refine lv_iload_n hx hb dX12_startSo_83 rfl (lv_at hl 0 rfl) ?_
  refine lv_bipush (v := 8) hx hb dX12_startSo_84 (by decide) ?_
  refine lv_icmp_ge (tgt := 149) hx hb dX12_startSo_86 (by decide) (fun c15 => absurd c15 (by decide)) (fun _ => ?_)
  refine lv_aload_n hx hb dX12_startSo_89 rfl (lv_at hl 1 rfl) ?_
  refine va_get (D := (dC, dI)) (ci := 11) (v := .ref h2) (C := RX12) (T := TX12) (N := 47) hx hb hts ii_X12_startSo_X12 hown hK hP 0 rfl rfl 14 (by decide) (hts _ mm_X12_startSo_1) (fun _ h9 => h9) rfl dX12_startSo_90 ?_
  refine lv_bipush (v := 71) hx hb dX12_startSo_93 (by decide) ?_
  refine lv_iload_n hx hb dX12_startSo_95 rfl (lv_at hl 0 rfl) ?_
  refine lv_iadd hx hb dX12_startSo_96 ?_
  refine zz_top (v := 77) (by decide) ?_
  refine lv_aload_n hx hb dX12_startSo_97 rfl (lv_at hl 1 rfl) ?_
  refine va_get (D := (dC, dI)) (ci := 11) (v := .ref h2) (C := RX12) (T := TX12) (N := 47) hx hb hts ii_X12_startSo_X12 hown hK hP 0 rfl rfl 14 (by decide) (hts _ mm_X12_startSo_1) (fun _ h9 => h9) rfl dX12_startSo_98 ?_
  refine lv_bipush (v := 10) hx hb dX12_startSo_101 (by decide) ?_
  refine lv_iload_n hx hb dX12_startSo_103 rfl (lv_at hl 0 rfl) ?_
  refine lv_iadd hx hb dX12_startSo_104 ?_
  refine zz_top (v := 16) (by decide) ?_
  refine va_iald hx hb hK hP 1 0 rfl rfl (i := 16) (zz_in (by decide)) dX12_startSo_105 ?_
  refine zz_top (v := 0) (by rfl) ?_
  refine va_iast hx hb hK hP hD hS 1 0 rfl rfl (i := 77) (zz_in (by decide)) dX12_startSo_106 (fun H locs hP hD hS => ?_)
  have hP : va_P (dC, dI) vwCl [(h0, .inr (11, [.int 0, .ref h1, .int 0, .int 0, .int 0, .int 0, .int 0, .int 0, .int 0, .int 0, .int 0, .int 0, .long 0, .int 0, .ref h2, .ref h3, .ref h4, .ref h5, .ref h6, .ref h7, .ref h8, .ref h9, .ref h10, .int 0, .int 0, .int 0, .int 0, .int (-1), .int (-1), .long 0, .long 0, .ref h11, .ref h12, .int 0, .int (-1), .int 0, .ref h13, .int 0, .ref h14, .ref h15, .int 0, .int 0, .ref h16, .int 0, .int 0, .int 0, .int 0])), (h2, .inl (w0, 373, .inl (upd (upd (upd (fun _ => 0) 60 2) 62 2) 77 0)))] H := hP
  have hD : va_D A [(h0, .inr (11, [.int 0, .ref h1, .int 0, .int 0, .int 0, .int 0, .int 0, .int 0, .int 0, .int 0, .int 0, .int 0, .long 0, .int 0, .ref h2, .ref h3, .ref h4, .ref h5, .ref h6, .ref h7, .ref h8, .ref h9, .ref h10, .int 0, .int 0, .int 0, .int 0, .int (-1), .int (-1), .long 0, .long 0, .ref h11, .ref h12, .int 0, .int (-1), .int 0, .ref h13, .int 0, .ref h14, .ref h15, .int 0, .int 0, .ref h16, .int 0, .int 0, .int 0, .int 0])), (h2, .inl (w0, 373, .inl (upd (upd (upd (fun _ => 0) 60 2) 62 2) 77 0)))] := hD
  rw [zz_sw (f := (upd (upd (fun _ => 0) 60 2) 62 2)) (i := 77) (v := 0) rfl] at hP hD
  have hP : va_P (dC, dI) vwCl [(h0, .inr (11, [.int 0, .ref h1, .int 0, .int 0, .int 0, .int 0, .int 0, .int 0, .int 0, .int 0, .int 0, .int 0, .long 0, .int 0, .ref h2, .ref h3, .ref h4, .ref h5, .ref h6, .ref h7, .ref h8, .ref h9, .ref h10, .int 0, .int 0, .int 0, .int 0, .int (-1), .int (-1), .long 0, .long 0, .ref h11, .ref h12, .int 0, .int (-1), .int 0, .ref h13, .int 0, .ref h14, .ref h15, .int 0, .int 0, .ref h16, .int 0, .int 0, .int 0, .int 0])), (h2, .inl (w0, 373, .inl (upd (upd (fun _ => 0) 60 2) 62 2)))] H := hP
  have hD : va_D A [(h0, .inr (11, [.int 0, .ref h1, .int 0, .int 0, .int 0, .int 0, .int 0, .int 0, .int 0, .int 0, .int 0, .int 0, .long 0, .int 0, .ref h2, .ref h3, .ref h4, .ref h5, .ref h6, .ref h7, .ref h8, .ref h9, .ref h10, .int 0, .int 0, .int 0, .int 0, .int (-1), .int (-1), .long 0, .long 0, .ref h11, .ref h12, .int 0, .int (-1), .int 0, .ref h13, .int 0, .ref h14, .ref h15, .int 0, .int 0, .ref h16, .int 0, .int 0, .int 0, .int 0])), (h2, .inl (w0, 373, .inl (upd (upd (fun _ => 0) 60 2) 62 2)))] := hD
  refine lv_aload_n hx hb dX12_startSo_107 rfl (lv_at hl 1 rfl) ?_
  refine va_get (D := (dC, dI)) (ci := 11) (v := .ref h2) (C := RX12) (T := TX12) (N := 47) hx hb hts ii_X12_startSo_X12 hown hK hP 0 rfl rfl 14 (by decide) (hts _ mm_X12_startSo_1) (fun _ h9 => h9) rfl dX12_startSo_108 ?_
  refine lv_bipush (v := 79) hx hb dX12_startSo_111 (by decide) ?_
  refine lv_iload_n hx hb dX12_startSo_113 rfl (lv_at hl 0 rfl) ?_
  refine lv_iadd hx hb dX12_startSo_114 ?_
  refine zz_top (v := 85) (by decide) ?_
  refine lv_aload_n hx hb dX12_startSo_115 rfl (lv_at hl 1 rfl) ?_
  refine va_get (D := (dC, dI)) (ci := 11) (v := .ref h2) (C := RX12) (T := TX12) (N := 47) hx hb hts ii_X12_startSo_X12 hown hK hP 0 rfl rfl 14 (by decide) (hts _ mm_X12_startSo_1) (fun _ h9 => h9) rfl dX12_startSo_116 ?_
  refine lv_bipush (v := 18) hx hb dX12_startSo_119 (by decide) ?_
  refine lv_iload_n hx hb dX12_startSo_121 rfl (lv_at hl 0 rfl) ?_
  refine lv_iadd hx hb dX12_startSo_122 ?_
  refine zz_top (v := 24) (by decide) ?_
  refine va_iald hx hb hK hP 1 0 rfl rfl (i := 24) (zz_in (by decide)) dX12_startSo_123 ?_
  refine zz_top (v := 0) (by rfl) ?_
  refine va_iast hx hb hK hP hD hS 1 0 rfl rfl (i := 85) (zz_in (by decide)) dX12_startSo_124 (fun H locs hP hD hS => ?_)
  have hP : va_P (dC, dI) vwCl [(h0, .inr (11, [.int 0, .ref h1, .int 0, .int 0, .int 0, .int 0, .int 0, .int 0, .int 0, .int 0, .int 0, .int 0, .long 0, .int 0, .ref h2, .ref h3, .ref h4, .ref h5, .ref h6, .ref h7, .ref h8, .ref h9, .ref h10, .int 0, .int 0, .int 0, .int 0, .int (-1), .int (-1), .long 0, .long 0, .ref h11, .ref h12, .int 0, .int (-1), .int 0, .ref h13, .int 0, .ref h14, .ref h15, .int 0, .int 0, .ref h16, .int 0, .int 0, .int 0, .int 0])), (h2, .inl (w0, 373, .inl (upd (upd (upd (fun _ => 0) 60 2) 62 2) 85 0)))] H := hP
  have hD : va_D A [(h0, .inr (11, [.int 0, .ref h1, .int 0, .int 0, .int 0, .int 0, .int 0, .int 0, .int 0, .int 0, .int 0, .int 0, .long 0, .int 0, .ref h2, .ref h3, .ref h4, .ref h5, .ref h6, .ref h7, .ref h8, .ref h9, .ref h10, .int 0, .int 0, .int 0, .int 0, .int (-1), .int (-1), .long 0, .long 0, .ref h11, .ref h12, .int 0, .int (-1), .int 0, .ref h13, .int 0, .ref h14, .ref h15, .int 0, .int 0, .ref h16, .int 0, .int 0, .int 0, .int 0])), (h2, .inl (w0, 373, .inl (upd (upd (upd (fun _ => 0) 60 2) 62 2) 85 0)))] := hD
  rw [zz_sw (f := (upd (upd (fun _ => 0) 60 2) 62 2)) (i := 85) (v := 0) rfl] at hP hD
  have hP : va_P (dC, dI) vwCl [(h0, .inr (11, [.int 0, .ref h1, .int 0, .int 0, .int 0, .int 0, .int 0, .int 0, .int 0, .int 0, .int 0, .int 0, .long 0, .int 0, .ref h2, .ref h3, .ref h4, .ref h5, .ref h6, .ref h7, .ref h8, .ref h9, .ref h10, .int 0, .int 0, .int 0, .int 0, .int (-1), .int (-1), .long 0, .long 0, .ref h11, .ref h12, .int 0, .int (-1), .int 0, .ref h13, .int 0, .ref h14, .ref h15, .int 0, .int 0, .ref h16, .int 0, .int 0, .int 0, .int 0])), (h2, .inl (w0, 373, .inl (upd (upd (fun _ => 0) 60 2) 62 2)))] H := hP
  have hD : va_D A [(h0, .inr (11, [.int 0, .ref h1, .int 0, .int 0, .int 0, .int 0, .int 0, .int 0, .int 0, .int 0, .int 0, .int 0, .long 0, .int 0, .ref h2, .ref h3, .ref h4, .ref h5, .ref h6, .ref h7, .ref h8, .ref h9, .ref h10, .int 0, .int 0, .int 0, .int 0, .int (-1), .int (-1), .long 0, .long 0, .ref h11, .ref h12, .int 0, .int (-1), .int 0, .ref h13, .int 0, .ref h14, .ref h15, .int 0, .int 0, .ref h16, .int 0, .int 0, .int 0, .int 0])), (h2, .inl (w0, 373, .inl (upd (upd (fun _ => 0) 60 2) 62 2)))] := hD
  refine lv_aload_n hx hb dX12_startSo_125 rfl (lv_at hl 1 rfl) ?_
  refine va_get (D := (dC, dI)) (ci := 11) (v := .ref h2) (C := RX12) (T := TX12) (N := 47) hx hb hts ii_X12_startSo_X12 hown hK hP 0 rfl rfl 14 (by decide) (hts _ mm_X12_startSo_1) (fun _ h9 => h9) rfl dX12_startSo_126 ?_
  refine lv_bipush (v := 87) hx hb dX12_startSo_129 (by decide) ?_
  refine lv_iload_n hx hb dX12_startSo_131 rfl (lv_at hl 0 rfl) ?_
  refine lv_iadd hx hb dX12_startSo_132 ?_
  refine zz_top (v := 93) (by decide) ?_
  refine lv_aload_n hx hb dX12_startSo_133 rfl (lv_at hl 1 rfl) ?_
  refine va_get (D := (dC, dI)) (ci := 11) (v := .ref h2) (C := RX12) (T := TX12) (N := 47) hx hb hts ii_X12_startSo_X12 hown hK hP 0 rfl rfl 14 (by decide) (hts _ mm_X12_startSo_1) (fun _ h9 => h9) rfl dX12_startSo_134 ?_
  refine lv_bipush (v := 26) hx hb dX12_startSo_137 (by decide) ?_
  refine lv_iload_n hx hb dX12_startSo_139 rfl (lv_at hl 0 rfl) ?_
  refine lv_iadd hx hb dX12_startSo_140 ?_
  refine zz_top (v := 32) (by decide) ?_
  refine va_iald hx hb hK hP 1 0 rfl rfl (i := 32) (zz_in (by decide)) dX12_startSo_141 ?_
  refine zz_top (v := 0) (by rfl) ?_
  refine va_iast hx hb hK hP hD hS 1 0 rfl rfl (i := 93) (zz_in (by decide)) dX12_startSo_142 (fun H locs hP hD hS => ?_)
  have hP : va_P (dC, dI) vwCl [(h0, .inr (11, [.int 0, .ref h1, .int 0, .int 0, .int 0, .int 0, .int 0, .int 0, .int 0, .int 0, .int 0, .int 0, .long 0, .int 0, .ref h2, .ref h3, .ref h4, .ref h5, .ref h6, .ref h7, .ref h8, .ref h9, .ref h10, .int 0, .int 0, .int 0, .int 0, .int (-1), .int (-1), .long 0, .long 0, .ref h11, .ref h12, .int 0, .int (-1), .int 0, .ref h13, .int 0, .ref h14, .ref h15, .int 0, .int 0, .ref h16, .int 0, .int 0, .int 0, .int 0])), (h2, .inl (w0, 373, .inl (upd (upd (upd (fun _ => 0) 60 2) 62 2) 93 0)))] H := hP
  have hD : va_D A [(h0, .inr (11, [.int 0, .ref h1, .int 0, .int 0, .int 0, .int 0, .int 0, .int 0, .int 0, .int 0, .int 0, .int 0, .long 0, .int 0, .ref h2, .ref h3, .ref h4, .ref h5, .ref h6, .ref h7, .ref h8, .ref h9, .ref h10, .int 0, .int 0, .int 0, .int 0, .int (-1), .int (-1), .long 0, .long 0, .ref h11, .ref h12, .int 0, .int (-1), .int 0, .ref h13, .int 0, .ref h14, .ref h15, .int 0, .int 0, .ref h16, .int 0, .int 0, .int 0, .int 0])), (h2, .inl (w0, 373, .inl (upd (upd (upd (fun _ => 0) 60 2) 62 2) 93 0)))] := hD
  rw [zz_sw (f := (upd (upd (fun _ => 0) 60 2) 62 2)) (i := 93) (v := 0) rfl] at hP hD
  have hP : va_P (dC, dI) vwCl [(h0, .inr (11, [.int 0, .ref h1, .int 0, .int 0, .int 0, .int 0, .int 0, .int 0, .int 0, .int 0, .int 0, .int 0, .long 0, .int 0, .ref h2, .ref h3, .ref h4, .ref h5, .ref h6, .ref h7, .ref h8, .ref h9, .ref h10, .int 0, .int 0, .int 0, .int 0, .int (-1), .int (-1), .long 0, .long 0, .ref h11, .ref h12, .int 0, .int (-1), .int 0, .ref h13, .int 0, .ref h14, .ref h15, .int 0, .int 0, .ref h16, .int 0, .int 0, .int 0, .int 0])), (h2, .inl (w0, 373, .inl (upd (upd (fun _ => 0) 60 2) 62 2)))] H := hP
  have hD : va_D A [(h0, .inr (11, [.int 0, .ref h1, .int 0, .int 0, .int 0, .int 0, .int 0, .int 0, .int 0, .int 0, .int 0, .int 0, .long 0, .int 0, .ref h2, .ref h3, .ref h4, .ref h5, .ref h6, .ref h7, .ref h8, .ref h9, .ref h10, .int 0, .int 0, .int 0, .int 0, .int (-1), .int (-1), .long 0, .long 0, .ref h11, .ref h12, .int 0, .int (-1), .int 0, .ref h13, .int 0, .ref h14, .ref h15, .int 0, .int 0, .ref h16, .int 0, .int 0, .int 0, .int 0])), (h2, .inl (w0, 373, .inl (upd (upd (fun _ => 0) 60 2) 62 2)))] := hD
  refine lv_iinc (v := 7) (lv' := [(1, .int 7), (0, .ref h0)]) hx hb dX12_startSo_143 hl (k := 0) rfl (by decide) (by decide) rfl (fun ls hl => ?_)
  refine lv_goto (tgt := 83) hx hb dX12_startSo_146 (by decide) ?_
  refine lv_iload_n hx hb dX12_startSo_83 rfl (lv_at hl 0 rfl) ?_
  refine lv_bipush (v := 8) hx hb dX12_startSo_84 (by decide) ?_
  refine lv_icmp_ge (tgt := 149) hx hb dX12_startSo_86 (by decide) (fun c16 => absurd c16 (by decide)) (fun _ => ?_)
  refine lv_aload_n hx hb dX12_startSo_89 rfl (lv_at hl 1 rfl) ?_
  refine va_get (D := (dC, dI)) (ci := 11) (v := .ref h2) (C := RX12) (T := TX12) (N := 47) hx hb hts ii_X12_startSo_X12 hown hK hP 0 rfl rfl 14 (by decide) (hts _ mm_X12_startSo_1) (fun _ h9 => h9) rfl dX12_startSo_90 ?_
  refine lv_bipush (v := 71) hx hb dX12_startSo_93 (by decide) ?_
  refine lv_iload_n hx hb dX12_startSo_95 rfl (lv_at hl 0 rfl) ?_
  refine lv_iadd hx hb dX12_startSo_96 ?_
  refine zz_top (v := 78) (by decide) ?_
  refine lv_aload_n hx hb dX12_startSo_97 rfl (lv_at hl 1 rfl) ?_
  refine va_get (D := (dC, dI)) (ci := 11) (v := .ref h2) (C := RX12) (T := TX12) (N := 47) hx hb hts ii_X12_startSo_X12 hown hK hP 0 rfl rfl 14 (by decide) (hts _ mm_X12_startSo_1) (fun _ h9 => h9) rfl dX12_startSo_98 ?_
  refine lv_bipush (v := 10) hx hb dX12_startSo_101 (by decide) ?_
  refine lv_iload_n hx hb dX12_startSo_103 rfl (lv_at hl 0 rfl) ?_
  refine lv_iadd hx hb dX12_startSo_104 ?_
  refine zz_top (v := 17) (by decide) ?_
  refine va_iald hx hb hK hP 1 0 rfl rfl (i := 17) (zz_in (by decide)) dX12_startSo_105 ?_
  refine zz_top (v := 0) (by rfl) ?_
  refine va_iast hx hb hK hP hD hS 1 0 rfl rfl (i := 78) (zz_in (by decide)) dX12_startSo_106 (fun H locs hP hD hS => ?_)
  have hP : va_P (dC, dI) vwCl [(h0, .inr (11, [.int 0, .ref h1, .int 0, .int 0, .int 0, .int 0, .int 0, .int 0, .int 0, .int 0, .int 0, .int 0, .long 0, .int 0, .ref h2, .ref h3, .ref h4, .ref h5, .ref h6, .ref h7, .ref h8, .ref h9, .ref h10, .int 0, .int 0, .int 0, .int 0, .int (-1), .int (-1), .long 0, .long 0, .ref h11, .ref h12, .int 0, .int (-1), .int 0, .ref h13, .int 0, .ref h14, .ref h15, .int 0, .int 0, .ref h16, .int 0, .int 0, .int 0, .int 0])), (h2, .inl (w0, 373, .inl (upd (upd (upd (fun _ => 0) 60 2) 62 2) 78 0)))] H := hP
  have hD : va_D A [(h0, .inr (11, [.int 0, .ref h1, .int 0, .int 0, .int 0, .int 0, .int 0, .int 0, .int 0, .int 0, .int 0, .int 0, .long 0, .int 0, .ref h2, .ref h3, .ref h4, .ref h5, .ref h6, .ref h7, .ref h8, .ref h9, .ref h10, .int 0, .int 0, .int 0, .int 0, .int (-1), .int (-1), .long 0, .long 0, .ref h11, .ref h12, .int 0, .int (-1), .int 0, .ref h13, .int 0, .ref h14, .ref h15, .int 0, .int 0, .ref h16, .int 0, .int 0, .int 0, .int 0])), (h2, .inl (w0, 373, .inl (upd (upd (upd (fun _ => 0) 60 2) 62 2) 78 0)))] := hD
  rw [zz_sw (f := (upd (upd (fun _ => 0) 60 2) 62 2)) (i := 78) (v := 0) rfl] at hP hD
  have hP : va_P (dC, dI) vwCl [(h0, .inr (11, [.int 0, .ref h1, .int 0, .int 0, .int 0, .int 0, .int 0, .int 0, .int 0, .int 0, .int 0, .int 0, .long 0, .int 0, .ref h2, .ref h3, .ref h4, .ref h5, .ref h6, .ref h7, .ref h8, .ref h9, .ref h10, .int 0, .int 0, .int 0, .int 0, .int (-1), .int (-1), .long 0, .long 0, .ref h11, .ref h12, .int 0, .int (-1), .int 0, .ref h13, .int 0, .ref h14, .ref h15, .int 0, .int 0, .ref h16, .int 0, .int 0, .int 0, .int 0])), (h2, .inl (w0, 373, .inl (upd (upd (fun _ => 0) 60 2) 62 2)))] H := hP
  have hD : va_D A [(h0, .inr (11, [.int 0, .ref h1, .int 0, .int 0, .int 0, .int 0, .int 0, .int 0, .int 0, .int 0, .int 0, .int 0, .long 0, .int 0, .ref h2, .ref h3, .ref h4, .ref h5, .ref h6, .ref h7, .ref h8, .ref h9, .ref h10, .int 0, .int 0, .int 0, .int 0, .int (-1), .int (-1), .long 0, .long 0, .ref h11, .ref h12, .int 0, .int (-1), .int 0, .ref h13, .int 0, .ref h14, .ref h15, .int 0, .int 0, .ref h16, .int 0, .int 0, .int 0, .int 0])), (h2, .inl (w0, 373, .inl (upd (upd (fun _ => 0) 60 2) 62 2)))] := hD
  refine lv_aload_n hx hb dX12_startSo_107 rfl (lv_at hl 1 rfl) ?_
  refine va_get (D := (dC, dI)) (ci := 11) (v := .ref h2) (C := RX12) (T := TX12) (N := 47) hx hb hts ii_X12_startSo_X12 hown hK hP 0 rfl rfl 14 (by decide) (hts _ mm_X12_startSo_1) (fun _ h9 => h9) rfl dX12_startSo_108 ?_
  refine lv_bipush (v := 79) hx hb dX12_startSo_111 (by decide) ?_
  refine lv_iload_n hx hb dX12_startSo_113 rfl (lv_at hl 0 rfl) ?_
  refine lv_iadd hx hb dX12_startSo_114 ?_
  refine zz_top (v := 86) (by decide) ?_
  refine lv_aload_n hx hb dX12_startSo_115 rfl (lv_at hl 1 rfl) ?_
  refine va_get (D := (dC, dI)) (ci := 11) (v := .ref h2) (C := RX12) (T := TX12) (N := 47) hx hb hts ii_X12_startSo_X12 hown hK hP 0 rfl rfl 14 (by decide) (hts _ mm_X12_startSo_1) (fun _ h9 => h9) rfl dX12_startSo_116 ?_
  refine lv_bipush (v := 18) hx hb dX12_startSo_119 (by decide) ?_
  refine lv_iload_n hx hb dX12_startSo_121 rfl (lv_at hl 0 rfl) ?_
  refine lv_iadd hx hb dX12_startSo_122 ?_
  refine zz_top (v := 25) (by decide) ?_
  refine va_iald hx hb hK hP 1 0 rfl rfl (i := 25) (zz_in (by decide)) dX12_startSo_123 ?_
  refine zz_top (v := 0) (by rfl) ?_
  refine va_iast hx hb hK hP hD hS 1 0 rfl rfl (i := 86) (zz_in (by decide)) dX12_startSo_124 (fun H locs hP hD hS => ?_)
  have hP : va_P (dC, dI) vwCl [(h0, .inr (11, [.int 0, .ref h1, .int 0, .int 0, .int 0, .int 0, .int 0, .int 0, .int 0, .int 0, .int 0, .int 0, .long 0, .int 0, .ref h2, .ref h3, .ref h4, .ref h5, .ref h6, .ref h7, .ref h8, .ref h9, .ref h10, .int 0, .int 0, .int 0, .int 0, .int (-1), .int (-1), .long 0, .long 0, .ref h11, .ref h12, .int 0, .int (-1), .int 0, .ref h13, .int 0, .ref h14, .ref h15, .int 0, .int 0, .ref h16, .int 0, .int 0, .int 0, .int 0])), (h2, .inl (w0, 373, .inl (upd (upd (upd (fun _ => 0) 60 2) 62 2) 86 0)))] H := hP
  have hD : va_D A [(h0, .inr (11, [.int 0, .ref h1, .int 0, .int 0, .int 0, .int 0, .int 0, .int 0, .int 0, .int 0, .int 0, .int 0, .long 0, .int 0, .ref h2, .ref h3, .ref h4, .ref h5, .ref h6, .ref h7, .ref h8, .ref h9, .ref h10, .int 0, .int 0, .int 0, .int 0, .int (-1), .int (-1), .long 0, .long 0, .ref h11, .ref h12, .int 0, .int (-1), .int 0, .ref h13, .int 0, .ref h14, .ref h15, .int 0, .int 0, .ref h16, .int 0, .int 0, .int 0, .int 0])), (h2, .inl (w0, 373, .inl (upd (upd (upd (fun _ => 0) 60 2) 62 2) 86 0)))] := hD
  rw [zz_sw (f := (upd (upd (fun _ => 0) 60 2) 62 2)) (i := 86) (v := 0) rfl] at hP hD
  have hP : va_P (dC, dI) vwCl [(h0, .inr (11, [.int 0, .ref h1, .int 0, .int 0, .int 0, .int 0, .int 0, .int 0, .int 0, .int 0, .int 0, .int 0, .long 0, .int 0, .ref h2, .ref h3, .ref h4, .ref h5, .ref h6, .ref h7, .ref h8, .ref h9, .ref h10, .int 0, .int 0, .int 0, .int 0, .int (-1), .int (-1), .long 0, .long 0, .ref h11, .ref h12, .int 0, .int (-1), .int 0, .ref h13, .int 0, .ref h14, .ref h15, .int 0, .int 0, .ref h16, .int 0, .int 0, .int 0, .int 0])), (h2, .inl (w0, 373, .inl (upd (upd (fun _ => 0) 60 2) 62 2)))] H := hP
  have hD : va_D A [(h0, .inr (11, [.int 0, .ref h1, .int 0, .int 0, .int 0, .int 0, .int 0, .int 0, .int 0, .int 0, .int 0, .int 0, .long 0, .int 0, .ref h2, .ref h3, .ref h4, .ref h5, .ref h6, .ref h7, .ref h8, .ref h9, .ref h10, .int 0, .int 0, .int 0, .int 0, .int (-1), .int (-1), .long 0, .long 0, .ref h11, .ref h12, .int 0, .int (-1), .int 0, .ref h13, .int 0, .ref h14, .ref h15, .int 0, .int 0, .ref h16, .int 0, .int 0, .int 0, .int 0])), (h2, .inl (w0, 373, .inl (upd (upd (fun _ => 0) 60 2) 62 2)))] := hD
  refine lv_aload_n hx hb dX12_startSo_125 rfl (lv_at hl 1 rfl) ?_
  refine va_get (D := (dC, dI)) (ci := 11) (v := .ref h2) (C := RX12) (T := TX12) (N := 47) hx hb hts ii_X12_startSo_X12 hown hK hP 0 rfl rfl 14 (by decide) (hts _ mm_X12_startSo_1) (fun _ h9 => h9) rfl dX12_startSo_126 ?_
  refine lv_bipush (v := 87) hx hb dX12_startSo_129 (by decide) ?_
  refine lv_iload_n hx hb dX12_startSo_131 rfl (lv_at hl 0 rfl) ?_
  refine lv_iadd hx hb dX12_startSo_132 ?_
  refine zz_top (v := 94) (by decide) ?_
  refine lv_aload_n hx hb dX12_startSo_133 rfl (lv_at hl 1 rfl) ?_
  refine va_get (D := (dC, dI)) (ci := 11) (v := .ref h2) (C := RX12) (T := TX12) (N := 47) hx hb hts ii_X12_startSo_X12 hown hK hP 0 rfl rfl 14 (by decide) (hts _ mm_X12_startSo_1) (fun _ h9 => h9) rfl dX12_startSo_134 ?_
  refine lv_bipush (v := 26) hx hb dX12_startSo_137 (by decide) ?_
  refine lv_iload_n hx hb dX12_startSo_139 rfl (lv_at hl 0 rfl) ?_
  refine lv_iadd hx hb dX12_startSo_140 ?_
  refine zz_top (v := 33) (by decide) ?_
  refine va_iald hx hb hK hP 1 0 rfl rfl (i := 33) (zz_in (by decide)) dX12_startSo_141 ?_
  refine zz_top (v := 0) (by rfl) ?_
  refine va_iast hx hb hK hP hD hS 1 0 rfl rfl (i := 94) (zz_in (by decide)) dX12_startSo_142 (fun H locs hP hD hS => ?_)
  have hP : va_P (dC, dI) vwCl [(h0, .inr (11, [.int 0, .ref h1, .int 0, .int 0, .int 0, .int 0, .int 0, .int 0, .int 0, .int 0, .int 0, .int 0, .long 0, .int 0, .ref h2, .ref h3, .ref h4, .ref h5, .ref h6, .ref h7, .ref h8, .ref h9, .ref h10, .int 0, .int 0, .int 0, .int 0, .int (-1), .int (-1), .long 0, .long 0, .ref h11, .ref h12, .int 0, .int (-1), .int 0, .ref h13, .int 0, .ref h14, .ref h15, .int 0, .int 0, .ref h16, .int 0, .int 0, .int 0, .int 0])), (h2, .inl (w0, 373, .inl (upd (upd (upd (fun _ => 0) 60 2) 62 2) 94 0)))] H := hP
  have hD : va_D A [(h0, .inr (11, [.int 0, .ref h1, .int 0, .int 0, .int 0, .int 0, .int 0, .int 0, .int 0, .int 0, .int 0, .int 0, .long 0, .int 0, .ref h2, .ref h3, .ref h4, .ref h5, .ref h6, .ref h7, .ref h8, .ref h9, .ref h10, .int 0, .int 0, .int 0, .int 0, .int (-1), .int (-1), .long 0, .long 0, .ref h11, .ref h12, .int 0, .int (-1), .int 0, .ref h13, .int 0, .ref h14, .ref h15, .int 0, .int 0, .ref h16, .int 0, .int 0, .int 0, .int 0])), (h2, .inl (w0, 373, .inl (upd (upd (upd (fun _ => 0) 60 2) 62 2) 94 0)))] := hD
  rw [zz_sw (f := (upd (upd (fun _ => 0) 60 2) 62 2)) (i := 94) (v := 0) rfl] at hP hD
  have hP : va_P (dC, dI) vwCl [(h0, .inr (11, [.int 0, .ref h1, .int 0, .int 0, .int 0, .int 0, .int 0, .int 0, .int 0, .int 0, .int 0, .int 0, .long 0, .int 0, .ref h2, .ref h3, .ref h4, .ref h5, .ref h6, .ref h7, .ref h8, .ref h9, .ref h10, .int 0, .int 0, .int 0, .int 0, .int (-1), .int (-1), .long 0, .long 0, .ref h11, .ref h12, .int 0, .int (-1), .int 0, .ref h13, .int 0, .ref h14, .ref h15, .int 0, .int 0, .ref h16, .int 0, .int 0, .int 0, .int 0])), (h2, .inl (w0, 373, .inl (upd (upd (fun _ => 0) 60 2) 62 2)))] H := hP
  have hD : va_D A [(h0, .inr (11, [.int 0, .ref h1, .int 0, .int 0, .int 0, .int 0, .int 0, .int 0, .int 0, .int 0, .int 0, .int 0, .long 0, .int 0, .ref h2, .ref h3, .ref h4, .ref h5, .ref h6, .ref h7, .ref h8, .ref h9, .ref h10, .int 0, .int 0, .int 0, .int 0, .int (-1), .int (-1), .long 0, .long 0, .ref h11, .ref h12, .int 0, .int (-1), .int 0, .ref h13, .int 0, .ref h14, .ref h15, .int 0, .int 0, .ref h16, .int 0, .int 0, .int 0, .int 0])), (h2, .inl (w0, 373, .inl (upd (upd (fun _ => 0) 60 2) 62 2)))] := hD
  refine lv_iinc (v := 8) (lv' := [(1, .int 8), (0, .ref h0)]) hx hb dX12_startSo_143 hl (k := 0) rfl (by decide) (by decide) rfl (fun ls hl => ?_)
  refine lv_goto (tgt := 83) hx hb dX12_startSo_146 (by decide) ?_
  refine lv_iload_n hx hb dX12_startSo_83 rfl (lv_at hl 0 rfl) ?_
  refine lv_bipush (v := 8) hx hb dX12_startSo_84 (by decide) ?_
  refine lv_icmp_ge (tgt := 149) hx hb dX12_startSo_86 (by decide) (fun _ => ?_) (fun c17 => absurd (by decide) c17)
  have hP9 := hP.sub (ws' := [(h0, .inr (11, [.int 0, .ref h1, .int 0, .int 0, .int 0, .int 0, .int 0, .int 0, .int 0, .int 0, .int 0, .int 0, .long 0, .int 0, .ref h2, .ref h3, .ref h4, .ref h5, .ref h6, .ref h7, .ref h8, .ref h9, .ref h10, .int 0, .int 0, .int 0, .int 0, .int (-1), .int (-1), .long 0, .long 0, .ref h11, .ref h12, .int 0, .int (-1), .int 0, .ref h13, .int 0, .ref h14, .ref h15, .int 0, .int 0, .ref h16, .int 0, .int 0, .int 0, .int 0])), (h2, .inl (w0, 373, .inl (upd (upd (fun _ => 0) 60 2) 62 2)))]) [0, 1] rfl
  have hD9 := hD.sub (ws' := [(h0, .inr (11, [.int 0, .ref h1, .int 0, .int 0, .int 0, .int 0, .int 0, .int 0, .int 0, .int 0, .int 0, .int 0, .long 0, .int 0, .ref h2, .ref h3, .ref h4, .ref h5, .ref h6, .ref h7, .ref h8, .ref h9, .ref h10, .int 0, .int 0, .int 0, .int 0, .int (-1), .int (-1), .long 0, .long 0, .ref h11, .ref h12, .int 0, .int (-1), .int 0, .ref h13, .int 0, .ref h14, .ref h15, .int 0, .int 0, .ref h16, .int 0, .int 0, .int 0, .int 0])), (h2, .inl (w0, 373, .inl (upd (upd (fun _ => 0) 60 2) 62 2)))]) [0, 1] (by decide) rfl
  have hK9 := hK.sub (tys' := []) [] rfl
  refine W.widen (k := 0) (n := 0) (Nat.le_of_ble_eq_true rfl) (Nat.le_of_ble_eq_true rfl) ?_
  exact W.vret hx hb hr (fun t ht hW => ⟨⟨(), rfl, trivial, by rw [ht]; exact hP9, va_K.moved hW.alike hK9, hD9⟩, hS.F ht⟩) hS.2.2 dX12_startSo_149
