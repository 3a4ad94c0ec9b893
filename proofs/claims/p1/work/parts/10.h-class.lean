set_option maxHeartbeats 4000000 in
set_option maxRecDepth 100000 in
theorem k_X11_rounds (l : Launch) (dC : Nat → ClassId) (dI : Nat → Nat → Nat) (ad : Nat → Nat) (h0 h1 h2 h3 h4 h5 h6 h7 h8 h9 h10 h11 h12 h13 h14 h15 h16 h17 h18 h19 h20 h21 h22 h23 h24 h25 : Nat) (w0 : ClassId) (sz : Nat) : Met l yX11_rounds wsX11_rounds ({ frames := 2, cells := 0, slots := 0, locals := 47 }) (va_Pc [.ref h0] (CP (dC, dI) [(h0, .inr (10, [.ref h1, .ref h2, .ref h3, .ref h4, .ref h5, .ref h6, .ref h7, .ref h8, .ref h9, .ref h10, .ref h11, .ref h12, .ref h13, .ref h14, .ref h15, .int (-1), .int 0, .int (-1), .int (-1)])), (h2, .inr (5, [.ref h16, .ref h17, .ref h18, .ref h19, .ref h20, .int 0, .int 0, .int 0, .int 2, .int 0, .int 0, .int 0])), (h3, .inr (5, [.ref h21, .ref h22, .ref h23, .ref h24, .ref h25, .int 0, .int 0, .int 0, .int 2, .int 0, .int 0, .int 0])), (h13, .inl (w0, 8, .inl (upd (upd (upd (upd (upd (upd (upd (upd (fun _ => 0) 0 (-1)) 1 (-1)) 2 (-1)) 3 (-1)) 4 (-1)) 5 (-1)) 6 (-1)) 7 (-1))))] [(w0, .int)] sz ad)) (va_Qi (fun (r : Int32) (_ : Unit) => r = 1) (fun (_ : Unit) (t : State) => CQ (dC, dI) [] [] (va_A [(h0, .inr (10, [.ref h1, .ref h2, .ref h3, .ref h4, .ref h5, .ref h6, .ref h7, .ref h8, .ref h9, .ref h10, .ref h11, .ref h12, .ref h13, .ref h14, .ref h15, .int (-1), .int 0, .int (-1), .int (-1)])), (h2, .inr (5, [.ref h16, .ref h17, .ref h18, .ref h19, .ref h20, .int 0, .int 0, .int 0, .int 2, .int 0, .int 0, .int 0])), (h3, .inr (5, [.ref h21, .ref h22, .ref h23, .ref h24, .ref h25, .int 0, .int 0, .int 0, .int 2, .int 0, .int 0, .int 0])), (h13, .inl (w0, 8, .inl (upd (upd (upd (upd (upd (upd (upd (upd (fun _ => 0) 0 (-1)) 1 (-1)) 2 (-1)) 3 (-1)) 4 (-1)) 5 (-1)) 6 (-1)) 7 (-1))))] sz) t) (va_A [(h0, .inr (10, [.ref h1, .ref h2, .ref h3, .ref h4, .ref h5, .ref h6, .ref h7, .ref h8, .ref h9, .ref h10, .ref h11, .ref h12, .ref h13, .ref h14, .ref h15, .int (-1), .int 0, .int (-1), .int (-1)])), (h2, .inr (5, [.ref h16, .ref h17, .ref h18, .ref h19, .ref h20, .int 0, .int 0, .int 0, .int 2, .int 0, .int 0, .int 0])), (h3, .inr (5, [.ref h21, .ref h22, .ref h23, .ref h24, .ref h25, .int 0, .int 0, .int 0, .int 2, .int 0, .int 0, .int 0])), (h13, .inl (w0, 8, .inl (upd (upd (upd (upd (upd (upd (upd (upd (fun _ => 0) 0 (-1)) 1 (-1)) 2 (-1)) 3 (-1)) 4 (-1)) 5 (-1)) 6 (-1)) 7 (-1))))] sz)) 0 0 (va_A [(h0, .inr (10, [.ref h1, .ref h2, .ref h3, .ref h4, .ref h5, .ref h6, .ref h7, .ref h8, .ref h9, .ref h10, .ref h11, .ref h12, .ref h13, .ref h14, .ref h15, .int (-1), .int 0, .int (-1), .int (-1)])), (h2, .inr (5, [.ref h16, .ref h17, .ref h18, .ref h19, .ref h20, .int 0, .int 0, .int 0, .int 2, .int 0, .int 0, .int 0])), (h3, .inr (5, [.ref h21, .ref h22, .ref h23, .ref h24, .ref h25, .int 0, .int 0, .int 0, .int 2, .int 0, .int 0, .int 0])), (h13, .inl (w0, 8, .inl (upd (upd (upd (upd (upd (upd (upd (upd (fun _ => 0) 0 (-1)) 1 (-1)) 2 (-1)) 3 (-1)) 4 (-1)) 5 (-1)) 6 (-1)) 7 (-1))))] sz) := by
  refine Met.ofW (cc := cX11_rounds) (maxL := 3) (ret := (some .int)) (by decide) rfl ?_
  intro p e s m args below meth c s₁ B hml hv
  obtain ⟨rfl, hsz, hP, hK, hD0, hE⟩ := hv
  have hx := B.exec
  have hb := B.bytes
  have hr := B.returns
  have hts := atoms_spec (ws := wsX11_rounds) B.pre
  have hown : s.vm.findClass RX11 = some m.cls := findClass_of_methodNamed B.named
  have hlocks := B.notSynchronized
  subst hsz
  have hD := hD0.self (sz := s.heap.size)
  generalize hAe : va_A [(h0, .inr (10, [.ref h1, .ref h2, .ref h3, .ref h4, .ref h5, .ref h6, .ref h7, .ref h8, .ref h9, .ref h10, .ref h11, .ref h12, .ref h13, .ref h14, .ref h15, .int (-1), .int 0, .int (-1), .int (-1)])), (h2, .inr (5, [.ref h16, .ref h17, .ref h18, .ref h19, .ref h20, .int 0, .int 0, .int 0, .int 2, .int 0, .int 0, .int 0])), (h3, .inr (5, [.ref h21, .ref h22, .ref h23, .ref h24, .ref h25, .int 0, .int 0, .int 0, .int 2, .int 0, .int 0, .int 0])), (h13, .inl (w0, 8, .inl (upd (upd (upd (upd (upd (upd (upd (upd (fun _ => 0) 0 (-1)) 1 (-1)) 2 (-1)) 3 (-1)) 4 (-1)) 5 (-1)) 6 (-1)) 7 (-1))))] s.heap.size = A at hD hE ⊢
  have hA : ∀ q : Nat, s.heap.size ≤ q → A q := fun q h => by rw [← hAe]; exact Or.inr h
  have hS : va_S A s.heap s.heap [] := va_S.rf
  have hl := lv_entry ([.ref h0]) (n := 3) (Nat.le_of_ble_eq_true rfl)
  rw [lg_entry_eq]
  generalize (lg_sl ([.ref h0]) ++ List.replicate (3 - (lg_sl ([.ref h0])).length) Slot.unset).toArray = ls at hl ⊢
  have hl : lv_has ls 3 [(0, .ref h0)] := hl
  refine lv_aload_n hx hb dX11_rounds_0 rfl (lv_at hl 0 rfl) ?_
  refine va_get (D := (dC, dI)) (ci := 10) (v := .ref h3) (C := RX11) (T := TX11) (N := 19) hx hb hts ii_X11_rounds_X11 hown hK hP 0 rfl rfl 2 (by decide) (hts _ mm_X11_rounds_1) (fun _ h9 => h9) rfl dX11_rounds_1 ?_
  refine lv_aload_n hx hb dX11_rounds_4 rfl (lv_at hl 0 rfl) ?_
  refine va_get (D := (dC, dI)) (ci := 10) (v := .ref h2) (C := RX11) (T := TX11) (N := 19) hx hb hts ii_X11_rounds_X11 hown hK hP 0 rfl rfl 1 (by decide) (hts _ mm_X11_rounds_2) (fun _ h9 => h9) rfl dX11_rounds_5 ?_
  have hPc := hP.sub (ws' := [(h2, .inr (5, [.ref h16, .ref h17, .ref h18, .ref h19, .ref h20, .int 0, .int 0, .int 0, .int 2, .int 0, .int 0, .int 0])), (h3, .inr (5, [.ref h21, .ref h22, .ref h23, .ref h24, .ref h25, .int 0, .int 0, .int 0, .int 2, .int 0, .int 0, .int 0]))]) [1, 2] rfl
  have hDc := hD.sub (ws' := [(h2, .inr (5, [.ref h16, .ref h17, .ref h18, .ref h19, .ref h20, .int 0, .int 0, .int 0, .int 2, .int 0, .int 0, .int 0])), (h3, .inr (5, [.ref h21, .ref h22, .ref h23, .ref h24, .ref h25, .int 0, .int 0, .int 0, .int 2, .int 0, .int 0, .int 0]))]) [1, 2] (by decide) rfl
  have hKc := hK.sub (tys' := []) [] rfl
  have hFc := va_free (wc := [(h2, .inr (5, [.ref h16, .ref h17, .ref h18, .ref h19, .ref h20, .int 0, .int 0, .int 0, .int 2, .int 0, .int 0, .int 0])), (h3, .inr (5, [.ref h21, .ref h22, .ref h23, .ref h24, .ref h25, .int 0, .int 0, .int 0, .int 2, .int 0, .int 0, .int 0]))]) hD hS hA [1, 2] rfl
  refine va_callv (va_runV (As := [.ref h2]) (rest := []) ⟨hx, hb, hml, hown, hts⟩ (k_X4_copyFrom_1 l dC dI ad h3 h2 h16 h17 h18 h19 h20 h21 h22 h23 h24 h25 s.heap.size) (cwV 1 hts gX11_rounds_X4_copyFrom rfl rfl rfl (by decide +kernel) ⟨Nat.le_of_ble_eq_true rfl, Nat.le_of_ble_eq_true rfl⟩) ⟨fun a U g mk q => ⟨q.1, CP.blind q.2⟩, va_recv hKc hPc (ci := 5) (q0 := 1) rfl rfl, fun U hU hW => ⟨rfl, CP.of hPc hKc hDc hE hS hFc hU hW⟩⟩ rfl rfl hl.1 rfl (lv_room (Nat.le_of_ble_eq_true rfl)) dX11_rounds_8 ⟨Nat.le_of_ble_eq_true rfl, Nat.le_of_ble_eq_true rfl⟩) hS (fun q _ h => hFc q h) hFc (fun u t H1 locs ht hvm hw hB hz1 hk1 hS => ?_)
  obtain ⟨hP1, hK1, hD1⟩ := hB
  rw [ht] at hP1
  obtain ⟨hP, hD⟩ := va_join (wr := [(h0, .inr (10, [.ref h1, .ref h2, .ref h3, .ref h4, .ref h5, .ref h6, .ref h7, .ref h8, .ref h9, .ref h10, .ref h11, .ref h12, .ref h13, .ref h14, .ref h15, .int (-1), .int 0, .int (-1), .int (-1)])), (h13, .inl (w0, 8, .inl (upd (upd (upd (upd (upd (upd (upd (upd (fun _ => 0) 0 (-1)) 1 (-1)) 2 (-1)) 3 (-1)) 4 (-1)) 5 (-1)) 6 (-1)) 7 (-1))))]) (w1 := [(h2, .inr (5, [.ref h16, .ref h17, .ref h18, .ref h19, .ref h20, .int 0, .int 0, .int 0, .int 2, .int 0, .int 0, .int 0])), (h3, .inr (5, [.ref h21, .ref h22, .ref h23, .ref h24, .ref h25, .int 0, .int 0, .int 0, .int 2, .int 0, .int 0, .int 0]))]) hP hD [1, 2] [0, 3] rfl rfl (by decide) (by decide) hk1 hFc hP1 hD1
  generalize H1 = H at hP hS ⊢
  clear hPc hDc hKc hFc hP1 hD1 hK1 hk1 hz1
  have hP : va_P (dC, dI) vwCl [(h0, .inr (10, [.ref h1, .ref h2, .ref h3, .ref h4, .ref h5, .ref h6, .ref h7, .ref h8, .ref h9, .ref h10, .ref h11, .ref h12, .ref h13, .ref h14, .ref h15, .int (-1), .int 0, .int (-1), .int (-1)])), (h13, .inl (w0, 8, .inl (upd (upd (upd (upd (upd (upd (upd (upd (fun _ => 0) 0 (-1)) 1 (-1)) 2 (-1)) 3 (-1)) 4 (-1)) 5 (-1)) 6 (-1)) 7 (-1)))), (h2, .inr (5, [.ref h16, .ref h17, .ref h18, .ref h19, .ref h20, .int 0, .int 0, .int 0, .int 2, .int 0, .int 0, .int 0])), (h3, .inr (5, [.ref h21, .ref h22, .ref h23, .ref h24, .ref h25, .int 0, .int 0, .int 0, .int 2, .int 0, .int 0, .int 0]))] H := hP
  have hD : va_D A [(h0, .inr (10, [.ref h1, .ref h2, .ref h3, .ref h4, .ref h5, .ref h6, .ref h7, .ref h8, .ref h9, .ref h10, .ref h11, .ref h12, .ref h13, .ref h14, .ref h15, .int (-1), .int 0, .int (-1), .int (-1)])), (h13, .inl (w0, 8, .inl (upd (upd (upd (upd (upd (upd (upd (upd (fun _ => 0) 0 (-1)) 1 (-1)) 2 (-1)) 3 (-1)) 4 (-1)) 5 (-1)) 6 (-1)) 7 (-1)))), (h2, .inr (5, [.ref h16, .ref h17, .ref h18, .ref h19, .ref h20, .int 0, .int 0, .int 0, .int 2, .int 0, .int 0, .int 0])), (h3, .inr (5, [.ref h21, .ref h22, .ref h23, .ref h24, .ref h25, .int 0, .int 0, .int 0, .int 2, .int 0, .int 0, .int 0]))] := hD
  refine lv_aload_n hx hb dX11_rounds_11 rfl (lv_at hl 0 rfl) ?_
  refine va_get (D := (dC, dI)) (ci := 10) (v := .ref h3) (C := RX11) (T := TX11) (N := 19) hx hb hts ii_X11_rounds_X11 hown hK hP 0 rfl rfl 2 (by decide) (hts _ mm_X11_rounds_1) (fun _ h9 => h9) rfl dX11_rounds_12 ?_
  have hPc := hP.sub (ws' := [(h3, .inr (5, [.ref h21, .ref h22, .ref h23, .ref h24, .ref h25, .int 0, .int 0, .int 0, .int 2, .int 0, .int 0, .int 0]))]) [3] rfl
  have hDc := hD.sub (ws' := [(h3, .inr (5, [.ref h21, .ref h22, .ref h23, .ref h24, .ref h25, .int 0, .int 0, .int 0, .int 2, .int 0, .int 0, .int 0]))]) [3] (by decide) rfl
  have hKc := hK.sub (tys' := []) [] rfl
  have hFc := va_free (wc := [(h3, .inr (5, [.ref h21, .ref h22, .ref h23, .ref h24, .ref h25, .int 0, .int 0, .int 0, .int 2, .int 0, .int 0, .int 0]))]) hD hS hA [3] rfl
  refine va_calli (va_runS (As := [.ref h3]) (rest := []) ⟨hx, hb, hml, hown, hts⟩ (k_X9_part l dC dI ad h3 h21 h22 h23 h24 h25 H.size) (va_cwS 1 hts gX11_rounds_X9_part rfl rfl rfl (by decide +kernel) ⟨Nat.le_of_ble_eq_true rfl, Nat.le_of_ble_eq_true rfl⟩) ⟨fun a U g mk q => ⟨q.1, CP.blind q.2⟩, fun U hU hW => ⟨rfl, CP.of hPc hKc hDc hE hS hFc hU hW⟩⟩ rfl rfl hl.1 rfl (lv_room (Nat.le_of_ble_eq_true rfl)) dX11_rounds_15 ⟨Nat.le_of_ble_eq_true rfl, Nat.le_of_ble_eq_true rfl⟩) hS (fun q _ h => hFc q h) hFc (fun r1 u t H1 locs ht hvm hw hB hz1 hk1 hS => ?_)
  obtain ⟨hP1, hK1, hD1⟩ := hB
  rw [ht] at hP1
  obtain ⟨hP, hD⟩ := va_join (wr := [(h0, .inr (10, [.ref h1, .ref h2, .ref h3, .ref h4, .ref h5, .ref h6, .ref h7, .ref h8, .ref h9, .ref h10, .ref h11, .ref h12, .ref h13, .ref h14, .ref h15, .int (-1), .int 0, .int (-1), .int (-1)])), (h13, .inl (w0, 8, .inl (upd (upd (upd (upd (upd (upd (upd (upd (fun _ => 0) 0 (-1)) 1 (-1)) 2 (-1)) 3 (-1)) 4 (-1)) 5 (-1)) 6 (-1)) 7 (-1)))), (h2, .inr (5, [.ref h16, .ref h17, .ref h18, .ref h19, .ref h20, .int 0, .int 0, .int 0, .int 2, .int 0, .int 0, .int 0]))]) (w1 := [(h3, .inr (5, [.ref h21, .ref h22, .ref h23, .ref h24, .ref h25, .int 0, .int 0, .int 0, .int 2, .int 0, .int 0, .int 0]))]) hP hD [3] [0, 1, 2] rfl rfl (by decide) (by decide) hk1 hFc hP1 hD1
  generalize H1 = H at hP hS ⊢
  clear hPc hDc hKc hFc hP1 hD1 hK1 hk1 hz1
  have hP : va_P (dC, dI) vwCl [(h0, .inr (10, [.ref h1, .ref h2, .ref h3, .ref h4, .ref h5, .ref h6, .ref h7, .ref h8, .ref h9, .ref h10, .ref h11, .ref h12, .ref h13, .ref h14, .ref h15, .int (-1), .int 0, .int (-1), .int (-1)])), (h13, .inl (w0, 8, .inl (upd (upd (upd (upd (upd (upd (upd (upd (fun _ => 0) 0 (-1)) 1 (-1)) 2 (-1)) 3 (-1)) 4 (-1)) 5 (-1)) 6 (-1)) 7 (-1)))), (h2, .inr (5, [.ref h16, .ref h17, .ref h18, .ref h19, .ref h20, .int 0, .int 0, .int 0, .int 2, .int 0, .int 0, .int 0])), (h3, .inr (5, [.ref h21, .ref h22, .ref h23, .ref h24, .ref h25, .int 0, .int 0, .int 0, .int 2, .int 0, .int 0, .int 0]))] H := hP
  have hD : va_D A [(h0, .inr (10, [.ref h1, .ref h2, .ref h3, .ref h4, .ref h5, .ref h6, .ref h7, .ref h8, .ref h9, .ref h10, .ref h11, .ref h12, .ref h13, .ref h14, .ref h15, .int (-1), .int 0, .int (-1), .int (-1)])), (h13, .inl (w0, 8, .inl (upd (upd (upd (upd (upd (upd (upd (upd (fun _ => 0) 0 (-1)) 1 (-1)) 2 (-1)) 3 (-1)) 4 (-1)) 5 (-1)) 6 (-1)) 7 (-1)))), (h2, .inr (5, [.ref h16, .ref h17, .ref h18, .ref h19, .ref h20, .int 0, .int 0, .int 0, .int 2, .int 0, .int 0, .int 0])), (h3, .inr (5, [.ref h21, .ref h22, .ref h23, .ref h24, .ref h25, .int 0, .int 0, .int 0, .int 2, .int 0, .int 0, .int 0]))] := hD
  refine zz_top (v := 1) hw ?_
  refine lv_istore_n (lv' := [(1, .int 1), (0, .ref h0)]) hx hb dX11_rounds_18 rfl hl (by decide) rfl (fun ls hl => ?_)
  refine lv_iconst (v := 0) hx hb dX11_rounds_19 (by decide) ?_
  refine lv_istore_n (lv' := [(2, .int 0), (1, .int 1), (0, .ref h0)]) hx hb dX11_rounds_20 rfl hl (by decide) rfl (fun ls hl => ?_)
  refine lv_iload_n hx hb dX11_rounds_21 rfl (lv_at hl 0 rfl) ?_
  refine lv_bipush (v := 8) hx hb dX11_rounds_22 (by decide) ?_
  refine lv_icmp_ge (tgt := 66) hx hb dX11_rounds_24 (by decide) (fun c2 => absurd c2 (by decide)) (fun _ => ?_)
  refine lv_aload_n hx hb dX11_rounds_27 rfl (lv_at hl 2 rfl) ?_
  refine va_get (D := (dC, dI)) (ci := 10) (v := .ref h13) (C := RX11) (T := TX11) (N := 19) hx hb hts ii_X11_rounds_X11 hown hK hP 0 rfl rfl 12 (by decide) (hts _ mm_X11_rounds_3) (fun _ h9 => h9) rfl dX11_rounds_28 ?_
  refine lv_iload_n hx hb dX11_rounds_31 rfl (lv_at hl 0 rfl) ?_
  refine lv_aload_n hx hb dX11_rounds_32 rfl (lv_at hl 2 rfl) ?_
  refine va_get (D := (dC, dI)) (ci := 10) (v := .ref h3) (C := RX11) (T := TX11) (N := 19) hx hb hts ii_X11_rounds_X11 hown hK hP 0 rfl rfl 2 (by decide) (hts _ mm_X11_rounds_1) (fun _ h9 => h9) rfl dX11_rounds_33 ?_
  refine lv_iload_n hx hb dX11_rounds_36 rfl (lv_at hl 0 rfl) ?_
  have hPc := hP.sub (ws' := [(h3, .inr (5, [.ref h21, .ref h22, .ref h23, .ref h24, .ref h25, .int 0, .int 0, .int 0, .int 2, .int 0, .int 0, .int 0]))]) [3] rfl
  have hDc := hD.sub (ws' := [(h3, .inr (5, [.ref h21, .ref h22, .ref h23, .ref h24, .ref h25, .int 0, .int 0, .int 0, .int 2, .int 0, .int 0, .int 0]))]) [3] (by decide) rfl
  have hKc := hK.sub (tys' := []) [] rfl
  have hFc := va_free (wc := [(h3, .inr (5, [.ref h21, .ref h22, .ref h23, .ref h24, .ref h25, .int 0, .int 0, .int 0, .int 2, .int 0, .int 0, .int 0]))]) hD hS hA [3] rfl
  refine va_calli (va_runV (As := [.int 0]) (rest := [.int 0, .ref h13]) ⟨hx, hb, hml, hown, hts⟩ (k_X4_hasPerson_1 l dC dI ad h3 h21 h22 h23 h24 h25 H.size) (cwV 1 hts gX11_rounds_X4_hasPerson rfl rfl rfl (by decide +kernel) ⟨Nat.le_of_ble_eq_true rfl, Nat.le_of_ble_eq_true rfl⟩) ⟨fun a U g mk q => ⟨q.1, CP.blind q.2⟩, va_recv hKc hPc (ci := 5) (q0 := 0) rfl rfl, fun U hU hW => ⟨rfl, CP.of hPc hKc hDc hE hS hFc hU hW⟩⟩ rfl rfl hl.1 rfl (lv_room (Nat.le_of_ble_eq_true rfl)) dX11_rounds_37 ⟨Nat.le_of_ble_eq_true rfl, Nat.le_of_ble_eq_true rfl⟩) hS (fun q _ h => hFc q h) hFc (fun r3 u t H1 locs ht hvm hw hB hz1 hk1 hS => ?_)
  obtain ⟨hP1, hK1, hD1⟩ := hB
  rw [ht] at hP1
  obtain ⟨hP, hD⟩ := va_join (wr := [(h0, .inr (10, [.ref h1, .ref h2, .ref h3, .ref h4, .ref h5, .ref h6, .ref h7, .ref h8, .ref h9, .ref h10, .ref h11, .ref h12, .ref h13, .ref h14, .ref h15, .int (-1), .int 0, .int (-1), .int (-1)])), (h13, .inl (w0, 8, .inl (upd (upd (upd (upd (upd (upd (upd (upd (fun _ => 0) 0 (-1)) 1 (-1)) 2 (-1)) 3 (-1)) 4 (-1)) 5 (-1)) 6 (-1)) 7 (-1)))), (h2, .inr (5, [.ref h16, .ref h17, .ref h18, .ref h19, .ref h20, .int 0, .int 0, .int 0, .int 2, .int 0, .int 0, .int 0]))]) (w1 := [(h3, .inr (5, [.ref h21, .ref h22, .ref h23, .ref h24, .ref h25, .int 0, .int 0, .int 0, .int 2, .int 0, .int 0, .int 0]))]) hP hD [3] [0, 1, 2] rfl rfl (by decide) (by decide) hk1 hFc hP1 hD1
  generalize H1 = H at hP hS ⊢
  clear hPc hDc hKc hFc hP1 hD1 hK1 hk1 hz1
  have hP : va_P (dC, dI) vwCl [(h0, .inr (10, [.ref h1, .ref h2, .ref h3, .ref h4, .ref h5, .ref h6, .ref h7, .ref h8, .ref h9, .ref h10, .ref h11, .ref h12, .ref h13, .ref h14, .ref h15, .int (-1), .int 0, .int (-1), .int (-1)])), (h13, .inl (w0, 8, .inl (upd (upd (upd (upd (upd (upd (upd (upd (fun _ => 0) 0 (-1)) 1 (-1)) 2 (-1)) 3 (-1)) 4 (-1)) 5 (-1)) 6 (-1)) 7 (-1)))), (h2, .inr (5, [.ref h16, .ref h17, .ref h18, .ref h19, .ref h20, .int 0, .int 0, .int 0, .int 2, .int 0, .int 0, .int 0])), (h3, .inr (5, [.ref h21, .ref h22, .ref h23, .ref h24, .ref h25, .int 0, .int 0, .int 0, .int 2, .int 0, .int 0, .int 0]))] H := hP
  have hD : va_D A [(h0, .inr (10, [.ref h1, .ref h2, .ref h3, .ref h4, .ref h5, .ref h6, .ref h7, .ref h8, .ref h9, .ref h10, .ref h11, .ref h12, .ref h13, .ref h14, .ref h15, .int (-1), .int 0, .int (-1), .int (-1)])), (h13, .inl (w0, 8, .inl (upd (upd (upd (upd (upd (upd (upd (upd (fun _ => 0) 0 (-1)) 1 (-1)) 2 (-1)) 3 (-1)) 4 (-1)) 5 (-1)) 6 (-1)) 7 (-1)))), (h2, .inr (5, [.ref h16, .ref h17, .ref h18, .ref h19, .ref h20, .int 0, .int 0, .int 0, .int 2, .int 0, .int 0, .int 0])), (h3, .inr (5, [.ref h21, .ref h22, .ref h23, .ref h24, .ref h25, .int 0, .int 0, .int 0, .int 2, .int 0, .int 0, .int 0]))] := hD
  refine zz_top (v := 0) hw ?_
  refine lv_if_eq (tgt := 58) hx hb dX11_rounds_40 (by decide) (fun _ => ?_) (fun c4 => absurd (by decide) c4)
  refine lv_iconst (v := (-1)) hx hb dX11_rounds_58 (by decide) ?_
  refine va_iast hx hb hK hP hD hS 1 0 rfl rfl (i := 0) (zz_in (by decide)) dX11_rounds_59 (fun H locs hP hD hS => ?_)
  have hP : va_P (dC, dI) vwCl [(h0, .inr (10, [.ref h1, .ref h2, .ref h3, .ref h4, .ref h5, .ref h6, .ref h7, .ref h8, .ref h9, .ref h10, .ref h11, .ref h12, .ref h13, .ref h14, .ref h15, .int (-1), .int 0, .int (-1), .int (-1)])), (h13, .inl (w0, 8, .inl (upd (upd (upd (upd (upd (upd (upd (upd (upd (fun _ => 0) 0 (-1)) 1 (-1)) 2 (-1)) 3 (-1)) 4 (-1)) 5 (-1)) 6 (-1)) 7 (-1)) 0 (-1)))), (h2, .inr (5, [.ref h16, .ref h17, .ref h18, .ref h19, .ref h20, .int 0, .int 0, .int 0, .int 2, .int 0, .int 0, .int 0])), (h3, .inr (5, [.ref h21, .ref h22, .ref h23, .ref h24, .ref h25, .int 0, .int 0, .int 0, .int 2, .int 0, .int 0, .int 0]))] H := hP
  have hD : va_D A [(h0, .inr (10, [.ref h1, .ref h2, .ref h3, .ref h4, .ref h5, .ref h6, .ref h7, .ref h8, .ref h9, .ref h10, .ref h11, .ref h12, .ref h13, .ref h14, .ref h15, .int (-1), .int 0, .int (-1), .int (-1)])), (h13, .inl (w0, 8, .inl (upd (upd (upd (upd (upd (upd (upd (upd (upd (fun _ => 0) 0 (-1)) 1 (-1)) 2 (-1)) 3 (-1)) 4 (-1)) 5 (-1)) 6 (-1)) 7 (-1)) 0 (-1)))), (h2, .inr (5, [.ref h16, .ref h17, .ref h18, .ref h19, .ref h20, .int 0, .int 0, .int 0, .int 2, .int 0, .int 0, .int 0])), (h3, .inr (5, [.ref h21, .ref h22, .ref h23, .ref h24, .ref h25, .int 0, .int 0, .int 0, .int 2, .int 0, .int 0, .int 0]))] := hD
  rw [zz_sw (f := (upd (upd (upd (upd (upd (upd (upd (upd (fun _ => 0) 0 (-1)) 1 (-1)) 2 (-1)) 3 (-1)) 4 (-1)) 5 (-1)) 6 (-1)) 7 (-1))) (i := 0) (v := (-1)) rfl] at hP hD
  have hP : va_P (dC, dI) vwCl [(h0, .inr (10, [.ref h1, .ref h2, .ref h3, .ref h4, .ref h5, .ref h6, .ref h7, .ref h8, .ref h9, .ref h10, .ref h11, .ref h12, .ref h13, .ref h14, .ref h15, .int (-1), .int 0, .int (-1), .int (-1)])), (h13, .inl (w0, 8, .inl (upd (upd (upd (upd (upd (upd (upd (upd (fun _ => 0) 0 (-1)) 1 (-1)) 2 (-1)) 3 (-1)) 4 (-1)) 5 (-1)) 6 (-1)) 7 (-1)))), (h2, .inr (5, [.ref h16, .ref h17, .ref h18, .ref h19, .ref h20, .int 0, .int 0, .int 0, .int 2, .int 0, .int 0, .int 0])), (h3, .inr (5, [.ref h21, .ref h22, .ref h23, .ref h24, .ref h25, .int 0, .int 0, .int 0, .int 2, .int 0, .int 0, .int 0]))] H := hP
  have hD : va_D A [(h0, .inr (10, [.ref h1, .ref h2, .ref h3, .ref h4, .ref h5, .ref h6, .ref h7, .ref h8, .ref h9, .ref h10, .ref h11, .ref h12, .ref h13, .ref h14, .ref h15, .int (-1), .int 0, .int (-1), .int (-1)])), (h13, .inl (w0, 8, .inl (upd (upd (upd (upd (upd (upd (upd (upd (fun _ => 0) 0 (-1)) 1 (-1)) 2 (-1)) 3 (-1)) 4 (-1)) 5 (-1)) 6 (-1)) 7 (-1)))), (h2, .inr (5, [.ref h16, .ref h17, .ref h18, .ref h19, .ref h20, .int 0, .int 0, .int 0, .int 2, .int 0, .int 0, .int 0])), (h3, .inr (5, [.ref h21, .ref h22, .ref h23, .ref h24, .ref h25, .int 0, .int 0, .int 0, .int 2, .int 0, .int 0, .int 0]))] := hD
  refine lv_iinc (v := 1) (lv' := [(2, .int 1), (1, .int 1), (0, .ref h0)]) hx hb dX11_rounds_60 hl (k := 0) rfl (by decide) (by decide) rfl (fun ls hl => ?_)
  refine lv_goto (tgt := 21) hx hb dX11_rounds_63 (by decide) ?_
  refine lv_iload_n hx hb dX11_rounds_21 rfl (lv_at hl 0 rfl) ?_
  refine lv_bipush (v := 8) hx hb dX11_rounds_22 (by decide) ?_
  refine lv_icmp_ge (tgt := 66) hx hb dX11_rounds_24 (by decide) (fun c5 => absurd c5 (by decide)) (fun _ => ?_)
  refine lv_aload_n hx hb dX11_rounds_27 rfl (lv_at hl 2 rfl) ?_
  refine va_get (D := (dC, dI)) (ci := 10) (v := .ref h13) (C := RX11) (T := TX11) (N := 19) hx hb hts ii_X11_rounds_X11 hown hK hP 0 rfl rfl 12 (by decide) (hts _ mm_X11_rounds_3) (fun _ h9 => h9) rfl dX11_rounds_28 ?_
  refine lv_iload_n hx hb dX11_rounds_31 rfl (lv_at hl 0 rfl) ?_
  refine lv_aload_n hx hb dX11_rounds_32 rfl (lv_at hl 2 rfl) ?_
  refine va_get (D := (dC, dI)) (ci := 10) (v := .ref h3) (C := RX11) (T := TX11) (N := 19) hx hb hts ii_X11_rounds_X11 hown hK hP 0 rfl rfl 2 (by decide) (hts _ mm_X11_rounds_1) (fun _ h9 => h9) rfl dX11_rounds_33 ?_
  refine lv_iload_n hx hb dX11_rounds_36 rfl (lv_at hl 0 rfl) ?_
  have hPc := hP.sub (ws' := [(h3, .inr (5, [.ref h21, .ref h22, .ref h23, .ref h24, .ref h25, .int 0, .int 0, .int 0, .int 2, .int 0, .int 0, .int 0]))]) [3] rfl
  have hDc := hD.sub (ws' := [(h3, .inr (5, [.ref h21, .ref h22, .ref h23, .ref h24, .ref h25, .int 0, .int 0, .int 0, .int 2, .int 0, .int 0, .int 0]))]) [3] (by decide) rfl
  have hKc := hK.sub (tys' := []) [] rfl
  have hFc := va_free (wc := [(h3, .inr (5, [.ref h21, .ref h22, .ref h23, .ref h24, .ref h25, .int 0, .int 0, .int 0, .int 2, .int 0, .int 0, .int 0]))]) hD hS hA [3] rfl
  refine va_calli (va_runV (As := [.int 1]) (rest := [.int 1, .ref h13]) ⟨hx, hb, hml, hown, hts⟩ (k_X4_hasPerson_2 l dC dI ad h3 h21 h22 h23 h24 h25 H.size) (cwV 1 hts gX11_rounds_X4_hasPerson rfl rfl rfl (by decide +kernel) ⟨Nat.le_of_ble_eq_true rfl, Nat.le_of_ble_eq_true rfl⟩) ⟨fun a U g mk q => ⟨q.1, CP.blind q.2⟩, va_recv hKc hPc (ci := 5) (q0 := 0) rfl rfl, fun U hU hW => ⟨rfl, CP.of hPc hKc hDc hE hS hFc hU hW⟩⟩ rfl rfl hl.1 rfl (lv_room (Nat.le_of_ble_eq_true rfl)) dX11_rounds_37 ⟨Nat.le_of_ble_eq_true rfl, Nat.le_of_ble_eq_true rfl⟩) hS (fun q _ h => hFc q h) hFc (fun r6 u t H1 locs ht hvm hw hB hz1 hk1 hS => ?_)
  obtain ⟨hP1, hK1, hD1⟩ := hB
  rw [ht] at hP1
  obtain ⟨hP, hD⟩ := va_join (wr := [(h0, .inr (10, [.ref h1, .ref h2, .ref h3, .ref h4, .ref h5, .ref h6, .ref h7, .ref h8, .ref h9, .ref h10, .ref h11, .ref h12, .ref h13, .ref h14, .ref h15, .int (-1), .int 0, .int (-1), .int (-1)])), (h13, .inl (w0, 8, .inl (upd (upd (upd (upd (upd (upd (upd (upd (fun _ => 0) 0 (-1)) 1 (-1)) 2 (-1)) 3 (-1)) 4 (-1)) 5 (-1)) 6 (-1)) 7 (-1)))), (h2, .inr (5, [.ref h16, .ref h17, .ref h18, .ref h19, .ref h20, .int 0, .int 0, .int 0, .int 2, .int 0, .int 0, .int 0]))]) (w1 := [(h3, .inr (5, [.ref h21, .ref h22, .ref h23, .ref h24, .ref h25, .int 0, .int 0, .int 0, .int 2, .int 0, .int 0, .int 0]))]) hP hD [3] [0, 1, 2] rfl rfl (by decide) (by decide) hk1 hFc hP1 hD1
  generalize H1 = H at hP hS ⊢
  clear hPc hDc hKc hFc hP1 hD1 hK1 hk1 hz1
  have hP : va_P (dC, dI) vwCl [(h0, .inr (10, [.ref h1, .ref h2, .ref h3, .ref h4, .ref h5, .ref h6, .ref h7, .ref h8, .ref h9, .ref h10, .ref h11, .ref h12, .ref h13, .ref h14, .ref h15, .int (-1), .int 0, .int (-1), .int (-1)])), (h13, .inl (w0, 8, .inl (upd (upd (upd (upd (upd (upd (upd (upd (fun _ => 0) 0 (-1)) 1 (-1)) 2 (-1)) 3 (-1)) 4 (-1)) 5 (-1)) 6 (-1)) 7 (-1)))), (h2, .inr (5, [.ref h16, .ref h17, .ref h18, .ref h19, .ref h20, .int 0, .int 0, .int 0, .int 2, .int 0, .int 0, .int 0])), (h3, .inr (5, [.ref h21, .ref h22, .ref h23, .ref h24, .ref h25, .int 0, .int 0, .int 0, .int 2, .int 0, .int 0, .int 0]))] H := hP
  have hD : va_D A [(h0, .inr (10, [.ref h1, .ref h2, .ref h3, .ref h4, .ref h5, .ref h6, .ref h7, .ref h8, .ref h9, .ref h10, .ref h11, .ref h12, .ref h13, .ref h14, .ref h15, .int (-1), .int 0, .int (-1), .int (-1)])), (h13, .inl (w0, 8, .inl (upd (upd (upd (upd (upd (upd (upd (upd (fun _ => 0) 0 (-1)) 1 (-1)) 2 (-1)) 3 (-1)) 4 (-1)) 5 (-1)) 6 (-1)) 7 (-1)))), (h2, .inr (5, [.ref h16, .ref h17, .ref h18, .ref h19, .ref h20, .int 0, .int 0, .int 0, .int 2, .int 0, .int 0, .int 0])), (h3, .inr (5, [.ref h21, .ref h22, .ref h23, .ref h24, .ref h25, .int 0, .int 0, .int 0, .int 2, .int 0, .int 0, .int 0]))] := hD
  refine zz_top (v := 0) hw ?_
  refine lv_if_eq (tgt := 58) hx hb dX11_rounds_40 (by decide) (fun _ => ?_) (fun c7 => absurd (by decide) c7)
  refine lv_iconst (v := (-1)) hx hb dX11_rounds_58 (by decide) ?_
  refine va_iast hx hb hK hP hD hS 1 0 rfl rfl (i := 1) (zz_in (by decide)) dX11_rounds_59 (fun H locs hP hD hS => ?_)
  have hP : va_P (dC, dI) vwCl [(h0, .inr (10, [.ref h1, .ref h2, .ref h3, .ref h4, .ref h5, .ref h6, .ref h7, .ref h8, .ref h9, .ref h10, .ref h11, .ref h12, .ref h13, .ref h14, .ref h15, .int (-1), .int 0, .int (-1), .int (-1)])), (h13, .inl (w0, 8, .inl (upd (upd (upd (upd (upd (upd (upd (upd (upd (fun _ => 0) 0 (-1)) 1 (-1)) 2 (-1)) 3 (-1)) 4 (-1)) 5 (-1)) 6 (-1)) 7 (-1)) 1 (-1)))), (h2, .inr (5, [.ref h16, .ref h17, .ref h18, .ref h19, .ref h20, .int 0, .int 0, .int 0, .int 2, .int 0, .int 0, .int 0])), (h3, .inr (5, [.ref h21, .ref h22, .ref h23, .ref h24, .ref h25, .int 0, .int 0, .int 0, .int 2, .int 0, .int 0, .int 0]))] H := hP
  have hD : va_D A [(h0, .inr (10, [.ref h1, .ref h2, .ref h3, .ref h4, .ref h5, .ref h6, .ref h7, .ref h8, .ref h9, .ref h10, .ref h11, .ref h12, .ref h13, .ref h14, .ref h15, .int (-1), .int 0, .int (-1), .int (-1)])), (h13, .inl (w0, 8, .inl (upd (upd (upd (upd (upd (upd (upd (upd (upd (fun _ => 0) 0 (-1)) 1 (-1)) 2 (-1)) 3 (-1)) 4 (-1)) 5 (-1)) 6 (-1)) 7 (-1)) 1 (-1)))), (h2, .inr (5, [.ref h16, .ref h17, .ref h18, .ref h19, .ref h20, .int 0, .int 0, .int 0, .int 2, .int 0, .int 0, .int 0])), (h3, .inr (5, [.ref h21, .ref h22, .ref h23, .ref h24, .ref h25, .int 0, .int 0, .int 0, .int 2, .int 0, .int 0, .int 0]))] := hD
  rw [zz_sw (f := (upd (upd (upd (upd (upd (upd (upd (upd (fun _ => 0) 0 (-1)) 1 (-1)) 2 (-1)) 3 (-1)) 4 (-1)) 5 (-1)) 6 (-1)) 7 (-1))) (i := 1) (v := (-1)) rfl] at hP hD
  have hP : va_P (dC, dI) vwCl [(h0, .inr (10, [.ref h1, .ref h2, .ref h3, .ref h4, .ref h5, .ref h6, .ref h7, .ref h8, .ref h9, .ref h10, .ref h11, .ref h12, .ref h13, .ref h14, .ref h15, .int (-1), .int 0, .int (-1), .int (-1)])), (h13, .inl (w0, 8, .inl (upd (upd (upd (upd (upd (upd (upd (upd (fun _ => 0) 0 (-1)) 1 (-1)) 2 (-1)) 3 (-1)) 4 (-1)) 5 (-1)) 6 (-1)) 7 (-1)))), (h2, .inr (5, [.ref h16, .ref h17, .ref h18, .ref h19, .ref h20, .int 0, .int 0, .int 0, .int 2, .int 0, .int 0, .int 0])), (h3, .inr (5, [.ref h21, .ref h22, .ref h23, .ref h24, .ref h25, .int 0, .int 0, .int 0, .int 2, .int 0, .int 0, .int 0]))] H := hP
  have hD : va_D A [(h0, .inr (10, [.ref h1, .ref h2, .ref h3, .ref h4, .ref h5, .ref h6, .ref h7, .ref h8, .ref h9, .ref h10, .ref h11, .ref h12, .ref h13, .ref h14, .ref h15, .int (-1), .int 0, .int (-1), .int (-1)])), (h13, .inl (w0, 8, .inl (upd (upd (upd (upd (upd (upd (upd (upd (fun _ => 0) 0 (-1)) 1 (-1)) 2 (-1)) 3 (-1)) 4 (-1)) 5 (-1)) 6 (-1)) 7 (-1)))), (h2, .inr (5, [.ref h16, .ref h17, .ref h18, .ref h19, .ref h20, .int 0, .int 0, .int 0, .int 2, .int 0, .int 0, .int 0])), (h3, .inr (5, [.ref h21, .ref h22, .ref h23, .ref h24, .ref h25, .int 0, .int 0, .int 0, .int 2, .int 0, .int 0, .int 0]))] := hD
  refine lv_iinc (v := 2) (lv' := [(2, .int 2), (1, .int 1), (0, .ref h0)]) hx hb dX11_rounds_60 hl (k := 0) rfl (by decide) (by decide) rfl (fun ls hl => ?_)
  refine lv_goto (tgt := 21) hx hb dX11_rounds_63 (by decide) ?_
  refine lv_iload_n hx hb dX11_rounds_21 rfl (lv_at hl 0 rfl) ?_
  refine lv_bipush (v := 8) hx hb dX11_rounds_22 (by decide) ?_
  refine lv_icmp_ge (tgt := 66) hx hb dX11_rounds_24 (by decide) (fun c8 => absurd c8 (by decide)) (fun _ => ?_)
  refine lv_aload_n hx hb dX11_rounds_27 rfl (lv_at hl 2 rfl) ?_
  refine va_get (D := (dC, dI)) (ci := 10) (v := .ref h13) (C := RX11) (T := TX11) (N := 19) hx hb hts ii_X11_rounds_X11 hown hK hP 0 rfl rfl 12 (by decide) (hts _ mm_X11_rounds_3) (fun _ h9 => h9) rfl dX11_rounds_28 ?_
  refine lv_iload_n hx hb dX11_rounds_31 rfl (lv_at hl 0 rfl) ?_
  refine lv_aload_n hx hb dX11_rounds_32 rfl (lv_at hl 2 rfl) ?_
  refine va_get (D := (dC, dI)) (ci := 10) (v := .ref h3) (C := RX11) (T := TX11) (N := 19) hx hb hts ii_X11_rounds_X11 hown hK hP 0 rfl rfl 2 (by decide) (hts _ mm_X11_rounds_1) (fun _ h9 => h9) rfl dX11_rounds_33 ?_
  refine lv_iload_n hx hb dX11_rounds_36 rfl (lv_at hl 0 rfl) ?_
  have hPc := hP.sub (ws' := [(h3, .inr (5, [.ref h21, .ref h22, .ref h23, .ref h24, .ref h25, .int 0, .int 0, .int 0, .int 2, .int 0, .int 0, .int 0]))]) [3] rfl
  have hDc := hD.sub (ws' := [(h3, .inr (5, [.ref h21, .ref h22, .ref h23, .ref h24, .ref h25, .int 0, .int 0, .int 0, .int 2, .int 0, .int 0, .int 0]))]) [3] (by decide) rfl
  have hKc := hK.sub (tys' := []) [] rfl
  have hFc := va_free (wc := [(h3, .inr (5, [.ref h21, .ref h22, .ref h23, .ref h24, .ref h25, .int 0, .int 0, .int 0, .int 2, .int 0, .int 0, .int 0]))]) hD hS hA [3] rfl
  refine va_calli (va_runV (As := [.int 2]) (rest := [.int 2, .ref h13]) ⟨hx, hb, hml, hown, hts⟩ (k_X4_hasPerson_3 l dC dI ad h3 h21 h22 h23 h24 h25 H.size) (cwV 1 hts gX11_rounds_X4_hasPerson rfl rfl rfl (by decide +kernel) ⟨Nat.le_of_ble_eq_true rfl, Nat.le_of_ble_eq_true rfl⟩) ⟨fun a U g mk q => ⟨q.1, CP.blind q.2⟩, va_recv hKc hPc (ci := 5) (q0 := 0) rfl rfl, fun U hU hW => ⟨rfl, CP.of hPc hKc hDc hE hS hFc hU hW⟩⟩ rfl rfl hl.1 rfl (lv_room (Nat.le_of_ble_eq_true rfl)) dX11_rounds_37 ⟨Nat.le_of_ble_eq_true rfl, Nat.le_of_ble_eq_true rfl⟩) hS (fun q _ h => hFc q h) hFc (fun r9 u t H1 locs ht hvm hw hB hz1 hk1 hS => ?_)
  obtain ⟨hP1, hK1, hD1⟩ := hB
  rw [ht] at hP1
  obtain ⟨hP, hD⟩ := va_join (wr := [(h0, .inr (10, [.ref h1, .ref h2, .ref h3, .ref h4, .ref h5, .ref h6, .ref h7, .ref h8, .ref h9, .ref h10, .ref h11, .ref h12, .ref h13, .ref h14, .ref h15, .int (-1), .int 0, .int (-1), .int (-1)])), (h13, .inl (w0, 8, .inl (upd (upd (upd (upd (upd (upd (upd (upd (fun _ => 0) 0 (-1)) 1 (-1)) 2 (-1)) 3 (-1)) 4 (-1)) 5 (-1)) 6 (-1)) 7 (-1)))), (h2, .inr (5, [.ref h16, .ref h17, .ref h18, .ref h19, .ref h20, .int 0, .int 0, .int 0, .int 2, .int 0, .int 0, .int 0]))]) (w1 := [(h3, .inr (5, [.ref h21, .ref h22, .ref h23, .ref h24, .ref h25, .int 0, .int 0, .int 0, .int 2, .int 0, .int 0, .int 0]))]) hP hD [3] [0, 1, 2] rfl rfl (by decide) (by decide) hk1 hFc hP1 hD1
  generalize H1 = H at hP hS ⊢
  clear hPc hDc hKc hFc hP1 hD1 hK1 hk1 hz1
  have hP : va_P (dC, dI) vwCl [(h0, .inr (10, [.ref h1, .ref h2, .ref h3, .ref h4, .ref h5, .ref h6, .ref h7, .ref h8, .ref h9, .ref h10, .ref h11, .ref h12, .ref h13, .ref h14, .ref h15, .int (-1), .int 0, .int (-1), .int (-1)])), (h13, .inl (w0, 8, .inl (upd (upd (upd (upd (upd (upd (upd (upd (fun _ => 0) 0 (-1)) 1 (-1)) 2 (-1)) 3 (-1)) 4 (-1)) 5 (-1)) 6 (-1)) 7 (-1)))), (h2, .inr (5, [.ref h16, .ref h17, .ref h18, .ref h19, .ref h20, .int 0, .int 0, .int 0, .int 2, .int 0, .int 0, .int 0])), (h3, .inr (5, [.ref h21, .ref h22, .ref h23, .ref h24, .ref h25, .int 0, .int 0, .int 0, .int 2, .int 0, .int 0, .int 0]))] H := hP
  have hD : va_D A [(h0, .inr (10, [.ref h1, .ref h2, .ref h3, .ref h4, .ref h5, .ref h6, .ref h7, .ref h8, .ref h9, .ref h10, .ref h11, .ref h12, .ref h13, .ref h14, .ref h15, .int (-1), .int 0, .int (-1), .int (-1)])), (h13, .inl (w0, 8, .inl (upd (upd (upd (upd (upd (upd (upd (upd (fun _ => 0) 0 (-1)) 1 (-1)) 2 (-1)) 3 (-1)) 4 (-1)) 5 (-1)) 6 (-1)) 7 (-1)))), (h2, .inr (5, [.ref h16, .ref h17, .ref h18, .ref h19, .ref h20, .int 0, .int 0, .int 0, .int 2, .int 0, .int 0, .int 0])), (h3, .inr (5, [.ref h21, .ref h22, .ref h23, .ref h24, .ref h25, .int 0, .int 0, .int 0, .int 2, .int 0, .int 0, .int 0]))] := hD
  refine zz_top (v := 0) hw ?_
  refine lv_if_eq (tgt := 58) hx hb dX11_rounds_40 (by decide) (fun _ => ?_) (fun c10 => absurd (by decide) c10)
  refine lv_iconst (v := (-1)) hx hb dX11_rounds_58 (by decide) ?_
  refine va_iast hx hb hK hP hD hS 1 0 rfl rfl (i := 2) (zz_in (by decide)) dX11_rounds_59 (fun H locs hP hD hS => ?_)
  have hP : va_P (dC, dI) vwCl [(h0, .inr (10, [.ref h1, .ref h2, .ref h3, .ref h4, .ref h5, .ref h6, .ref h7, .ref h8, .ref h9, .ref h10, .ref h11, .ref h12, .ref h13, .ref h14, .ref h15, .int (-1), .int 0, .int (-1), .int (-1)])), (h13, .inl (w0, 8, .inl (upd (upd (upd (upd (upd (upd (upd (upd (upd (fun _ => 0) 0 (-1)) 1 (-1)) 2 (-1)) 3 (-1)) 4 (-1)) 5 (-1)) 6 (-1)) 7 (-1)) 2 (-1)))), (h2, .inr (5, [.ref h16, .ref h17, .ref h18, .ref h19, .ref h20, .int 0, .int 0, .int 0, .int 2, .int 0, .int 0, .int 0])), (h3, .inr (5, [.ref h21, .ref h22, .ref h23, .ref h24, .ref h25, .int 0, .int 0, .int 0, .int 2, .int 0, .int 0, .int 0]))] H := hP
  have hD : va_D A [(h0, .inr (10, [.ref h1, .ref h2, .ref h3, .ref h4, .ref h5, .ref h6, .ref h7, .ref h8, .ref h9, .ref h10, .ref h11, .ref h12, .ref h13, .ref h14, .ref h15, .int (-1), .int 0, .int (-1), .int (-1)])), (h13, .inl (w0, 8, .inl (upd (upd (upd (upd (upd (upd (upd (upd (upd (fun _ => 0) 0 (-1)) 1 (-1)) 2 (-1)) 3 (-1)) 4 (-1)) 5 (-1)) 6 (-1)) 7 (-1)) 2 (-1)))), (h2, .inr (5, [.ref h16, .ref h17, .ref h18, .ref h19, .ref h20, .int 0, .int 0, .int 0, .int 2, .int 0, .int 0, .int 0])), (h3, .inr (5, [.ref h21, .ref h22, .ref h23, .ref h24, .ref h25, .int 0, .int 0, .int 0, .int 2, .int 0, .int 0, .int 0]))] := hD
  rw [zz_sw (f := (upd (upd (upd (upd (upd (upd (upd (upd (fun _ => 0) 0 (-1)) 1 (-1)) 2 (-1)) 3 (-1)) 4 (-1)) 5 (-1)) 6 (-1)) 7 (-1))) (i := 2) (v := (-1)) rfl] at hP hD
  have hP : va_P (dC, dI) vwCl [(h0, .inr (10, [.ref h1, .ref h2, .ref h3, .ref h4, .ref h5, .ref h6, .ref h7, .ref h8, .ref h9, .ref h10, .ref h11, .ref h12, .ref h13, .ref h14, .ref h15, .int (-1), .int 0, .int (-1), .int (-1)])), (h13, .inl (w0, 8, .inl (upd (upd (upd (upd (upd (upd (upd (upd (fun _ => 0) 0 (-1)) 1 (-1)) 2 (-1)) 3 (-1)) 4 (-1)) 5 (-1)) 6 (-1)) 7 (-1)))), (h2, .inr (5, [.ref h16, .ref h17, .ref h18, .ref h19, .ref h20, .int 0, .int 0, .int 0, .int 2, .int 0, .int 0, .int 0])), (h3, .inr (5, [.ref h21, .ref h22, .ref h23, .ref h24, .ref h25, .int 0, .int 0, .int 0, .int 2, .int 0, .int 0, .int 0]))] H := hP
  have hD : va_D A [(h0, .inr (10, [.ref h1, .ref h2, .ref h3, .ref h4, .ref h5, .ref h6, .ref h7, .ref h8, .ref h9, .ref h10, .ref h11, .ref h12, .ref h13, .ref h14, .ref h15, .int (-1), .int 0, .int (-1), .int (-1)])), (h13, .inl (w0, 8, .inl (upd (upd (upd (upd (upd (upd (upd (upd (fun _ => 0) 0 (-1)) 1 (-1)) 2 (-1)) 3 (-1)) 4 (-1)) 5 (-1)) 6 (-1)) 7 (-1)))), (h2, .inr (5, [.ref h16, .ref h17, .ref h18, .ref h19, .ref h20, .int 0, .int 0, .int 0, .int 2, .int 0, .int 0, .int 0])), (h3, .inr (5, [.ref h21, .ref h22, .ref h23, .ref h24, .ref h25, .int 0, .int 0, .int 0, .int 2, .int 0, .int 0, .int 0]))] := hD
  refine lv_iinc (v := 3) (lv' := [(2, .int 3), (1, .int 1), (0, .ref h0)]) hx hb dX11_rounds_60 hl (k := 0) rfl (by decide) (by decide) rfl (fun ls hl => ?_)
  refine lv_goto (tgt := 21) hx hb dX11_rounds_63 (by decide) ?_
  refine lv_iload_n hx hb dX11_rounds_21 rfl (lv_at hl 0 rfl) ?_
  refine lv_bipush (v := 8) hx hb dX11_rounds_22 (by decide) ?_
  refine lv_icmp_ge (tgt := 66) hx hb dX11_rounds_24 (by decide) (fun c11 => absurd c11 (by decide)) (fun _ => ?_)
  refine lv_aload_n hx hb dX11_rounds_27 rfl (lv_at hl 2 rfl) ?_
  refine va_get (D := (dC, dI)) (ci := 10) (v := .ref h13) (C := RX11) (T := TX11) (N := 19) hx hb hts ii_X11_rounds_X11 hown hK hP 0 rfl rfl 12 (by decide) (hts _ mm_X11_rounds_3) (fun _ h9 => h9) rfl dX11_rounds_28 ?_
  refine lv_iload_n hx hb dX11_rounds_31 rfl (lv_at hl 0 rfl) ?_
  refine lv_aload_n hx hb dX11_rounds_32 rfl (lv_at hl 2 rfl) ?_
  refine va_get (D := (dC, dI)) (ci := 10) (v := .ref h3) (C := RX11) (T := TX11) (N := 19) hx hb hts ii_X11_rounds_X11 hown hK hP 0 rfl rfl 2 (by decide) (hts _ mm_X11_rounds_1) (fun _ h9 => h9) rfl dX11_rounds_33 ?_
  refine lv_iload_n hx hb dX11_rounds_36 rfl (lv_at hl 0 rfl) ?_
  have hPc := hP.sub (ws' := [(h3, .inr (5, [.ref h21, .ref h22, .ref h23, .ref h24, .ref h25, .int 0, .int 0, .int 0, .int 2, .int 0, .int 0, .int 0]))]) [3] rfl
  have hDc := hD.sub (ws' := [(h3, .inr (5, [.ref h21, .ref h22, .ref h23, .ref h24, .ref h25, .int 0, .int 0, .int 0, .int 2, .int 0, .int 0, .int 0]))]) [3] (by decide) rfl
  have hKc := hK.sub (tys' := []) [] rfl
  have hFc := va_free (wc := [(h3, .inr (5, [.ref h21, .ref h22, .ref h23, .ref h24, .ref h25, .int 0, .int 0, .int 0, .int 2, .int 0, .int 0, .int 0]))]) hD hS hA [3] rfl
  refine va_calli (va_runV (As := [.int 3]) (rest := [.int 3, .ref h13]) ⟨hx, hb, hml, hown, hts⟩ (k_X4_hasPerson_4 l dC dI ad h3 h21 h22 h23 h24 h25 H.size) (cwV 1 hts gX11_rounds_X4_hasPerson rfl rfl rfl (by decide +kernel) ⟨Nat.le_of_ble_eq_true rfl, Nat.le_of_ble_eq_true rfl⟩) ⟨fun a U g mk q => ⟨q.1, CP.blind q.2⟩, va_recv hKc hPc (ci := 5) (q0 := 0) rfl rfl, fun U hU hW => ⟨rfl, CP.of hPc hKc hDc hE hS hFc hU hW⟩⟩ rfl rfl hl.1 rfl (lv_room (Nat.le_of_ble_eq_true rfl)) dX11_rounds_37 ⟨Nat.le_of_ble_eq_true rfl, Nat.le_of_ble_eq_true rfl⟩) hS (fun q _ h => hFc q h) hFc (fun r12 u t H1 locs ht hvm hw hB hz1 hk1 hS => ?_)
  obtain ⟨hP1, hK1, hD1⟩ := hB
  rw [ht] at hP1
  obtain ⟨hP, hD⟩ := va_join (wr := [(h0, .inr (10, [.ref h1, .ref h2, .ref h3, .ref h4, .ref h5, .ref h6, .ref h7, .ref h8, .ref h9, .ref h10, .ref h11, .ref h12, .ref h13, .ref h14, .ref h15, .int (-1), .int 0, .int (-1), .int (-1)])), (h13, .inl (w0, 8, .inl (upd (upd (upd (upd (upd (upd (upd (upd (fun _ => 0) 0 (-1)) 1 (-1)) 2 (-1)) 3 (-1)) 4 (-1)) 5 (-1)) 6 (-1)) 7 (-1)))), (h2, .inr (5, [.ref h16, .ref h17, .ref h18, .ref h19, .ref h20, .int 0, .int 0, .int 0, .int 2, .int 0, .int 0, .int 0]))]) (w1 := [(h3, .inr (5, [.ref h21, .ref h22, .ref h23, .ref h24, .ref h25, .int 0, .int 0, .int 0, .int 2, .int 0, .int 0, .int 0]))]) hP hD [3] [0, 1, 2] rfl rfl (by decide) (by decide) hk1 hFc hP1 hD1
  generalize H1 = H at hP hS ⊢
  clear hPc hDc hKc hFc hP1 hD1 hK1 hk1 hz1
  have hP : va_P (dC, dI) vwCl [(h0, .inr (10, [.ref h1, .ref h2, .ref h3, .ref h4, .ref h5, .ref h6, .ref h7, .ref h8, .ref h9, .ref h10, .ref h11, .ref h12, .ref h13, .ref h14, .ref h15, .int (-1), .int 0, .int (-1), .int (-1)])), (h13, .inl (w0, 8, .inl (upd (upd (upd (upd (upd (upd (upd (upd (fun _ => 0) 0 (-1)) 1 (-1)) 2 (-1)) 3 (-1)) 4 (-1)) 5 (-1)) 6 (-1)) 7 (-1)))), (h2, .inr (5, [.ref h16, .ref h17, .ref h18, .ref h19, .ref h20, .int 0, .int 0, .int 0, .int 2, .int 0, .int 0, .int 0])), (h3, .inr (5, [.ref h21, .ref h22, .ref h23, .ref h24, .ref h25, .int 0, .int 0, .int 0, .int 2, .int 0, .int 0, .int 0]))] H := hP
  have hD : va_D A [(h0, .inr (10, [.ref h1, .ref h2, .ref h3, .ref h4, .ref h5, .ref h6, .ref h7, .ref h8, .ref h9, .ref h10, .ref h11, .ref h12, .ref h13, .ref h14, .ref h15, .int (-1), .int 0, .int (-1), .int (-1)])), (h13, .inl (w0, 8, .inl (upd (upd (upd (upd (upd (upd (upd (upd (fun _ => 0) 0 (-1)) 1 (-1)) 2 (-1)) 3 (-1)) 4 (-1)) 5 (-1)) 6 (-1)) 7 (-1)))), (h2, .inr (5, [.ref h16, .ref h17, .ref h18, .ref h19, .ref h20, .int 0, .int 0, .int 0, .int 2, .int 0, .int 0, .int 0])), (h3, .inr (5, [.ref h21, .ref h22, .ref h23, .ref h24, .ref h25, .int 0, .int 0, .int 0, .int 2, .int 0, .int 0, .int 0]))] := hD
  refine zz_top (v := 0) hw ?_
  refine lv_if_eq (tgt := 58) hx hb dX11_rounds_40 (by decide) (fun _ => ?_) (fun c13 => absurd (by decide) c13)
  refine lv_iconst (v := (-1)) hx hb dX11_rounds_58 (by decide) ?_
  refine va_iast hx hb hK hP hD hS 1 0 rfl rfl (i := 3) (zz_in (by decide)) dX11_rounds_59 (fun H locs hP hD hS => ?_)
  have hP : va_P (dC, dI) vwCl [(h0, .inr (10, [.ref h1, .ref h2, .ref h3, .ref h4, .ref h5, .ref h6, .ref h7, .ref h8, .ref h9, .ref h10, .ref h11, .ref h12, .ref h13, .ref h14, .ref h15, .int (-1), .int 0, .int (-1), .int (-1)])), (h13, .inl (w0, 8, .inl (upd (upd (upd (upd (upd (upd (upd (upd (upd (fun _ => 0) 0 (-1)) 1 (-1)) 2 (-1)) 3 (-1)) 4 (-1)) 5 (-1)) 6 (-1)) 7 (-1)) 3 (-1)))), (h2, .inr (5, [.ref h16, .ref h17, .ref h18, .ref h19, .ref h20, .int 0, .int 0, .int 0, .int 2, .int 0, .int 0, .int 0])), (h3, .inr (5, [.ref h21, .ref h22, .ref h23, .ref h24, .ref h25, .int 0, .int 0, .int 0, .int 2, .int 0, .int 0, .int 0]))] H := hP
  have hD : va_D A [(h0, .inr (10, [.ref h1, .ref h2, .ref h3, .ref h4, .ref h5, .ref h6, .ref h7, .ref h8, .ref h9, .ref h10, .ref h11, .ref h12, .ref h13, .ref h14, .ref h15, .int (-1), .int 0, .int (-1), .int (-1)])), (h13, .inl (w0, 8, .inl (upd (upd (upd (upd (upd (upd (upd (upd (upd (fun _ => 0) 0 (-1)) 1 (-1)) 2 (-1)) 3 (-1)) 4 (-1)) 5 (-1)) 6 (-1)) 7 (-1)) 3 (-1)))), (h2, .inr (5, [.ref h16, .ref h17, .ref h18, .ref h19, .ref h20, .int 0, .int 0, .int 0, .int 2, .int 0, .int 0, .int 0])), (h3, .inr (5, [.ref h21, .ref h22, .ref h23, .ref h24, .ref h25, .int 0, .int 0, .int 0, .int 2, .int 0, .int 0, .int 0]))] := hD
  rw [zz_sw (f := (upd (upd (upd (upd (upd (upd (upd (upd (fun _ => 0) 0 (-1)) 1 (-1)) 2 (-1)) 3 (-1)) 4 (-1)) 5 (-1)) 6 (-1)) 7 (-1))) (i := 3) (v := (-1)) rfl] at hP hD
  have hP : va_P (dC, dI) vwCl [(h0, .inr (10, [.ref h1, .ref h2, .ref h3, .ref h4, .ref h5, .ref h6, .ref h7, .ref h8, .ref h9, .ref h10, .ref h11, .ref h12, .ref h13, .ref h14, .ref h15, .int (-1), .int 0, .int (-1), .int (-1)])), (h13, .inl (w0, 8, .inl (upd (upd (upd (upd (upd (upd (upd (upd (fun _ => 0) 0 (-1)) 1 (-1)) 2 (-1)) 3 (-1)) 4 (-1)) 5 (-1)) 6 (-1)) 7 (-1)))), (h2, .inr (5, [.ref h16, .ref h17, .ref h18, .ref h19, .ref h20, .int 0, .int 0, .int 0, .int 2, .int 0, .int 0, .int 0])), (h3, .inr (5, [.ref h21, .ref h22, .ref h23, .ref h24, .ref h25, .int 0, .int 0, .int 0, .int 2, .int 0, .int 0, .int 0]))] H := hP
  have hD : va_D A [(h0, .inr (10, [.ref h1, .ref h2, .ref h3, .ref h4, .ref h5, .ref h6, .ref h7, .ref h8, .ref h9, .ref h10, .ref h11, .ref h12, .ref h13, .ref h14, .ref h15, .int (-1), .int 0, .int (-1), .int (-1)])), (h13, .inl (w0, 8, .inl (upd (upd (upd (upd (upd (upd (upd (upd (fun _ => 0) 0 (-1)) 1 (-1)) 2 (-1)) 3 (-1)) 4 (-1)) 5 (-1)) 6 (-1)) 7 (-1)))), (h2, .inr (5, [.ref h16, .ref h17, .ref h18, .ref h19, .ref h20, .int 0, .int 0, .int 0, .int 2, .int 0, .int 0, .int 0])), (h3, .inr (5, [.ref h21, .ref h22, .ref h23, .ref h24, .ref h25, .int 0, .int 0, .int 0, .int 2, .int 0, .int 0, .int 0]))] := hD
  refine lv_iinc (v := 4) (lv' := [(2, .int 4), (1, .int 1), (0, .ref h0)]) hx hb dX11_rounds_60 hl (k := 0) rfl (by decide) (by decide) rfl (fun ls hl => ?_)
  refine lv_goto (tgt := 21) hx hb dX11_rounds_63 (by decide) ?_
  refine lv_iload_n hx hb dX11_rounds_21 rfl (lv_at hl 0 rfl) ?_
  refine lv_bipush (v := 8) hx hb dX11_rounds_22 (by decide) ?_
  refine lv_icmp_ge (tgt := 66) hx hb dX11_rounds_24 (by decide) (fun c14 => absurd c14 (by decide)) (fun _ => ?_)
  refine lv_aload_n hx hb dX11_rounds_27 rfl (lv_at hl 2 rfl) ?_
  refine va_get (D := (dC, dI)) (ci := 10) (v := .ref h13) (C := RX11) (T := TX11) (N := 19) hx hb hts ii_X11_rounds_X11 hown hK hP 0 rfl rfl 12 (by decide) (hts _ mm_X11_rounds_3) (fun _ h9 => h9) rfl dX11_rounds_28 ?_
  refine lv_iload_n hx hb dX11_rounds_31 rfl (lv_at hl 0 rfl) ?_
  refine lv_aload_n hx hb dX11_rounds_32 rfl (lv_at hl 2 rfl) ?_
  refine va_get (D := (dC, dI)) (ci := 10) (v := .ref h3) (C := RX11) (T := TX11) (N := 19) hx hb hts ii_X11_rounds_X11 hown hK hP 0 rfl rfl 2 (by decide) (hts _ mm_X11_rounds_1) (fun _ h9 => h9) rfl dX11_rounds_33 ?_
  refine lv_iload_n hx hb dX11_rounds_36 rfl (lv_at hl 0 rfl) ?_
  have hPc := hP.sub (ws' := [(h3, .inr (5, [.ref h21, .ref h22, .ref h23, .ref h24, .ref h25, .int 0, .int 0, .int 0, .int 2, .int 0, .int 0, .int 0]))]) [3] rfl
  have hDc := hD.sub (ws' := [(h3, .inr (5, [.ref h21, .ref h22, .ref h23, .ref h24, .ref h25, .int 0, .int 0, .int 0, .int 2, .int 0, .int 0, .int 0]))]) [3] (by decide) rfl
  have hKc := hK.sub (tys' := []) [] rfl
  have hFc := va_free (wc := [(h3, .inr (5, [.ref h21, .ref h22, .ref h23, .ref h24, .ref h25, .int 0, .int 0, .int 0, .int 2, .int 0, .int 0, .int 0]))]) hD hS hA [3] rfl
  refine va_calli (va_runV (As := [.int 4]) (rest := [.int 4, .ref h13]) ⟨hx, hb, hml, hown, hts⟩ (k_X4_hasPerson_5 l dC dI ad h3 h21 h22 h23 h24 h25 H.size) (cwV 1 hts gX11_rounds_X4_hasPerson rfl rfl rfl (by decide +kernel) ⟨Nat.le_of_ble_eq_true rfl, Nat.le_of_ble_eq_true rfl⟩) ⟨fun a U g mk q => ⟨q.1, CP.blind q.2⟩, va_recv hKc hPc (ci := 5) (q0 := 0) rfl rfl, fun U hU hW => ⟨rfl, CP.of hPc hKc hDc hE hS hFc hU hW⟩⟩ rfl rfl hl.1 rfl (lv_room (Nat.le_of_ble_eq_true rfl)) dX11_rounds_37 ⟨Nat.le_of_ble_eq_true rfl, Nat.le_of_ble_eq_true rfl⟩) hS (fun q _ h => hFc q h) hFc (fun r15 u t H1 locs ht hvm hw hB hz1 hk1 hS => ?_)
  obtain ⟨hP1, hK1, hD1⟩ := hB
  rw [ht] at hP1
  obtain ⟨hP, hD⟩ := va_join (wr := [(h0, .inr (10, [.ref h1, .ref h2, .ref h3, .ref h4, .ref h5, .ref h6, .ref h7, .ref h8, .ref h9, .ref h10, .ref h11, .ref h12, .ref h13, .ref h14, .ref h15, .int (-1), .int 0, .int (-1), .int (-1)])), (h13, .inl (w0, 8, .inl (upd (upd (upd (upd (upd (upd (upd (upd (fun _ => 0) 0 (-1)) 1 (-1)) 2 (-1)) 3 (-1)) 4 (-1)) 5 (-1)) 6 (-1)) 7 (-1)))), (h2, .inr (5, [.ref h16, .ref h17, .ref h18, .ref h19, .ref h20, .int 0, .int 0, .int 0, .int 2, .int 0, .int 0, .int 0]))]) (w1 := [(h3, .inr (5, [.ref h21, .ref h22, .ref h23, .ref h24, .ref h25, .int 0, .int 0, .int 0, .int 2, .int 0, .int 0, .int 0]))]) hP hD [3] [0, 1, 2] rfl rfl (by decide) (by decide) hk1 hFc hP1 hD1
  generalize H1 = H at hP hS ⊢
  clear hPc hDc hKc hFc hP1 hD1 hK1 hk1 hz1
  have hP : va_P (dC, dI) vwCl [(h0, .inr (10, [.ref h1, .ref h2, .ref h3, .ref h4, .ref h5, .ref h6, .ref h7, .ref h8, .ref h9, .ref h10, .ref h11, .ref h12, .ref h13, .ref h14, .ref h15, .int (-1), .int 0, .int (-1), .int (-1)])), (h13, .inl (w0, 8, .inl (upd (upd (upd (upd (upd (upd (upd (upd (fun _ => 0) 0 (-1)) 1 (-1)) 2 (-1)) 3 (-1)) 4 (-1)) 5 (-1)) 6 (-1)) 7 (-1)))), (h2, .inr (5, [.ref h16, .ref h17, .ref h18, .ref h19, .ref h20, .int 0, .int 0, .int 0, .int 2, .int 0, .int 0, .int 0])), (h3, .inr (5, [.ref h21, .ref h22, .ref h23, .ref h24, .ref h25, .int 0, .int 0, .int 0, .int 2, .int 0, .int 0, .int 0]))] H := hP
  have hD : va_D A [(h0, .inr (10, [.ref h1, .ref h2, .ref h3, .ref h4, .ref h5, .ref h6, .ref h7, .ref h8, .ref h9, .ref h10, .ref h11, .ref h12, .ref h13, .ref h14, .ref h15, .int (-1), .int 0, .int (-1), .int (-1)])), (h13, .inl (w0, 8, .inl (upd (upd (upd (upd (upd (upd (upd (upd (fun _ => 0) 0 (-1)) 1 (-1)) 2 (-1)) 3 (-1)) 4 (-1)) 5 (-1)) 6 (-1)) 7 (-1)))), (h2, .inr (5, [.ref h16, .ref h17, .ref h18, .ref h19, .ref h20, .int 0, .int 0, .int 0, .int 2, .int 0, .int 0, .int 0])), (h3, .inr (5, [.ref h21, .ref h22, .ref h23, .ref h24, .ref h25, .int 0, .int 0, .int 0, .int 2, .int 0, .int 0, .int 0]))] := hD
  refine zz_top (v := 0) hw ?_
  refine lv_if_eq (tgt := 58) hx hb dX11_rounds_40 (by decide) (fun _ => ?_) (fun c16 => absurd (by decide) c16)
  refine lv_iconst (v := (-1)) hx hb dX11_rounds_58 (by decide) ?_
  refine va_iast hx hb hK hP hD hS 1 0 rfl rfl (i := 4) (zz_in (by decide)) dX11_rounds_59 (fun H locs hP hD hS => ?_)
  have hP : va_P (dC, dI) vwCl [(h0, .inr (10, [.ref h1, .ref h2, .ref h3, .ref h4, .ref h5, .ref h6, .ref h7, .ref h8, .ref h9, .ref h10, .ref h11, .ref h12, .ref h13, .ref h14, .ref h15, .int (-1), .int 0, .int (-1), .int (-1)])), (h13, .inl (w0, 8, .inl (upd (upd (upd (upd (upd (upd (upd (upd (upd (fun _ => 0) 0 (-1)) 1 (-1)) 2 (-1)) 3 (-1)) 4 (-1)) 5 (-1)) 6 (-1)) 7 (-1)) 4 (-1)))), (h2, .inr (5, [.ref h16, .ref h17, .ref h18, .ref h19, .ref h20, .int 0, .int 0, .int 0, .int 2, .int 0, .int 0, .int 0])), (h3, .inr (5, [.ref h21, .ref h22, .ref h23, .ref h24, .ref h25, .int 0, .int 0, .int 0, .int 2, .int 0, .int 0, .int 0]))] H := hP
  have hD : va_D A [(h0, .inr (10, [.ref h1, .ref h2, .ref h3, .ref h4, .ref h5, .ref h6, .ref h7, .ref h8, .ref h9, .ref h10, .ref h11, .ref h12, .ref h13, .ref h14, .ref h15, .int (-1), .int 0, .int (-1), .int (-1)])), (h13, .inl (w0, 8, .inl (upd (upd (upd (upd (upd (upd (upd (upd (upd (fun _ => 0) 0 (-1)) 1 (-1)) 2 (-1)) 3 (-1)) 4 (-1)) 5 (-1)) 6 (-1)) 7 (-1)) 4 (-1)))), (h2, .inr (5, [.ref h16, .ref h17, .ref h18, .ref h19, .ref h20, .int 0, .int 0, .int 0, .int 2, .int 0, .int 0, .int 0])), (h3, .inr (5, [.ref h21, .ref h22, .ref h23, .ref h24, .ref h25, .int 0, .int 0, .int 0, .int 2, .int 0, .int 0, .int 0]))] := hD
  rw [zz_sw (f := (upd (upd (upd (upd (upd (upd (upd (upd (fun _ => 0) 0 (-1)) 1 (-1)) 2 (-1)) 3 (-1)) 4 (-1)) 5 (-1)) 6 (-1)) 7 (-1))) (i := 4) (v := (-1)) rfl] at hP hD
  have hP : va_P (dC, dI) vwCl [(h0, .inr (10, [.ref h1, .ref h2, .ref h3, .ref h4, .ref h5, .ref h6, .ref h7, .ref h8, .ref h9, .ref h10, .ref h11, .ref h12, .ref h13, .ref h14, .ref h15, .int (-1), .int 0, .int (-1), .int (-1)])), (h13, .inl (w0, 8, .inl (upd (upd (upd (upd (upd (upd (upd (upd (fun _ => 0) 0 (-1)) 1 (-1)) 2 (-1)) 3 (-1)) 4 (-1)) 5 (-1)) 6 (-1)) 7 (-1)))), (h2, .inr (5, [.ref h16, .ref h17, .ref h18, .ref h19, .ref h20, .int 0, .int 0, .int 0, .int 2, .int 0, .int 0, .int 0])), (h3, .inr (5, [.ref h21, .ref h22, .ref h23, .ref h24, .ref h25, .int 0, .int 0, .int 0, .int 2, .int 0, .int 0, .int 0]))] H := hP
  have hD : va_D A [(h0, .inr (10, [.ref h1, .ref h2, .ref h3, .ref h4, .ref h5, .ref h6, .ref h7, .ref h8, .ref h9, .ref h10, .ref h11, .ref h12, .ref h13, .ref h14, .ref h15, .int (-1), .int 0, .int (-1), .int (-1)])), (h13, .inl (w0, 8, .inl (upd (upd (upd (upd (upd (upd (upd (upd (fun _ => 0) 0 (-1)) 1 (-1)) 2 (-1)) 3 (-1)) 4 (-1)) 5 (-1)) 6 (-1)) 7 (-1)))), (h2, .inr (5, [.ref h16, .ref h17, .ref h18, .ref h19, .ref h20, .int 0, .int 0, .int 0, .int 2, .int 0, .int 0, .int 0])), (h3, .inr (5, [.ref h21, .ref h22, .ref h23, .ref h24, .ref h25, .int 0, .int 0, .int 0, .int 2, .int 0, .int 0, .int 0]))] := hD
  refine lv_iinc (v := 5) (lv' := [(2, .int 5), (1, .int 1), (0, .ref h0)]) hx hb dX11_rounds_60 hl (k := 0) rfl (by decide) (by decide) rfl (fun ls hl => ?_)
  refine lv_goto (tgt := 21) hx hb dX11_rounds_63 (by decide) ?_
  refine lv_iload_n hx hb dX11_rounds_21 rfl (lv_at hl 0 rfl) ?_
  refine lv_bipush (v := 8) hx hb dX11_rounds_22 (by decide) ?_
  refine lv_icmp_ge (tgt := 66) hx hb dX11_rounds_24 (by decide) (fun c17 => absurd c17 (by decide)) (fun _ => ?_)
  refine lv_aload_n hx hb dX11_rounds_27 rfl (lv_at hl 2 rfl) ?_
  refine va_get (D := (dC, dI)) (ci := 10) (v := .ref h13) (C := RX11) (T := TX11) (N := 19) hx hb hts ii_X11_rounds_X11 hown hK hP 0 rfl rfl 12 (by decide) (hts _ mm_X11_rounds_3) (fun _ h9 => h9) rfl dX11_rounds_28 ?_
  refine lv_iload_n hx hb dX11_rounds_31 rfl (lv_at hl 0 rfl) ?_
  refine lv_aload_n hx hb dX11_rounds_32 rfl (lv_at hl 2 rfl) ?_
  refine va_get (D := (dC, dI)) (ci := 10) (v := .ref h3) (C := RX11) (T := TX11) (N := 19) hx hb hts ii_X11_rounds_X11 hown hK hP 0 rfl rfl 2 (by decide) (hts _ mm_X11_rounds_1) (fun _ h9 => h9) rfl dX11_rounds_33 ?_
  refine lv_iload_n hx hb dX11_rounds_36 rfl (lv_at hl 0 rfl) ?_
  have hPc := hP.sub (ws' := [(h3, .inr (5, [.ref h21, .ref h22, .ref h23, .ref h24, .ref h25, .int 0, .int 0, .int 0, .int 2, .int 0, .int 0, .int 0]))]) [3] rfl
  have hDc := hD.sub (ws' := [(h3, .inr (5, [.ref h21, .ref h22, .ref h23, .ref h24, .ref h25, .int 0, .int 0, .int 0, .int 2, .int 0, .int 0, .int 0]))]) [3] (by decide) rfl
  have hKc := hK.sub (tys' := []) [] rfl
  have hFc := va_free (wc := [(h3, .inr (5, [.ref h21, .ref h22, .ref h23, .ref h24, .ref h25, .int 0, .int 0, .int 0, .int 2, .int 0, .int 0, .int 0]))]) hD hS hA [3] rfl
  refine va_calli (va_runV (As := [.int 5]) (rest := [.int 5, .ref h13]) ⟨hx, hb, hml, hown, hts⟩ (k_X4_hasPerson_6 l dC dI ad h3 h21 h22 h23 h24 h25 H.size) (cwV 1 hts gX11_rounds_X4_hasPerson rfl rfl rfl (by decide +kernel) ⟨Nat.le_of_ble_eq_true rfl, Nat.le_of_ble_eq_true rfl⟩) ⟨fun a U g mk q => ⟨q.1, CP.blind q.2⟩, va_recv hKc hPc (ci := 5) (q0 := 0) rfl rfl, fun U hU hW => ⟨rfl, CP.of hPc hKc hDc hE hS hFc hU hW⟩⟩ rfl rfl hl.1 rfl (lv_room (Nat.le_of_ble_eq_true rfl)) dX11_rounds_37 ⟨Nat.le_of_ble_eq_true rfl, Nat.le_of_ble_eq_true rfl⟩) hS (fun q _ h => hFc q h) hFc (fun r18 u t H1 locs ht hvm hw hB hz1 hk1 hS => ?_)
  obtain ⟨hP1, hK1, hD1⟩ := hB
  rw [ht] at hP1
  obtain ⟨hP, hD⟩ := va_join (wr := [(h0, .inr (10, [.ref h1, .ref h2, .ref h3, .ref h4, .ref h5, .ref h6, .ref h7, .ref h8, .ref h9, .ref h10, .ref h11, .ref h12, .ref h13, .ref h14, .ref h15, .int (-1), .int 0, .int (-1), .int (-1)])), (h13, .inl (w0, 8, .inl (upd (upd (upd (upd (upd (upd (upd (upd (fun _ => 0) 0 (-1)) 1 (-1)) 2 (-1)) 3 (-1)) 4 (-1)) 5 (-1)) 6 (-1)) 7 (-1)))), (h2, .inr (5, [.ref h16, .ref h17, .ref h18, .ref h19, .ref h20, .int 0, .int 0, .int 0, .int 2, .int 0, .int 0, .int 0]))]) (w1 := [(h3, .inr (5, [.ref h21, .ref h22, .ref h23, .ref h24, .ref h25, .int 0, .int 0, .int 0, .int 2, .int 0, .int 0, .int 0]))]) hP hD [3] [0, 1, 2] rfl rfl (by decide) (by decide) hk1 hFc hP1 hD1
  generalize H1 = H at hP hS ⊢
  clear hPc hDc hKc hFc hP1 hD1 hK1 hk1 hz1
  have hP : va_P (dC, dI) vwCl [(h0, .inr (10, [.ref h1, .ref h2, .ref h3, .ref h4, .ref h5, .ref h6, .ref h7, .ref h8, .ref h9, .ref h10, .ref h11, .ref h12, .ref h13, .ref h14, .ref h15, .int (-1), .int 0, .int (-1), .int (-1)])), (h13, .inl (w0, 8, .inl (upd (upd (upd (upd (upd (upd (upd (upd (fun _ => 0) 0 (-1)) 1 (-1)) 2 (-1)) 3 (-1)) 4 (-1)) 5 (-1)) 6 (-1)) 7 (-1)))), (h2, .inr (5, [.ref h16, .ref h17, .ref h18, .ref h19, .ref h20, .int 0, .int 0, .int 0, .int 2, .int 0, .int 0, .int 0])), (h3, .inr (5, [.ref h21, .ref h22, .ref h23, .ref h24, .ref h25, .int 0, .int 0, .int 0, .int 2, .int 0, .int 0, .int 0]))] H := hP
  have hD : va_D A [(h0, .inr (10, [.ref h1, .ref h2, .ref h3, .ref h4, .ref h5, .ref h6, .ref h7, .ref h8, .ref h9, .ref h10, .ref h11, .ref h12, .ref h13, .ref h14, .ref h15, .int (-1), .int 0, .int (-1), .int (-1)])), (h13, .inl (w0, 8, .inl (upd (upd (upd (upd (upd (upd (upd (upd (fun _ => 0) 0 (-1)) 1 (-1)) 2 (-1)) 3 (-1)) 4 (-1)) 5 (-1)) 6 (-1)) 7 (-1)))), (h2, .inr (5, [.ref h16, .ref h17, .ref h18, .ref h19, .ref h20, .int 0, .int 0, .int 0, .int 2, .int 0, .int 0, .int 0])), (h3, .inr (5, [.ref h21, .ref h22, .ref h23, .ref h24, .ref h25, .int 0, .int 0, .int 0, .int 2, .int 0, .int 0, .int 0]))] := hD
  refine zz_top (v := 0) hw ?_
  refine lv_if_eq (tgt := 58) hx hb dX11_rounds_40 (by decide) (fun _ => ?_) (fun c19 => absurd (by decide) c19)
  refine lv_iconst (v := (-1)) hx hb dX11_rounds_58 (by decide) ?_
  refine va_iast hx hb hK hP hD hS 1 0 rfl rfl (i := 5) (zz_in (by decide)) dX11_rounds_59 (fun H locs hP hD hS => ?_)
  have hP : va_P (dC, dI) vwCl [(h0, .inr (10, [.ref h1, .ref h2, .ref h3, .ref h4, .ref h5, .ref h6, .ref h7, .ref h8, .ref h9, .ref h10, .ref h11, .ref h12, .ref h13, .ref h14, .ref h15, .int (-1), .int 0, .int (-1), .int (-1)])), (h13, .inl (w0, 8, .inl (upd (upd (upd (upd (upd (upd (upd (upd (upd (fun _ => 0) 0 (-1)) 1 (-1)) 2 (-1)) 3 (-1)) 4 (-1)) 5 (-1)) 6 (-1)) 7 (-1)) 5 (-1)))), (h2, .inr (5, [.ref h16, .ref h17, .ref h18, .ref h19, .ref h20, .int 0, .int 0, .int 0, .int 2, .int 0, .int 0, .int 0])), (h3, .inr (5, [.ref h21, .ref h22, .ref h23, .ref h24, .ref h25, .int 0, .int 0, .int 0, .int 2, .int 0, .int 0, .int 0]))] H := hP
  have hD : va_D A [(h0, .inr (10, [.ref h1, .ref h2, .ref h3, .ref h4, .ref h5, .ref h6, .ref h7, .ref h8, .ref h9, .ref h10, .ref h11, .ref h12, .ref h13, .ref h14, .ref h15, .int (-1), .int 0, .int (-1), .int (-1)])), (h13, .inl (w0, 8, .inl (upd (upd (upd (upd (upd (upd (upd (upd (upd (fun _ => 0) 0 (-1)) 1 (-1)) 2 (-1)) 3 (-1)) 4 (-1)) 5 (-1)) 6 (-1)) 7 (-1)) 5 (-1)))), (h2, .inr (5, [.ref h16, .ref h17, .ref h18, .ref h19, .ref h20, .int 0, .int 0, .int 0, .int 2, .int 0, .int 0, .int 0])), (h3, .inr (5, [.ref h21, .ref h22, .ref h23, .ref h24, .ref h25, .int 0, .int 0, .int 0, .int 2, .int 0, .int 0, .int 0]))] := hD
  rw [zz_sw (f := (upd (upd (upd (upd (upd (upd (upd (upd (fun _ => 0) 0 (-1)) 1 (-1)) 2 (-1)) 3 (-1)) 4 (-1)) 5 (-1)) 6 (-1)) 7 (-1))) (i := 5) (v := (-1)) rfl] at hP hD
  have hP : va_P (dC, dI) vwCl [(h0, .inr (10, [.ref h1, .ref h2, .ref h3, .ref h4, .ref h5, .ref h6, .ref h7, .ref h8, .ref h9, .ref h10, .ref h11, .ref h12, .ref h13, .ref h14, .ref h15, .int (-1), .int 0, .int (-1), .int (-1)])), (h13, .inl (w0, 8, .inl (upd (upd (upd (upd (upd (upd (upd (upd (fun _ => 0) 0 (-1)) 1 (-1)) 2 (-1)) 3 (-1)) 4 (-1)) 5 (-1)) 6 (-1)) 7 (-1)))), (h2, .inr (5, [.ref h16, .ref h17, .ref h18, .ref h19, .ref h20, .int 0, .int 0, .int 0, .int 2, .int 0, .int 0, .int 0])), (h3, .inr (5, [.ref h21, .ref h22, .ref h23, .ref h24, .ref h25, .int 0, .int 0, .int 0, .int 2, .int 0, .int 0, .int 0]))] H := hP
  have hD : va_D A [(h0, .inr (10, [.ref h1, .ref h2, .ref h3, .ref h4, .ref h5, .ref h6, .ref h7, .ref h8, .ref h9, .ref h10, .ref h11, .ref h12, .ref h13, .ref h14, .ref h15, .int (-1), .int 0, .int (-1), .int (-1)])), (h13, .inl (w0, 8, .inl (upd (upd (upd (upd (upd (upd (upd (upd (fun _ => 0) 0 (-1)) 1 (-1)) 2 (-1)) 3 (-1)) 4 (-1)) 5 (-1)) 6 (-1)) 7 (-1)))), (h2, .inr (5, [.ref h16, .ref h17, .ref h18, .ref h19, .ref h20, .int 0, .int 0, .int 0, .int 2, .int 0, .int 0, .int 0])), (h3, .inr (5, [.ref h21, .ref h22, .ref h23, .ref h24, .ref h25, .int 0, .int 0, .int 0, .int 2, .int 0, .int 0, .int 0]))] := hD
  refine lv_iinc (v := 6) (lv' := [(2, .int 6), (1, .int 1), (0, .ref h0)]) hx hb dX11_rounds_60 hl (k := 0) rfl (by decide) (by decide) rfl (fun ls hl => ?_)
  refine lv_goto (tgt := 21) hx hb dX11_rounds_63 (by decide) ?_
  refine lv_iload_n hx hb dX11_rounds_21 rfl (lv_at hl 0 rfl) ?_
  refine lv_bipush (v := 8) hx hb dX11_rounds_22 (by decide) ?_
  refine lv_icmp_ge (tgt := 66) hx hb dX11_rounds_24 (by decide) (fun c20 => absurd c20 (by decide)) (fun _ => ?_)
  refine lv_aload_n hx hb dX11_rounds_27 rfl (lv_at hl 2 rfl) ?_
  refine va_get (D := (dC, dI)) (ci := 10) (v := .ref h13) (C := RX11) (T := TX11) (N := 19) hx hb hts ii_X11_rounds_X11 hown hK hP 0 rfl rfl 12 (by decide) (hts _ mm_X11_rounds_3) (fun _ h9 => h9) rfl dX11_rounds_28 ?_
  refine lv_iload_n hx hb dX11_rounds_31 rfl (lv_at hl 0 rfl) ?_
  refine lv_aload_n hx hb dX11_rounds_32 rfl (lv_at hl 2 rfl) ?_
  refine va_get (D := (dC, dI)) (ci := 10) (v := .ref h3) (C := RX11) (T := TX11) (N := 19) hx hb hts ii_X11_rounds_X11 hown hK hP 0 rfl rfl 2 (by decide) (hts _ mm_X11_rounds_1) (fun _ h9 => h9) rfl dX11_rounds_33 ?_
  refine lv_iload_n hx hb dX11_rounds_36 rfl (lv_at hl 0 rfl) ?_
  have hPc := hP.sub (ws' := [(h3, .inr (5, [.ref h21, .ref h22, .ref h23, .ref h24, .ref h25, .int 0, .int 0, .int 0, .int 2, .int 0, .int 0, .int 0]))]) [3] rfl
  have hDc := hD.sub (ws' := [(h3, .inr (5, [.ref h21, .ref h22, .ref h23, .ref h24, .ref h25, .int 0, .int 0, .int 0, .int 2, .int 0, .int 0, .int 0]))]) [3] (by decide) rfl
  have hKc := hK.sub (tys' := []) [] rfl
  have hFc := va_free (wc := [(h3, .inr (5, [.ref h21, .ref h22, .ref h23, .ref h24, .ref h25, .int 0, .int 0, .int 0, .int 2, .int 0, .int 0, .int 0]))]) hD hS hA [3] rfl
  refine va_calli (va_runV (As := [.int 6]) (rest := [.int 6, .ref h13]) ⟨hx, hb, hml, hown, hts⟩ (k_X4_hasPerson_7 l dC dI ad h3 h21 h22 h23 h24 h25 H.size) (cwV 1 hts gX11_rounds_X4_hasPerson rfl rfl rfl (by decide +kernel) ⟨Nat.le_of_ble_eq_true rfl, Nat.le_of_ble_eq_true rfl⟩) ⟨fun a U g mk q => ⟨q.1, CP.blind q.2⟩, va_recv hKc hPc (ci := 5) (q0 := 0) rfl rfl, fun U hU hW => ⟨rfl, CP.of hPc hKc hDc hE hS hFc hU hW⟩⟩ rfl rfl hl.1 rfl (lv_room (Nat.le_of_ble_eq_true rfl)) dX11_rounds_37 ⟨Nat.le_of_ble_eq_true rfl, Nat.le_of_ble_eq_true rfl⟩) hS (fun q _ h => hFc q h) hFc (fun r21 u t H1 locs ht hvm hw hB hz1 hk1 hS => ?_)
  obtain ⟨hP1, hK1, hD1⟩ := hB
  rw [ht] at hP1
  obtain ⟨hP, hD⟩ := va_join (wr := [(h0, .inr (10, [.ref h1, .ref h2, .ref h3, .ref h4, .ref h5, .ref h6, .ref h7, .ref h8, .ref h9, .ref h10, .ref h11, .ref h12, .ref h13, .ref h14, .ref h15, .int (-1), .int 0, .int (-1), .int (-1)])), (h13, .inl (w0, 8, .inl (upd (upd (upd (upd (upd (upd (upd (upd (fun _ => 0) 0 (-1)) 1 (-1)) 2 (-1)) 3 (-1)) 4 (-1)) 5 (-1)) 6 (-1)) 7 (-1)))), (h2, .inr (5, [.ref h16, .ref h17, .ref h18, .ref h19, .ref h20, .int 0, .int 0, .int 0, .int 2, .int 0, .int 0, .int 0]))]) (w1 := [(h3, .inr (5, [.ref h21, .ref h22, .ref h23, .ref h24, .ref h25, .int 0, .int 0, .int 0, .int 2, .int 0, .int 0, .int 0]))]) hP hD [3] [0, 1, 2] rfl rfl (by decide) (by decide) hk1 hFc hP1 hD1
  generalize H1 = H at hP hS ⊢
  clear hPc hDc hKc hFc hP1 hD1 hK1 hk1 hz1
  have hP : va_P (dC, dI) vwCl [(h0, .inr (10, [.ref h1, .ref h2, .ref h3, .ref h4, .ref h5, .ref h6, .ref h7, .ref h8, .ref h9, .ref h10, .ref h11, .ref h12, .ref h13, .ref h14, .ref h15, .int (-1), .int 0, .int (-1), .int (-1)])), (h13, .inl (w0, 8, .inl (upd (upd (upd (upd (upd (upd (upd (upd (fun _ => 0) 0 (-1)) 1 (-1)) 2 (-1)) 3 (-1)) 4 (-1)) 5 (-1)) 6 (-1)) 7 (-1)))), (h2, .inr (5, [.ref h16, .ref h17, .ref h18, .ref h19, .ref h20, .int 0, .int 0, .int 0, .int 2, .int 0, .int 0, .int 0])), (h3, .inr (5, [.ref h21, .ref h22, .ref h23, .ref h24, .ref h25, .int 0, .int 0, .int 0, .int 2, .int 0, .int 0, .int 0]))] H := hP
  have hD : va_D A [(h0, .inr (10, [.ref h1, .ref h2, .ref h3, .ref h4, .ref h5, .ref h6, .ref h7, .ref h8, .ref h9, .ref h10, .ref h11, .ref h12, .ref h13, .ref h14, .ref h15, .int (-1), .int 0, .int (-1), .int (-1)])), (h13, .inl (w0, 8, .inl (upd (upd (upd (upd (upd (upd (upd (upd (fun _ => 0) 0 (-1)) 1 (-1)) 2 (-1)) 3 (-1)) 4 (-1)) 5 (-1)) 6 (-1)) 7 (-1)))), (h2, .inr (5, [.ref h16, .ref h17, .ref h18, .ref h19, .ref h20, .int 0, .int 0, .int 0, .int 2, .int 0, .int 0, .int 0])), (h3, .inr (5, [.ref h21, .ref h22, .ref h23, .ref h24, .ref h25, .int 0, .int 0, .int 0, .int 2, .int 0, .int 0, .int 0]))] := hD
  refine zz_top (v := 0) hw ?_
  refine lv_if_eq (tgt := 58) hx hb dX11_rounds_40 (by decide) (fun _ => ?_) (fun c22 => absurd (by decide) c22)
  refine lv_iconst (v := (-1)) hx hb dX11_rounds_58 (by decide) ?_
  refine va_iast hx hb hK hP hD hS 1 0 rfl rfl (i := 6) (zz_in (by decide)) dX11_rounds_59 (fun H locs hP hD hS => ?_)
  have hP : va_P (dC, dI) vwCl [(h0, .inr (10, [.ref h1, .ref h2, .ref h3, .ref h4, .ref h5, .ref h6, .ref h7, .ref h8, .ref h9, .ref h10, .ref h11, .ref h12, .ref h13, .ref h14, .ref h15, .int (-1), .int 0, .int (-1), .int (-1)])), (h13, .inl (w0, 8, .inl (upd (upd (upd (upd (upd (upd (upd (upd (upd (fun _ => 0) 0 (-1)) 1 (-1)) 2 (-1)) 3 (-1)) 4 (-1)) 5 (-1)) 6 (-1)) 7 (-1)) 6 (-1)))), (h2, .inr (5, [.ref h16, .ref h17, .ref h18, .ref h19, .ref h20, .int 0, .int 0, .int 0, .int 2, .int 0, .int 0, .int 0])), (h3, .inr (5, [.ref h21, .ref h22, .ref h23, .ref h24, .ref h25, .int 0, .int 0, .int 0, .int 2, .int 0, .int 0, .int 0]))] H := hP
  have hD : va_D A [(h0, .inr (10, [.ref h1, .ref h2, .ref h3, .ref h4, .ref h5, .ref h6, .ref h7, .ref h8, .ref h9, .ref h10, .ref h11, .ref h12, .ref h13, .ref h14, .ref h15, .int (-1), .int 0, .int (-1), .int (-1)])), (h13, .inl (w0, 8, .inl (upd (upd (upd (upd (upd (upd (upd (upd (upd (fun _ => 0) 0 (-1)) 1 (-1)) 2 (-1)) 3 (-1)) 4 (-1)) 5 (-1)) 6 (-1)) 7 (-1)) 6 (-1)))), (h2, .inr (5, [.ref h16, .ref h17, .ref h18, .ref h19, .ref h20, .int 0, .int 0, .int 0, .int 2, .int 0, .int 0, .int 0])), (h3, .inr (5, [.ref h21, .ref h22, .ref h23, .ref h24, .ref h25, .int 0, .int 0, .int 0, .int 2, .int 0, .int 0, .int 0]))] := hD
  rw [zz_sw (f := (upd (upd (upd (upd (upd (upd (upd (upd (fun _ => 0) 0 (-1)) 1 (-1)) 2 (-1)) 3 (-1)) 4 (-1)) 5 (-1)) 6 (-1)) 7 (-1))) (i := 6) (v := (-1)) rfl] at hP hD
  have hP : va_P (dC, dI) vwCl [(h0, .inr (10, [.ref h1, .ref h2, .ref h3, .ref h4, .ref h5, .ref h6, .ref h7, .ref h8, .ref h9, .ref h10, .ref h11, .ref h12, .ref h13, .ref h14, .ref h15, .int (-1), .int 0, .int (-1), .int (-1)])), (h13, .inl (w0, 8, .inl (upd (upd (upd (upd (upd (upd (upd (upd (fun _ => 0) 0 (-1)) 1 (-1)) 2 (-1)) 3 (-1)) 4 (-1)) 5 (-1)) 6 (-1)) 7 (-1)))), (h2, .inr (5, [.ref h16, .ref h17, .ref h18, .ref h19, .ref h20, .int 0, .int 0, .int 0, .int 2, .int 0, .int 0, .int 0])), (h3, .inr (5, [.ref h21, .ref h22, .ref h23, .ref h24, .ref h25, .int 0, .int 0, .int 0, .int 2, .int 0, .int 0, .int 0]))] H := hP
  have hD : va_D A [(h0, .inr (10, [.ref h1, .ref h2, .ref h3, .ref h4, .ref h5, .ref h6, .ref h7, .ref h8, .ref h9, .ref h10, .ref h11, .ref h12, .ref h13, .ref h14, .ref h15, .int (-1), .int 0, .int (-1), .int (-1)])), (h13, .inl (w0, 8, .inl (upd (upd (upd (upd (upd (upd (upd (upd (fun _ => 0) 0 (-1)) 1 (-1)) 2 (-1)) 3 (-1)) 4 (-1)) 5 (-1)) 6 (-1)) 7 (-1)))), (h2, .inr (5, [.ref h16, .ref h17, .ref h18, .ref h19, .ref h20, .int 0, .int 0, .int 0, .int 2, .int 0, .int 0, .int 0])), (h3, .inr (5, [.ref h21, .ref h22, .ref h23, .ref h24, .ref h25, .int 0, .int 0, .int 0, .int 2, .int 0, .int 0, .int 0]))] := hD
  refine lv_iinc (v := 7) (lv' := [(2, .int 7), (1, .int 1), (0, .ref h0)]) hx hb dX11_rounds_60 hl (k := 0) rfl (by decide) (by decide) rfl (fun ls hl => ?_)
  refine lv_goto (tgt := 21) hx hb dX11_rounds_63 (by decide) ?_
  refine lv_iload_n hx hb dX11_rounds_21 rfl (lv_at hl 0 rfl) ?_
  refine lv_bipush (v := 8) hx hb dX11_rounds_22 (by decide) ?_
  refine lv_icmp_ge (tgt := 66) hx hb dX11_rounds_24 (by decide) (fun c23 => absurd c23 (by decide)) (fun _ => ?_)
  refine lv_aload_n hx hb dX11_rounds_27 rfl (lv_at hl 2 rfl) ?_
  refine va_get (D := (dC, dI)) (ci := 10) (v := .ref h13) (C := RX11) (T := TX11) (N := 19) hx hb hts ii_X11_rounds_X11 hown hK hP 0 rfl rfl 12 (by decide) (hts _ mm_X11_rounds_3) (fun _ h9 => h9) rfl dX11_rounds_28 ?_
  refine lv_iload_n hx hb dX11_rounds_31 rfl (lv_at hl 0 rfl) ?_
  refine lv_aload_n hx hb dX11_rounds_32 rfl (lv_at hl 2 rfl) ?_
  refine va_get (D := (dC, dI)) (ci := 10) (v := .ref h3) (C := RX11) (T := TX11) (N := 19) hx hb hts ii_X11_rounds_X11 hown hK hP 0 rfl rfl 2 (by decide) (hts _ mm_X11_rounds_1) (fun _ h9 => h9) rfl dX11_rounds_33 ?_
  refine lv_iload_n hx hb dX11_rounds_36 rfl (lv_at hl 0 rfl) ?_
  have hPc := hP.sub (ws' := [(h3, .inr (5, [.ref h21, .ref h22, .ref h23, .ref h24, .ref h25, .int 0, .int 0, .int 0, .int 2, .int 0, .int 0, .int 0]))]) [3] rfl
  have hDc := hD.sub (ws' := [(h3, .inr (5, [.ref h21, .ref h22, .ref h23, .ref h24, .ref h25, .int 0, .int 0, .int 0, .int 2, .int 0, .int 0, .int 0]))]) [3] (by decide) rfl
  have hKc := hK.sub (tys' := []) [] rfl
  have hFc := va_free (wc := [(h3, .inr (5, [.ref h21, .ref h22, .ref h23, .ref h24, .ref h25, .int 0, .int 0, .int 0, .int 2, .int 0, .int 0, .int 0]))]) hD hS hA [3] rfl
  refine va_calli (va_runV (As := [.int 7]) (rest := [.int 7, .ref h13]) ⟨hx, hb, hml, hown, hts⟩ (k_X4_hasPerson_8 l dC dI ad h3 h21 h22 h23 h24 h25 H.size) (cwV 1 hts gX11_rounds_X4_hasPerson rfl rfl rfl (by decide +kernel) ⟨Nat.le_of_ble_eq_true rfl, Nat.le_of_ble_eq_true rfl⟩) ⟨fun a U g mk q => ⟨q.1, CP.blind q.2⟩, va_recv hKc hPc (ci := 5) (q0 := 0) rfl rfl, fun U hU hW => ⟨rfl, CP.of hPc hKc hDc hE hS hFc hU hW⟩⟩ rfl rfl hl.1 rfl (lv_room (Nat.le_of_ble_eq_true rfl)) dX11_rounds_37 ⟨Nat.le_of_ble_eq_true rfl, Nat.le_of_ble_eq_true rfl⟩) hS (fun q _ h => hFc q h) hFc (fun r24 u t H1 locs ht hvm hw hB hz1 hk1 hS => ?_)
  obtain ⟨hP1, hK1, hD1⟩ := hB
  rw [ht] at hP1
  obtain ⟨hP, hD⟩ := va_join (wr := [(h0, .inr (10, [.ref h1, .ref h2, .ref h3, .ref h4, .ref h5, .ref h6, .ref h7, .ref h8, .ref h9, .ref h10, .ref h11, .ref h12, .ref h13, .ref h14, .ref h15, .int (-1), .int 0, .int (-1), .int (-1)])), (h13, .inl (w0, 8, .inl (upd (upd (upd (upd (upd (upd (upd (upd (fun _ => 0) 0 (-1)) 1 (-1)) 2 (-1)) 3 (-1)) 4 (-1)) 5 (-1)) 6 (-1)) 7 (-1)))), (h2, .inr (5, [.ref h16, .ref h17, .ref h18, .ref h19, .ref h20, .int 0, .int 0, .int 0, .int 2, .int 0, .int 0, .int 0]))]) (w1 := [(h3, .inr (5, [.ref h21, .ref h22, .ref h23, .ref h24, .ref h25, .int 0, .int 0, .int 0, .int 2, .int 0, .int 0, .int 0]))]) hP hD [3] [0, 1, 2] rfl rfl (by decide) (by decide) hk1 hFc hP1 hD1
  generalize H1 = H at hP hS ⊢
  clear hPc hDc hKc hFc hP1 hD1 hK1 hk1 hz1
  have hP : va_P (dC, dI) vwCl [(h0, .inr (10, [.ref h1, .ref h2, .ref h3, .ref h4, .ref h5, .ref h6, .ref h7, .ref h8, .ref h9, .ref h10, .ref h11, .ref h12, .ref h13, .ref h14, .ref h15, .int (-1), .int 0, .int (-1), .int (-1)])), (h13, .inl (w0, 8, .inl (upd (upd (upd (upd (upd (upd (upd (upd (fun _ => 0) 0 (-1)) 1 (-1)) 2 (-1)) 3 (-1)) 4 (-1)) 5 (-1)) 6 (-1)) 7 (-1)))), (h2, .inr (5, [.ref h16, .ref h17, .ref h18, .ref h19, .ref h20, .int 0, .int 0, .int 0, .int 2, .int 0, .int 0, .int 0])), (h3, .inr (5, [.ref h21, .ref h22, .ref h23, .ref h24, .ref h25, .int 0, .int 0, .int 0, .int 2, .int 0, .int 0, .int 0]))] H := hP
  have hD : va_D A [(h0, .inr (10, [.ref h1, .ref h2, .ref h3, .ref h4, .ref h5, .ref h6, .ref h7, .ref h8, .ref h9, .ref h10, .ref h11, .ref h12, .ref h13, .ref h14, .ref h15, .int (-1), .int 0, .int (-1), .int (-1)])), (h13, .inl (w0, 8, .inl (upd (upd (upd (upd (upd (upd (upd (upd (fun _ => 0) 0 (-1)) 1 (-1)) 2 (-1)) 3 (-1)) 4 (-1)) 5 (-1)) 6 (-1)) 7 (-1)))), (h2, .inr (5, [.ref h16, .ref h17, .ref h18, .ref h19, .ref h20, .int 0, .int 0, .int 0, .int 2, .int 0, .int 0, .int 0])), (h3, .inr (5, [.ref h21, .ref h22, .ref h23, .ref h24, .ref h25, .int 0, .int 0, .int 0, .int 2, .int 0, .int 0, .int 0]))] := hD
  refine zz_top (v := 0) hw ?_
  refine lv_if_eq (tgt := 58) hx hb dX11_rounds_40 (by decide) (fun _ => ?_) (fun c25 => absurd (by decide) c25)
  refine lv_iconst (v := (-1)) hx hb dX11_rounds_58 (by decide) ?_
  refine va_iast hx hb hK hP hD hS 1 0 rfl rfl (i := 7) (zz_in (by decide)) dX11_rounds_59 (fun H locs hP hD hS => ?_)
  have hP : va_P (dC, dI) vwCl [(h0, .inr (10, [.ref h1, .ref h2, .ref h3, .ref h4, .ref h5, .ref h6, .ref h7, .ref h8, .ref h9, .ref h10, .ref h11, .ref h12, .ref h13, .ref h14, .ref h15, .int (-1), .int 0, .int (-1), .int (-1)])), (h13, .inl (w0, 8, .inl (upd (upd (upd (upd (upd (upd (upd (upd (upd (fun _ => 0) 0 (-1)) 1 (-1)) 2 (-1)) 3 (-1)) 4 (-1)) 5 (-1)) 6 (-1)) 7 (-1)) 7 (-1)))), (h2, .inr (5, [.ref h16, .ref h17, .ref h18, .ref h19, .ref h20, .int 0, .int 0, .int 0, .int 2, .int 0, .int 0, .int 0])), (h3, .inr (5, [.ref h21, .ref h22, .ref h23, .ref h24, .ref h25, .int 0, .int 0, .int 0, .int 2, .int 0, .int 0, .int 0]))] H := hP
  have hD : va_D A [(h0, .inr (10, [.ref h1, .ref h2, .ref h3, .ref h4, .ref h5, .ref h6, .ref h7, .ref h8, .ref h9, .ref h10, .ref h11, .ref h12, .ref h13, .ref h14, .ref h15, .int (-1), .int 0, .int (-1), .int (-1)])), (h13, .inl (w0, 8, .inl (upd (upd (upd (upd (upd (upd (upd (upd (upd (fun _ => 0) 0 (-1)) 1 (-1)) 2 (-1)) 3 (-1)) 4 (-1)) 5 (-1)) 6 (-1)) 7 (-1)) 7 (-1)))), (h2, .inr (5, [.ref h16, .ref h17, .ref h18, .ref h19, .ref h20, .int 0, .int 0, .int 0, .int 2, .int 0, .int 0, .int 0])), (h3, .inr (5, [.ref h21, .ref h22, .ref h23, .ref h24, .ref h25, .int 0, .int 0, .int 0, .int 2, .int 0, .int 0, .int 0]))] := hD
  rw [zz_sw (f := (upd (upd (upd (upd (upd (upd (upd (upd (fun _ => 0) 0 (-1)) 1 (-1)) 2 (-1)) 3 (-1)) 4 (-1)) 5 (-1)) 6 (-1)) 7 (-1))) (i := 7) (v := (-1)) rfl] at hP hD
  have hP : va_P (dC, dI) vwCl [(h0, .inr (10, [.ref h1, .ref h2, .ref h3, .ref h4, .ref h5, .ref h6, .ref h7, .ref h8, .ref h9, .ref h10, .ref h11, .ref h12, .ref h13, .ref h14, .ref h15, .int (-1), .int 0, .int (-1), .int (-1)])), (h13, .inl (w0, 8, .inl (upd (upd (upd (upd (upd (upd (upd (upd (fun _ => 0) 0 (-1)) 1 (-1)) 2 (-1)) 3 (-1)) 4 (-1)) 5 (-1)) 6 (-1)) 7 (-1)))), (h2, .inr (5, [.ref h16, .ref h17, .ref h18, .ref h19, .ref h20, .int 0, .int 0, .int 0, .int 2, .int 0, .int 0, .int 0])), (h3, .inr (5, [.ref h21, .ref h22, .ref h23, .ref h24, .ref h25, .int 0, .int 0, .int 0, .int 2, .int 0, .int 0, .int 0]))] H := hP
  have hD : va_D A [(h0, .inr (10, [.ref h1, .ref h2, .ref h3, .ref h4, .ref h5, .ref h6, .ref h7, .ref h8, .ref h9, .ref h10, .ref h11, .ref h12, .ref h13, .ref h14, .ref h15, .int (-1), .int 0, .int (-1), .int (-1)])), (h13, .inl (w0, 8, .inl (upd (upd (upd (upd (upd (upd (upd (upd (fun _ => 0) 0 (-1)) 1 (-1)) 2 (-1)) 3 (-1)) 4 (-1)) 5 (-1)) 6 (-1)) 7 (-1)))), (h2, .inr (5, [.ref h16, .ref h17, .ref h18, .ref h19, .ref h20, .int 0, .int 0, .int 0, .int 2, .int 0, .int 0, .int 0])), (h3, .inr (5, [.ref h21, .ref h22, .ref h23, .ref h24, .ref h25, .int 0, .int 0, .int 0, .int 2, .int 0, .int 0, .int 0]))] := hD
  refine lv_iinc (v := 8) (lv' := [(2, .int 8), (1, .int 1), (0, .ref h0)]) hx hb dX11_rounds_60 hl (k := 0) rfl (by decide) (by decide) rfl (fun ls hl => ?_)
  refine lv_goto (tgt := 21) hx hb dX11_rounds_63 (by decide) ?_
  refine lv_iload_n hx hb dX11_rounds_21 rfl (lv_at hl 0 rfl) ?_
  refine lv_bipush (v := 8) hx hb dX11_rounds_22 (by decide) ?_
  refine lv_icmp_ge (tgt := 66) hx hb dX11_rounds_24 (by decide) (fun _ => ?_) (fun c26 => absurd (by decide) c26)
  refine lv_aload_n hx hb dX11_rounds_66 rfl (lv_at hl 2 rfl) ?_
  refine lv_aload_n hx hb dX11_rounds_67 rfl (lv_at hl 2 rfl) ?_
  refine va_get (D := (dC, dI)) (ci := 10) (v := .ref h3) (C := RX11) (T := TX11) (N := 19) hx hb hts ii_X11_rounds_X11 hown hK hP 0 rfl rfl 2 (by decide) (hts _ mm_X11_rounds_1) (fun _ h9 => h9) rfl dX11_rounds_68 ?_
  refine lv_iconst (v := 1) hx hb dX11_rounds_71 (by decide) ?_
  have hPc := hP.sub (ws' := [(h3, .inr (5, [.ref h21, .ref h22, .ref h23, .ref h24, .ref h25, .int 0, .int 0, .int 0, .int 2, .int 0, .int 0, .int 0]))]) [3] rfl
  have hDc := hD.sub (ws' := [(h3, .inr (5, [.ref h21, .ref h22, .ref h23, .ref h24, .ref h25, .int 0, .int 0, .int 0, .int 2, .int 0, .int 0, .int 0]))]) [3] (by decide) rfl
  have hKc := hK.sub (tys' := []) [] rfl
  have hFc := va_free (wc := [(h3, .inr (5, [.ref h21, .ref h22, .ref h23, .ref h24, .ref h25, .int 0, .int 0, .int 0, .int 2, .int 0, .int 0, .int 0]))]) hD hS hA [3] rfl
  refine va_calli (va_runV (As := [.int 1]) (rest := [.ref h0]) ⟨hx, hb, hml, hown, hts⟩ (k_X4_goodOfAll l dC dI ad h3 h21 h22 h23 h24 h25 H.size) (cwV 1 hts gX11_rounds_X4_goodOfAll rfl rfl rfl (by decide +kernel) ⟨Nat.le_of_ble_eq_true rfl, Nat.le_of_ble_eq_true rfl⟩) ⟨fun a U g mk q => ⟨q.1, CP.blind q.2⟩, va_recv hKc hPc (ci := 5) (q0 := 0) rfl rfl, fun U hU hW => ⟨rfl, CP.of hPc hKc hDc hE hS hFc hU hW⟩⟩ rfl rfl hl.1 rfl (lv_room (Nat.le_of_ble_eq_true rfl)) dX11_rounds_72 ⟨Nat.le_of_ble_eq_true rfl, Nat.le_of_ble_eq_true rfl⟩) hS (fun q _ h => hFc q h) hFc (fun r27 u t H1 locs ht hvm hw hB hz1 hk1 hS => ?_)
  obtain ⟨hP1, hK1, hD1⟩ := hB
  rw [ht] at hP1
  obtain ⟨hP, hD⟩ := va_join (wr := [(h0, .inr (10, [.ref h1, .ref h2, .ref h3, .ref h4, .ref h5, .ref h6, .ref h7, .ref h8, .ref h9, .ref h10, .ref h11, .ref h12, .ref h13, .ref h14, .ref h15, .int (-1), .int 0, .int (-1), .int (-1)])), (h13, .inl (w0, 8, .inl (upd (upd (upd (upd (upd (upd (upd (upd (fun _ => 0) 0 (-1)) 1 (-1)) 2 (-1)) 3 (-1)) 4 (-1)) 5 (-1)) 6 (-1)) 7 (-1)))), (h2, .inr (5, [.ref h16, .ref h17, .ref h18, .ref h19, .ref h20, .int 0, .int 0, .int 0, .int 2, .int 0, .int 0, .int 0]))]) (w1 := [(h3, .inr (5, [.ref h21, .ref h22, .ref h23, .ref h24, .ref h25, .int 0, .int 0, .int 0, .int 2, .int 0, .int 0, .int 0]))]) hP hD [3] [0, 1, 2] rfl rfl (by decide) (by decide) hk1 hFc hP1 hD1
  generalize H1 = H at hP hS ⊢
  clear hPc hDc hKc hFc hP1 hD1 hK1 hk1 hz1
  have hP : va_P (dC, dI) vwCl [(h0, .inr (10, [.ref h1, .ref h2, .ref h3, .ref h4, .ref h5, .ref h6, .ref h7, .ref h8, .ref h9, .ref h10, .ref h11, .ref h12, .ref h13, .ref h14, .ref h15, .int (-1), .int 0, .int (-1), .int (-1)])), (h13, .inl (w0, 8, .inl (upd (upd (upd (upd (upd (upd (upd (upd (fun _ => 0) 0 (-1)) 1 (-1)) 2 (-1)) 3 (-1)) 4 (-1)) 5 (-1)) 6 (-1)) 7 (-1)))), (h2, .inr (5, [.ref h16, .ref h17, .ref h18, .ref h19, .ref h20, .int 0, .int 0, .int 0, .int 2, .int 0, .int 0, .int 0])), (h3, .inr (5, [.ref h21, .ref h22, .ref h23, .ref h24, .ref h25, .int 0, .int 0, .int 0, .int 2, .int 0, .int 0, .int 0]))] H := hP
  have hD : va_D A [(h0, .inr (10, [.ref h1, .ref h2, .ref h3, .ref h4, .ref h5, .ref h6, .ref h7, .ref h8, .ref h9, .ref h10, .ref h11, .ref h12, .ref h13, .ref h14, .ref h15, .int (-1), .int 0, .int (-1), .int (-1)])), (h13, .inl (w0, 8, .inl (upd (upd (upd (upd (upd (upd (upd (upd (fun _ => 0) 0 (-1)) 1 (-1)) 2 (-1)) 3 (-1)) 4 (-1)) 5 (-1)) 6 (-1)) 7 (-1)))), (h2, .inr (5, [.ref h16, .ref h17, .ref h18, .ref h19, .ref h20, .int 0, .int 0, .int 0, .int 2, .int 0, .int 0, .int 0])), (h3, .inr (5, [.ref h21, .ref h22, .ref h23, .ref h24, .ref h25, .int 0, .int 0, .int 0, .int 2, .int 0, .int 0, .int 0]))] := hD
  refine zz_top (v := 0) hw ?_
  refine va_put (D := (dC, dI)) (ci := 10) (v := .int 0) (ty := .int) (C := RX11) (T := TX11) (N := 19) hx hb hts ii_X11_rounds_X11 tyX11 tyX11_ok nmX11 hown hK hP hD hS 0 rfl rfl 15 (by decide) (hts _ mm_X11_rounds_4) (fun _ h9 => h9) rfl (by decide +kernel) rfl rfl (Nat.le_of_ble_eq_true rfl) dX11_rounds_75 (fun H locs hP hD hS => ?_)
  have hP : va_P (dC, dI) vwCl [(h0, .inr (10, [.ref h1, .ref h2, .ref h3, .ref h4, .ref h5, .ref h6, .ref h7, .ref h8, .ref h9, .ref h10, .ref h11, .ref h12, .ref h13, .ref h14, .ref h15, .int 0, .int 0, .int (-1), .int (-1)])), (h13, .inl (w0, 8, .inl (upd (upd (upd (upd (upd (upd (upd (upd (fun _ => 0) 0 (-1)) 1 (-1)) 2 (-1)) 3 (-1)) 4 (-1)) 5 (-1)) 6 (-1)) 7 (-1)))), (h2, .inr (5, [.ref h16, .ref h17, .ref h18, .ref h19, .ref h20, .int 0, .int 0, .int 0, .int 2, .int 0, .int 0, .int 0])), (h3, .inr (5, [.ref h21, .ref h22, .ref h23, .ref h24, .ref h25, .int 0, .int 0, .int 0, .int 2, .int 0, .int 0, .int 0]))] H := hP
  have hD : va_D A [(h0, .inr (10, [.ref h1, .ref h2, .ref h3, .ref h4, .ref h5, .ref h6, .ref h7, .ref h8, .ref h9, .ref h10, .ref h11, .ref h12, .ref h13, .ref h14, .ref h15, .int 0, .int 0, .int (-1), .int (-1)])), (h13, .inl (w0, 8, .inl (upd (upd (upd (upd (upd (upd (upd (upd (fun _ => 0) 0 (-1)) 1 (-1)) 2 (-1)) 3 (-1)) 4 (-1)) 5 (-1)) 6 (-1)) 7 (-1)))), (h2, .inr (5, [.ref h16, .ref h17, .ref h18, .ref h19, .ref h20, .int 0, .int 0, .int 0, .int 2, .int 0, .int 0, .int 0])), (h3, .inr (5, [.ref h21, .ref h22, .ref h23, .ref h24, .ref h25, .int 0, .int 0, .int 0, .int 2, .int 0, .int 0, .int 0]))] := hD
  refine lv_iload_n hx hb dX11_rounds_78 rfl (lv_at hl 1 rfl) ?_
  have hP9 := hP.sub (ws' := []) [] rfl
  have hD9 := hD.sub (ws' := []) [] (by decide) rfl
  have hK9 := hK.sub (tys' := []) [] rfl
  refine W.widen (k := 0) (n := 0) (Nat.le_of_ble_eq_true rfl) (Nat.le_of_ble_eq_true rfl) ?_
  exact W.iret (v := 1) hx hb hr (fun t ht hW => ⟨⟨1, (), rfl, rfl, by rw [ht]; exact hP9, va_K.moved hW.alike hK9, hD9⟩, hS.F ht⟩) hS.2.2 dX11_rounds_79
set_option maxHeartbeats 4000000 in
set_option maxRecDepth 100000 in
theorem k_X11_parted (l : Launch) (dC : Nat → ClassId) (dI : Nat → Nat → Nat) (ad : Nat → Nat) (h0 h1 h2 h3 h4 h5 h6 h7 h8 h9 h10 h11 h12 h13 h14 h15 : Nat) (w0 : ClassId) (sz : Nat) : Met l yX11_parted wsX11_parted ({ frames := 0, cells := 0, slots := 0, locals := 0 }) (va_Pc [.ref h0, .int 0] (CP (dC, dI) [(h0, .inr (10, [.ref h1, .ref h2, .ref h3, .ref h4, .ref h5, .ref h6, .ref h7, .ref h8, .ref h9, .ref h10, .ref h11, .ref h12, .ref h13, .ref h14, .ref h15, .int (-1), .int 0, .int (-1), .int (-1)])), (h13, .inl (w0, 8, .inl (upd (upd (upd (upd (upd (upd (upd (upd (fun _ => 0) 0 (-1)) 1 (-1)) 2 (-1)) 3 (-1)) 4 (-1)) 5 (-1)) 6 (-1)) 7 (-1))))] [(w0, .int)] sz ad)) (va_Qi (fun (r : Int32) (_ : Unit) => r = (-1)) (fun (_ : Unit) (t : State) => CQ (dC, dI) [] [] (va_A [(h0, .inr (10, [.ref h1, .ref h2, .ref h3, .ref h4, .ref h5, .ref h6, .ref h7, .ref h8, .ref h9, .ref h10, .ref h11, .ref h12, .ref h13, .ref h14, .ref h15, .int (-1), .int 0, .int (-1), .int (-1)])), (h13, .inl (w0, 8, .inl (upd (upd (upd (upd (upd (upd (upd (upd (fun _ => 0) 0 (-1)) 1 (-1)) 2 (-1)) 3 (-1)) 4 (-1)) 5 (-1)) 6 (-1)) 7 (-1))))] sz) t) (va_A [(h0, .inr (10, [.ref h1, .ref h2, .ref h3, .ref h4, .ref h5, .ref h6, .ref h7, .ref h8, .ref h9, .ref h10, .ref h11, .ref h12, .ref h13, .ref h14, .ref h15, .int (-1), .int 0, .int (-1), .int (-1)])), (h13, .inl (w0, 8, .inl (upd (upd (upd (upd (upd (upd (upd (upd (fun _ => 0) 0 (-1)) 1 (-1)) 2 (-1)) 3 (-1)) 4 (-1)) 5 (-1)) 6 (-1)) 7 (-1))))] sz)) 0 0 (va_A [(h0, .inr (10, [.ref h1, .ref h2, .ref h3, .ref h4, .ref h5, .ref h6, .ref h7, .ref h8, .ref h9, .ref h10, .ref h11, .ref h12, .ref h13, .ref h14, .ref h15, .int (-1), .int 0, .int (-1), .int (-1)])), (h13, .inl (w0, 8, .inl (upd (upd (upd (upd (upd (upd (upd (upd (fun _ => 0) 0 (-1)) 1 (-1)) 2 (-1)) 3 (-1)) 4 (-1)) 5 (-1)) 6 (-1)) 7 (-1))))] sz) := by
  refine Met.ofW (cc := cX11_parted) (maxL := 2) (ret := (some .int)) (by decide) rfl ?_
  intro p e s m args below meth c s₁ B hml hv
  obtain ⟨rfl, hsz, hP, hK, hD0, hE⟩ := hv
  have hx := B.exec
  have hb := B.bytes
  have hr := B.returns
  have hts := atoms_spec (ws := wsX11_parted) B.pre
  have hown : s.vm.findClass RX11 = some m.cls := findClass_of_methodNamed B.named
  have hlocks := B.notSynchronized
  subst hsz
  have hD := hD0.self (sz := s.heap.size)
  generalize hAe : va_A [(h0, .inr (10, [.ref h1, .ref h2, .ref h3, .ref h4, .ref h5, .ref h6, .ref h7, .ref h8, .ref h9, .ref h10, .ref h11, .ref h12, .ref h13, .ref h14, .ref h15, .int (-1), .int 0, .int (-1), .int (-1)])), (h13, .inl (w0, 8, .inl (upd (upd (upd (upd (upd (upd (upd (upd (fun _ => 0) 0 (-1)) 1 (-1)) 2 (-1)) 3 (-1)) 4 (-1)) 5 (-1)) 6 (-1)) 7 (-1))))] s.heap.size = A at hD hE ⊢
  have hA : ∀ q : Nat, s.heap.size ≤ q → A q := fun q h => by rw [← hAe]; exact Or.inr h
  have hS : va_S A s.heap s.heap [] := va_S.rf
  have hl := lv_entry ([.ref h0, .int 0]) (n := 2) (Nat.le_of_ble_eq_true rfl)
  rw [lg_entry_eq]
  generalize (lg_sl ([.ref h0, .int 0]) ++ List.replicate (2 - (lg_sl ([.ref h0, .int 0])).length) Slot.unset).toArray = ls at hl ⊢
  have hl : lv_has ls 2 [(0, .ref h0), (1, .int 0)] := hl
  refine lv_iload_n hx hb dX11_parted_0 rfl (lv_at hl 1 rfl) ?_
  refine lv_if_lt (tgt := 19) hx hb dX11_parted_1 (by decide) (fun c1 => absurd c1 (by decide)) (fun _ => ?_)
  refine lv_iload_n hx hb dX11_parted_4 rfl (lv_at hl 1 rfl) ?_
  refine lv_bipush (v := 8) hx hb dX11_parted_5 (by decide) ?_
  refine lv_icmp_ge (tgt := 19) hx hb dX11_parted_7 (by decide) (fun c2 => absurd c2 (by decide)) (fun _ => ?_)
  refine lv_aload_n hx hb dX11_parted_10 rfl (lv_at hl 0 rfl) ?_
  refine va_get (D := (dC, dI)) (ci := 10) (v := .ref h13) (C := RX11) (T := TX11) (N := 19) hx hb hts ii_X11_parted_X11 hown hK hP 0 rfl rfl 12 (by decide) (hts _ mm_X11_parted_1) (fun _ h9 => h9) rfl dX11_parted_11 ?_
  refine lv_iload_n hx hb dX11_parted_14 rfl (lv_at hl 1 rfl) ?_
  refine va_iald hx hb hK hP 1 0 rfl rfl (i := 0) (zz_in (by decide)) dX11_parted_15 ?_
  refine zz_top (v := (-1)) (by rfl) ?_
  refine lv_goto (tgt := 20) hx hb dX11_parted_16 (by decide) ?_
  have hP9 := hP.sub (ws' := []) [] rfl
  have hD9 := hD.sub (ws' := []) [] (by decide) rfl
  have hK9 := hK.sub (tys' := []) [] rfl
  refine W.widen (k := 0) (n := 0) (Nat.le_of_ble_eq_true rfl) (Nat.le_of_ble_eq_true rfl) ?_
  exact W.iret (v := (-1)) hx hb hr (fun t ht hW => ⟨⟨(-1), (), rfl, rfl, by rw [ht]; exact hP9, va_K.moved hW.alike hK9, hD9⟩, hS.F ht⟩) hS.2.2 dX11_parted_20
set_option maxHeartbeats 4000000 in
set_option maxRecDepth 100000 in
theorem k_X11_parted_1 (l : Launch) (dC : Nat → ClassId) (dI : Nat → Nat → Nat) (ad : Nat → Nat) (h0 h1 h2 h3 h4 h5 h6 h7 h8 h9 h10 h11 h12 h13 h14 h15 : Nat) (w0 : ClassId) (sz : Nat) : Met l yX11_parted wsX11_parted ({ frames := 0, cells := 0, slots := 0, locals := 0 }) (va_Pc [.ref h0, .int 1] (CP (dC, dI) [(h0, .inr (10, [.ref h1, .ref h2, .ref h3, .ref h4, .ref h5, .ref h6, .ref h7, .ref h8, .ref h9, .ref h10, .ref h11, .ref h12, .ref h13, .ref h14, .ref h15, .int (-1), .int 0, .int (-1), .int (-1)])), (h13, .inl (w0, 8, .inl (upd (upd (upd (upd (upd (upd (upd (upd (fun _ => 0) 0 (-1)) 1 (-1)) 2 (-1)) 3 (-1)) 4 (-1)) 5 (-1)) 6 (-1)) 7 (-1))))] [(w0, .int)] sz ad)) (va_Qi (fun (r : Int32) (_ : Unit) => r = (-1)) (fun (_ : Unit) (t : State) => CQ (dC, dI) [] [] (va_A [(h0, .inr (10, [.ref h1, .ref h2, .ref h3, .ref h4, .ref h5, .ref h6, .ref h7, .ref h8, .ref h9, .ref h10, .ref h11, .ref h12, .ref h13, .ref h14, .ref h15, .int (-1), .int 0, .int (-1), .int (-1)])), (h13, .inl (w0, 8, .inl (upd (upd (upd (upd (upd (upd (upd (upd (fun _ => 0) 0 (-1)) 1 (-1)) 2 (-1)) 3 (-1)) 4 (-1)) 5 (-1)) 6 (-1)) 7 (-1))))] sz) t) (va_A [(h0, .inr (10, [.ref h1, .ref h2, .ref h3, .ref h4, .ref h5, .ref h6, .ref h7, .ref h8, .ref h9, .ref h10, .ref h11, .ref h12, .ref h13, .ref h14, .ref h15, .int (-1), .int 0, .int (-1), .int (-1)])), (h13, .inl (w0, 8, .inl (upd (upd (upd (upd (upd (upd (upd (upd (fun _ => 0) 0 (-1)) 1 (-1)) 2 (-1)) 3 (-1)) 4 (-1)) 5 (-1)) 6 (-1)) 7 (-1))))] sz)) 0 0 (va_A [(h0, .inr (10, [.ref h1, .ref h2, .ref h3, .ref h4, .ref h5, .ref h6, .ref h7, .ref h8, .ref h9, .ref h10, .ref h11, .ref h12, .ref h13, .ref h14, .ref h15, .int (-1), .int 0, .int (-1), .int (-1)])), (h13, .inl (w0, 8, .inl (upd (upd (upd (upd (upd (upd (upd (upd (fun _ => 0) 0 (-1)) 1 (-1)) 2 (-1)) 3 (-1)) 4 (-1)) 5 (-1)) 6 (-1)) 7 (-1))))] sz) := by
  refine Met.ofW (cc := cX11_parted) (maxL := 2) (ret := (some .int)) (by decide) rfl ?_
  intro p e s m args below meth c s₁ B hml hv
  obtain ⟨rfl, hsz, hP, hK, hD0, hE⟩ := hv
  have hx := B.exec
  have hb := B.bytes
  have hr := B.returns
  have hts := atoms_spec (ws := wsX11_parted) B.pre
  have hown : s.vm.findClass RX11 = some m.cls := findClass_of_methodNamed B.named
  have hlocks := B.notSynchronized
  subst hsz
  have hD := hD0.self (sz := s.heap.size)
  generalize hAe : va_A [(h0, .inr (10, [.ref h1, .ref h2, .ref h3, .ref h4, .ref h5, .ref h6, .ref h7, .ref h8, .ref h9, .ref h10, .ref h11, .ref h12, .ref h13, .ref h14, .ref h15, .int (-1), .int 0, .int (-1), .int (-1)])), (h13, .inl (w0, 8, .inl (upd (upd (upd (upd (upd (upd (upd (upd (fun _ => 0) 0 (-1)) 1 (-1)) 2 (-1)) 3 (-1)) 4 (-1)) 5 (-1)) 6 (-1)) 7 (-1))))] s.heap.size = A at hD hE ⊢
  have hA : ∀ q : Nat, s.heap.size ≤ q → A q := fun q h => by rw [← hAe]; exact Or.inr h
  have hS : va_S A s.heap s.heap [] := va_S.rf
  have hl := lv_entry ([.ref h0, .int 1]) (n := 2) (Nat.le_of_ble_eq_true rfl)
  rw [lg_entry_eq]
  generalize (lg_sl ([.ref h0, .int 1]) ++ List.replicate (2 - (lg_sl ([.ref h0, .int 1])).length) Slot.unset).toArray = ls at hl ⊢
  have hl : lv_has ls 2 [(0, .ref h0), (1, .int 1)] := hl
  refine lv_iload_n hx hb dX11_parted_0 rfl (lv_at hl 1 rfl) ?_
  refine lv_if_lt (tgt := 19) hx hb dX11_parted_1 (by decide) (fun c1 => absurd c1 (by decide)) (fun _ => ?_)
  refine lv_iload_n hx hb dX11_parted_4 rfl (lv_at hl 1 rfl) ?_
  refine lv_bipush (v := 8) hx hb dX11_parted_5 (by decide) ?_
  refine lv_icmp_ge (tgt := 19) hx hb dX11_parted_7 (by decide) (fun c2 => absurd c2 (by decide)) (fun _ => ?_)
  refine lv_aload_n hx hb dX11_parted_10 rfl (lv_at hl 0 rfl) ?_
  refine va_get (D := (dC, dI)) (ci := 10) (v := .ref h13) (C := RX11) (T := TX11) (N := 19) hx hb hts ii_X11_parted_X11 hown hK hP 0 rfl rfl 12 (by decide) (hts _ mm_X11_parted_1) (fun _ h9 => h9) rfl dX11_parted_11 ?_
  refine lv_iload_n hx hb dX11_parted_14 rfl (lv_at hl 1 rfl) ?_
  refine va_iald hx hb hK hP 1 0 rfl rfl (i := 1) (zz_in (by decide)) dX11_parted_15 ?_
  refine zz_top (v := (-1)) (by rfl) ?_
  refine lv_goto (tgt := 20) hx hb dX11_parted_16 (by decide) ?_
  have hP9 := hP.sub (ws' := []) [] rfl
  have hD9 := hD.sub (ws' := []) [] (by decide) rfl
  have hK9 := hK.sub (tys' := []) [] rfl
  refine W.widen (k := 0) (n := 0) (Nat.le_of_ble_eq_true rfl) (Nat.le_of_ble_eq_true rfl) ?_
  exact W.iret (v := (-1)) hx hb hr (fun t ht hW => ⟨⟨(-1), (), rfl, rfl, by rw [ht]; exact hP9, va_K.moved hW.alike hK9, hD9⟩, hS.F ht⟩) hS.2.2 dX11_parted_20
set_option maxHeartbeats 4000000 in
set_option maxRecDepth 100000 in
theorem k_X11_parted_2 (l : Launch) (dC : Nat → ClassId) (dI : Nat → Nat → Nat) (ad : Nat → Nat) (h0 h1 h2 h3 h4 h5 h6 h7 h8 h9 h10 h11 h12 h13 h14 h15 : Nat) (w0 : ClassId) (sz : Nat) : Met l yX11_parted wsX11_parted ({ frames := 0, cells := 0, slots := 0, locals := 0 }) (va_Pc [.ref h0, .int 2] (CP (dC, dI) [(h0, .inr (10, [.ref h1, .ref h2, .ref h3, .ref h4, .ref h5, .ref h6, .ref h7, .ref h8, .ref h9, .ref h10, .ref h11, .ref h12, .ref h13, .ref h14, .ref h15, .int (-1), .int 0, .int (-1), .int (-1)])), (h13, .inl (w0, 8, .inl (upd (upd (upd (upd (upd (upd (upd (upd (fun _ => 0) 0 (-1)) 1 (-1)) 2 (-1)) 3 (-1)) 4 (-1)) 5 (-1)) 6 (-1)) 7 (-1))))] [(w0, .int)] sz ad)) (va_Qi (fun (r : Int32) (_ : Unit) => r = (-1)) (fun (_ : Unit) (t : State) => CQ (dC, dI) [] [] (va_A [(h0, .inr (10, [.ref h1, .ref h2, .ref h3, .ref h4, .ref h5, .ref h6, .ref h7, .ref h8, .ref h9, .ref h10, .ref h11, .ref h12, .ref h13, .ref h14, .ref h15, .int (-1), .int 0, .int (-1), .int (-1)])), (h13, .inl (w0, 8, .inl (upd (upd (upd (upd (upd (upd (upd (upd (fun _ => 0) 0 (-1)) 1 (-1)) 2 (-1)) 3 (-1)) 4 (-1)) 5 (-1)) 6 (-1)) 7 (-1))))] sz) t) (va_A [(h0, .inr (10, [.ref h1, .ref h2, .ref h3, .ref h4, .ref h5, .ref h6, .ref h7, .ref h8, .ref h9, .ref h10, .ref h11, .ref h12, .ref h13, .ref h14, .ref h15, .int (-1), .int 0, .int (-1), .int (-1)])), (h13, .inl (w0, 8, .inl (upd (upd (upd (upd (upd (upd (upd (upd (fun _ => 0) 0 (-1)) 1 (-1)) 2 (-1)) 3 (-1)) 4 (-1)) 5 (-1)) 6 (-1)) 7 (-1))))] sz)) 0 0 (va_A [(h0, .inr (10, [.ref h1, .ref h2, .ref h3, .ref h4, .ref h5, .ref h6, .ref h7, .ref h8, .ref h9, .ref h10, .ref h11, .ref h12, .ref h13, .ref h14, .ref h15, .int (-1), .int 0, .int (-1), .int (-1)])), (h13, .inl (w0, 8, .inl (upd (upd (upd (upd (upd (upd (upd (upd (fun _ => 0) 0 (-1)) 1 (-1)) 2 (-1)) 3 (-1)) 4 (-1)) 5 (-1)) 6 (-1)) 7 (-1))))] sz) := by
  refine Met.ofW (cc := cX11_parted) (maxL := 2) (ret := (some .int)) (by decide) rfl ?_
  intro p e s m args below meth c s₁ B hml hv
  obtain ⟨rfl, hsz, hP, hK, hD0, hE⟩ := hv
  have hx := B.exec
  have hb := B.bytes
  have hr := B.returns
  have hts := atoms_spec (ws := wsX11_parted) B.pre
  have hown : s.vm.findClass RX11 = some m.cls := findClass_of_methodNamed B.named
  have hlocks := B.notSynchronized
  subst hsz
  have hD := hD0.self (sz := s.heap.size)
  generalize hAe : va_A [(h0, .inr (10, [.ref h1, .ref h2, .ref h3, .ref h4, .ref h5, .ref h6, .ref h7, .ref h8, .ref h9, .ref h10, .ref h11, .ref h12, .ref h13, .ref h14, .ref h15, .int (-1), .int 0, .int (-1), .int (-1)])), (h13, .inl (w0, 8, .inl (upd (upd (upd (upd (upd (upd (upd (upd (fun _ => 0) 0 (-1)) 1 (-1)) 2 (-1)) 3 (-1)) 4 (-1)) 5 (-1)) 6 (-1)) 7 (-1))))] s.heap.size = A at hD hE ⊢
  have hA : ∀ q : Nat, s.heap.size ≤ q → A q := fun q h => by rw [← hAe]; exact Or.inr h
  have hS : va_S A s.heap s.heap [] := va_S.rf
  have hl := lv_entry ([.ref h0, .int 2]) (n := 2) (Nat.le_of_ble_eq_true rfl)
  rw [lg_entry_eq]
  generalize (lg_sl ([.ref h0, .int 2]) ++ List.replicate (2 - (lg_sl ([.ref h0, .int 2])).length) Slot.unset).toArray = ls at hl ⊢
  have hl : lv_has ls 2 [(0, .ref h0), (1, .int 2)] := hl
  refine lv_iload_n hx hb dX11_parted_0 rfl (lv_at hl 1 rfl) ?_
  refine lv_if_lt (tgt := 19) hx hb dX11_parted_1 (by decide) (fun c1 => absurd c1 (by decide)) (fun _ => ?_)
  refine lv_iload_n hx hb dX11_parted_4 rfl (lv_at hl 1 rfl) ?_
  refine lv_bipush (v := 8) hx hb dX11_parted_5 (by decide) ?_
  refine lv_icmp_ge (tgt := 19) hx hb dX11_parted_7 (by decide) (fun c2 => absurd c2 (by decide)) (fun _ => ?_)
  refine lv_aload_n hx hb dX11_parted_10 rfl (lv_at hl 0 rfl) ?_
  refine va_get (D := (dC, dI)) (ci := 10) (v := .ref h13) (C := RX11) (T := TX11) (N := 19) hx hb hts ii_X11_parted_X11 hown hK hP 0 rfl rfl 12 (by decide) (hts _ mm_X11_parted_1) (fun _ h9 => h9) rfl dX11_parted_11 ?_
  refine lv_iload_n hx hb dX11_parted_14 rfl (lv_at hl 1 rfl) ?_
  refine va_iald hx hb hK hP 1 0 rfl rfl (i := 2) (zz_in (by decide)) dX11_parted_15 ?_
  refine zz_top (v := (-1)) (by rfl) ?_
  refine lv_goto (tgt := 20) hx hb dX11_parted_16 (by decide) ?_
  have hP9 := hP.sub (ws' := []) [] rfl
  have hD9 := hD.sub (ws' := []) [] (by decide) rfl
  have hK9 := hK.sub (tys' := []) [] rfl
  refine W.widen (k := 0) (n := 0) (Nat.le_of_ble_eq_true rfl) (Nat.le_of_ble_eq_true rfl) ?_
  exact W.iret (v := (-1)) hx hb hr (fun t ht hW => ⟨⟨(-1), (), rfl, rfl, by rw [ht]; exact hP9, va_K.moved hW.alike hK9, hD9⟩, hS.F ht⟩) hS.2.2 dX11_parted_20
set_option maxHeartbeats 4000000 in
set_option maxRecDepth 100000 in
theorem k_X11_parted_3 (l : Launch) (dC : Nat → ClassId) (dI : Nat → Nat → Nat) (ad : Nat → Nat) (h0 h1 h2 h3 h4 h5 h6 h7 h8 h9 h10 h11 h12 h13 h14 h15 : Nat) (w0 : ClassId) (sz : Nat) : Met l yX11_parted wsX11_parted ({ frames := 0, cells := 0, slots := 0, locals := 0 }) (va_Pc [.ref h0, .int 3] (CP (dC, dI) [(h0, .inr (10, [.ref h1, .ref h2, .ref h3, .ref h4, .ref h5, .ref h6, .ref h7, .ref h8, .ref h9, .ref h10, .ref h11, .ref h12, .ref h13, .ref h14, .ref h15, .int (-1), .int 0, .int (-1), .int (-1)])), (h13, .inl (w0, 8, .inl (upd (upd (upd (upd (upd (upd (upd (upd (fun _ => 0) 0 (-1)) 1 (-1)) 2 (-1)) 3 (-1)) 4 (-1)) 5 (-1)) 6 (-1)) 7 (-1))))] [(w0, .int)] sz ad)) (va_Qi (fun (r : Int32) (_ : Unit) => r = (-1)) (fun (_ : Unit) (t : State) => CQ (dC, dI) [] [] (va_A [(h0, .inr (10, [.ref h1, .ref h2, .ref h3, .ref h4, .ref h5, .ref h6, .ref h7, .ref h8, .ref h9, .ref h10, .ref h11, .ref h12, .ref h13, .ref h14, .ref h15, .int (-1), .int 0, .int (-1), .int (-1)])), (h13, .inl (w0, 8, .inl (upd (upd (upd (upd (upd (upd (upd (upd (fun _ => 0) 0 (-1)) 1 (-1)) 2 (-1)) 3 (-1)) 4 (-1)) 5 (-1)) 6 (-1)) 7 (-1))))] sz) t) (va_A [(h0, .inr (10, [.ref h1, .ref h2, .ref h3, .ref h4, .ref h5, .ref h6, .ref h7, .ref h8, .ref h9, .ref h10, .ref h11, .ref h12, .ref h13, .ref h14, .ref h15, .int (-1), .int 0, .int (-1), .int (-1)])), (h13, .inl (w0, 8, .inl (upd (upd (upd (upd (upd (upd (upd (upd (fun _ => 0) 0 (-1)) 1 (-1)) 2 (-1)) 3 (-1)) 4 (-1)) 5 (-1)) 6 (-1)) 7 (-1))))] sz)) 0 0 (va_A [(h0, .inr (10, [.ref h1, .ref h2, .ref h3, .ref h4, .ref h5, .ref h6, .ref h7, .ref h8, .ref h9, .ref h10, .ref h11, .ref h12, .ref h13, .ref h14, .ref h15, .int (-1), .int 0, .int (-1), .int (-1)])), (h13, .inl (w0, 8, .inl (upd (upd (upd (upd (upd (upd (upd (upd (fun _ => 0) 0 (-1)) 1 (-1)) 2 (-1)) 3 (-1)) 4 (-1)) 5 (-1)) 6 (-1)) 7 (-1))))] sz) := by
  refine Met.ofW (cc := cX11_parted) (maxL := 2) (ret := (some .int)) (by decide) rfl ?_
  intro p e s m args below meth c s₁ B hml hv
  obtain ⟨rfl, hsz, hP, hK, hD0, hE⟩ := hv
  have hx := B.exec
  have hb := B.bytes
  have hr := B.returns
  have hts := atoms_spec (ws := wsX11_parted) B.pre
  have hown : s.vm.findClass RX11 = some m.cls := findClass_of_methodNamed B.named
  have hlocks := B.notSynchronized
  subst hsz
  have hD := hD0.self (sz := s.heap.size)
  generalize hAe : va_A [(h0, .inr (10, [.ref h1, .ref h2, .ref h3, .ref h4, .ref h5, .ref h6, .ref h7, .ref h8, .ref h9, .ref h10, .ref h11, .ref h12, .ref h13, .ref h14, .ref h15, .int (-1), .int 0, .int (-1), .int (-1)])), (h13, .inl (w0, 8, .inl (upd (upd (upd (upd (upd (upd (upd (upd (fun _ => 0) 0 (-1)) 1 (-1)) 2 (-1)) 3 (-1)) 4 (-1)) 5 (-1)) 6 (-1)) 7 (-1))))] s.heap.size = A at hD hE ⊢
  have hA : ∀ q : Nat, s.heap.size ≤ q → A q := fun q h => by rw [← hAe]; exact Or.inr h
  have hS : va_S A s.heap s.heap [] := va_S.rf
  have hl := lv_entry ([.ref h0, .int 3]) (n := 2) (Nat.le_of_ble_eq_true rfl)
  rw [lg_entry_eq]
  generalize (lg_sl ([.ref h0, .int 3]) ++ List.replicate (2 - (lg_sl ([.ref h0, .int 3])).length) Slot.unset).toArray = ls at hl ⊢
  have hl : lv_has ls 2 [(0, .ref h0), (1, .int 3)] := hl
  refine lv_iload_n hx hb dX11_parted_0 rfl (lv_at hl 1 rfl) ?_
  refine lv_if_lt (tgt := 19) hx hb dX11_parted_1 (by decide) (fun c1 => absurd c1 (by decide)) (fun _ => ?_)
  refine lv_iload_n hx hb dX11_parted_4 rfl (lv_at hl 1 rfl) ?_
  refine lv_bipush (v := 8) hx hb dX11_parted_5 (by decide) ?_
  refine lv_icmp_ge (tgt := 19) hx hb dX11_parted_7 (by decide) (fun c2 => absurd c2 (by decide)) (fun _ => ?_)
  refine lv_aload_n hx hb dX11_parted_10 rfl (lv_at hl 0 rfl) ?_
  refine va_get (D := (dC, dI)) (ci := 10) (v := .ref h13) (C := RX11) (T := TX11) (N := 19) hx hb hts ii_X11_parted_X11 hown hK hP 0 rfl rfl 12 (by decide) (hts _ mm_X11_parted_1) (fun _ h9 => h9) rfl dX11_parted_11 ?_
  refine lv_iload_n hx hb dX11_parted_14 rfl (lv_at hl 1 rfl) ?_
  refine va_iald hx hb hK hP 1 0 rfl rfl (i := 3) (zz_in (by decide)) dX11_parted_15 ?_
  refine zz_top (v := (-1)) (by rfl) ?_
  refine lv_goto (tgt := 20) hx hb dX11_parted_16 (by decide) ?_
  have hP9 := hP.sub (ws' := []) [] rfl
  have hD9 := hD.sub (ws' := []) [] (by decide) rfl
  have hK9 := hK.sub (tys' := []) [] rfl
  refine W.widen (k := 0) (n := 0) (Nat.le_of_ble_eq_true rfl) (Nat.le_of_ble_eq_true rfl) ?_
  exact W.iret (v := (-1)) hx hb hr (fun t ht hW => ⟨⟨(-1), (), rfl, rfl, by rw [ht]; exact hP9, va_K.moved hW.alike hK9, hD9⟩, hS.F ht⟩) hS.2.2 dX11_parted_20
set_option maxHeartbeats 4000000 in
set_option maxRecDepth 100000 in
theorem k_X11_parted_4 (l : Launch) (dC : Nat → ClassId) (dI : Nat → Nat → Nat) (ad : Nat → Nat) (h0 h1 h2 h3 h4 h5 h6 h7 h8 h9 h10 h11 h12 h13 h14 h15 : Nat) (w0 : ClassId) (sz : Nat) : Met l yX11_parted wsX11_parted ({ frames := 0, cells := 0, slots := 0, locals := 0 }) (va_Pc [.ref h0, .int 4] (CP (dC, dI) [(h0, .inr (10, [.ref h1, .ref h2, .ref h3, .ref h4, .ref h5, .ref h6, .ref h7, .ref h8, .ref h9, .ref h10, .ref h11, .ref h12, .ref h13, .ref h14, .ref h15, .int (-1), .int 0, .int (-1), .int (-1)])), (h13, .inl (w0, 8, .inl (upd (upd (upd (upd (upd (upd (upd (upd (fun _ => 0) 0 (-1)) 1 (-1)) 2 (-1)) 3 (-1)) 4 (-1)) 5 (-1)) 6 (-1)) 7 (-1))))] [(w0, .int)] sz ad)) (va_Qi (fun (r : Int32) (_ : Unit) => r = (-1)) (fun (_ : Unit) (t : State) => CQ (dC, dI) [] [] (va_A [(h0, .inr (10, [.ref h1, .ref h2, .ref h3, .ref h4, .ref h5, .ref h6, .ref h7, .ref h8, .ref h9, .ref h10, .ref h11, .ref h12, .ref h13, .ref h14, .ref h15, .int (-1), .int 0, .int (-1), .int (-1)])), (h13, .inl (w0, 8, .inl (upd (upd (upd (upd (upd (upd (upd (upd (fun _ => 0) 0 (-1)) 1 (-1)) 2 (-1)) 3 (-1)) 4 (-1)) 5 (-1)) 6 (-1)) 7 (-1))))] sz) t) (va_A [(h0, .inr (10, [.ref h1, .ref h2, .ref h3, .ref h4, .ref h5, .ref h6, .ref h7, .ref h8, .ref h9, .ref h10, .ref h11, .ref h12, .ref h13, .ref h14, .ref h15, .int (-1), .int 0, .int (-1), .int (-1)])), (h13, .inl (w0, 8, .inl (upd (upd (upd (upd (upd (upd (upd (upd (fun _ => 0) 0 (-1)) 1 (-1)) 2 (-1)) 3 (-1)) 4 (-1)) 5 (-1)) 6 (-1)) 7 (-1))))] sz)) 0 0 (va_A [(h0, .inr (10, [.ref h1, .ref h2, .ref h3, .ref h4, .ref h5, .ref h6, .ref h7, .ref h8, .ref h9, .ref h10, .ref h11, .ref h12, .ref h13, .ref h14, .ref h15, .int (-1), .int 0, .int (-1), .int (-1)])), (h13, .inl (w0, 8, .inl (upd (upd (upd (upd (upd (upd (upd (upd (fun _ => 0) 0 (-1)) 1 (-1)) 2 (-1)) 3 (-1)) 4 (-1)) 5 (-1)) 6 (-1)) 7 (-1))))] sz) := by
  refine Met.ofW (cc := cX11_parted) (maxL := 2) (ret := (some .int)) (by decide) rfl ?_
  intro p e s m args below meth c s₁ B hml hv
  obtain ⟨rfl, hsz, hP, hK, hD0, hE⟩ := hv
  have hx := B.exec
  have hb := B.bytes
  have hr := B.returns
  have hts := atoms_spec (ws := wsX11_parted) B.pre
  have hown : s.vm.findClass RX11 = some m.cls := findClass_of_methodNamed B.named
  have hlocks := B.notSynchronized
  subst hsz
  have hD := hD0.self (sz := s.heap.size)
  generalize hAe : va_A [(h0, .inr (10, [.ref h1, .ref h2, .ref h3, .ref h4, .ref h5, .ref h6, .ref h7, .ref h8, .ref h9, .ref h10, .ref h11, .ref h12, .ref h13, .ref h14, .ref h15, .int (-1), .int 0, .int (-1), .int (-1)])), (h13, .inl (w0, 8, .inl (upd (upd (upd (upd (upd (upd (upd (upd (fun _ => 0) 0 (-1)) 1 (-1)) 2 (-1)) 3 (-1)) 4 (-1)) 5 (-1)) 6 (-1)) 7 (-1))))] s.heap.size = A at hD hE ⊢
  have hA : ∀ q : Nat, s.heap.size ≤ q → A q := fun q h => by rw [← hAe]; exact Or.inr h
  have hS : va_S A s.heap s.heap [] := va_S.rf
  have hl := lv_entry ([.ref h0, .int 4]) (n := 2) (Nat.le_of_ble_eq_true rfl)
  rw [lg_entry_eq]
  generalize (lg_sl ([.ref h0, .int 4]) ++ List.replicate (2 - (lg_sl ([.ref h0, .int 4])).length) Slot.unset).toArray = ls at hl ⊢
  have hl : lv_has ls 2 [(0, .ref h0), (1, .int 4)] := hl
  refine lv_iload_n hx hb dX11_parted_0 rfl (lv_at hl 1 rfl) ?_
  refine lv_if_lt (tgt := 19) hx hb dX11_parted_1 (by decide) (fun c1 => absurd c1 (by decide)) (fun _ => ?_)
  refine lv_iload_n hx hb dX11_parted_4 rfl (lv_at hl 1 rfl) ?_
  refine lv_bipush (v := 8) hx hb dX11_parted_5 (by decide) ?_
  refine lv_icmp_ge (tgt := 19) hx hb dX11_parted_7 (by decide) (fun c2 => absurd c2 (by decide)) (fun _ => ?_)
  refine lv_aload_n hx hb dX11_parted_10 rfl (lv_at hl 0 rfl) ?_
  refine va_get (D := (dC, dI)) (ci := 10) (v := .ref h13) (C := RX11) (T := TX11) (N := 19) hx hb hts ii_X11_parted_X11 hown hK hP 0 rfl rfl 12 (by decide) (hts _ mm_X11_parted_1) (fun _ h9 => h9) rfl dX11_parted_11 ?_
  refine lv_iload_n hx hb dX11_parted_14 rfl (lv_at hl 1 rfl) ?_
  refine va_iald hx hb hK hP 1 0 rfl rfl (i := 4) (zz_in (by decide)) dX11_parted_15 ?_
  refine zz_top (v := (-1)) (by rfl) ?_
  refine lv_goto (tgt := 20) hx hb dX11_parted_16 (by decide) ?_
  have hP9 := hP.sub (ws' := []) [] rfl
  have hD9 := hD.sub (ws' := []) [] (by decide) rfl
  have hK9 := hK.sub (tys' := []) [] rfl
  refine W.widen (k := 0) (n := 0) (Nat.le_of_ble_eq_true rfl) (Nat.le_of_ble_eq_true rfl) ?_
  exact W.iret (v := (-1)) hx hb hr (fun t ht hW => ⟨⟨(-1), (), rfl, rfl, by rw [ht]; exact hP9, va_K.moved hW.alike hK9, hD9⟩, hS.F ht⟩) hS.2.2 dX11_parted_20
set_option maxHeartbeats 4000000 in
set_option maxRecDepth 100000 in
theorem k_X11_parted_5 (l : Launch) (dC : Nat → ClassId) (dI : Nat → Nat → Nat) (ad : Nat → Nat) (h0 h1 h2 h3 h4 h5 h6 h7 h8 h9 h10 h11 h12 h13 h14 h15 : Nat) (w0 : ClassId) (sz : Nat) : Met l yX11_parted wsX11_parted ({ frames := 0, cells := 0, slots := 0, locals := 0 }) (va_Pc [.ref h0, .int 5] (CP (dC, dI) [(h0, .inr (10, [.ref h1, .ref h2, .ref h3, .ref h4, .ref h5, .ref h6, .ref h7, .ref h8, .ref h9, .ref h10, .ref h11, .ref h12, .ref h13, .ref h14, .ref h15, .int (-1), .int 0, .int (-1), .int (-1)])), (h13, .inl (w0, 8, .inl (upd (upd (upd (upd (upd (upd (upd (upd (fun _ => 0) 0 (-1)) 1 (-1)) 2 (-1)) 3 (-1)) 4 (-1)) 5 (-1)) 6 (-1)) 7 (-1))))] [(w0, .int)] sz ad)) (va_Qi (fun (r : Int32) (_ : Unit) => r = (-1)) (fun (_ : Unit) (t : State) => CQ (dC, dI) [] [] (va_A [(h0, .inr (10, [.ref h1, .ref h2, .ref h3, .ref h4, .ref h5, .ref h6, .ref h7, .ref h8, .ref h9, .ref h10, .ref h11, .ref h12, .ref h13, .ref h14, .ref h15, .int (-1), .int 0, .int (-1), .int (-1)])), (h13, .inl (w0, 8, .inl (upd (upd (upd (upd (upd (upd (upd (upd (fun _ => 0) 0 (-1)) 1 (-1)) 2 (-1)) 3 (-1)) 4 (-1)) 5 (-1)) 6 (-1)) 7 (-1))))] sz) t) (va_A [(h0, .inr (10, [.ref h1, .ref h2, .ref h3, .ref h4, .ref h5, .ref h6, .ref h7, .ref h8, .ref h9, .ref h10, .ref h11, .ref h12, .ref h13, .ref h14, .ref h15, .int (-1), .int 0, .int (-1), .int (-1)])), (h13, .inl (w0, 8, .inl (upd (upd (upd (upd (upd (upd (upd (upd (fun _ => 0) 0 (-1)) 1 (-1)) 2 (-1)) 3 (-1)) 4 (-1)) 5 (-1)) 6 (-1)) 7 (-1))))] sz)) 0 0 (va_A [(h0, .inr (10, [.ref h1, .ref h2, .ref h3, .ref h4, .ref h5, .ref h6, .ref h7, .ref h8, .ref h9, .ref h10, .ref h11, .ref h12, .ref h13, .ref h14, .ref h15, .int (-1), .int 0, .int (-1), .int (-1)])), (h13, .inl (w0, 8, .inl (upd (upd (upd (upd (upd (upd (upd (upd (fun _ => 0) 0 (-1)) 1 (-1)) 2 (-1)) 3 (-1)) 4 (-1)) 5 (-1)) 6 (-1)) 7 (-1))))] sz) := by
  refine Met.ofW (cc := cX11_parted) (maxL := 2) (ret := (some .int)) (by decide) rfl ?_
  intro p e s m args below meth c s₁ B hml hv
  obtain ⟨rfl, hsz, hP, hK, hD0, hE⟩ := hv
  have hx := B.exec
  have hb := B.bytes
  have hr := B.returns
  have hts := atoms_spec (ws := wsX11_parted) B.pre
  have hown : s.vm.findClass RX11 = some m.cls := findClass_of_methodNamed B.named
  have hlocks := B.notSynchronized
  subst hsz
  have hD := hD0.self (sz := s.heap.size)
  generalize hAe : va_A [(h0, .inr (10, [.ref h1, .ref h2, .ref h3, .ref h4, .ref h5, .ref h6, .ref h7, .ref h8, .ref h9, .ref h10, .ref h11, .ref h12, .ref h13, .ref h14, .ref h15, .int (-1), .int 0, .int (-1), .int (-1)])), (h13, .inl (w0, 8, .inl (upd (upd (upd (upd (upd (upd (upd (upd (fun _ => 0) 0 (-1)) 1 (-1)) 2 (-1)) 3 (-1)) 4 (-1)) 5 (-1)) 6 (-1)) 7 (-1))))] s.heap.size = A at hD hE ⊢
  have hA : ∀ q : Nat, s.heap.size ≤ q → A q := fun q h => by rw [← hAe]; exact Or.inr h
  have hS : va_S A s.heap s.heap [] := va_S.rf
  have hl := lv_entry ([.ref h0, .int 5]) (n := 2) (Nat.le_of_ble_eq_true rfl)
  rw [lg_entry_eq]
  generalize (lg_sl ([.ref h0, .int 5]) ++ List.replicate (2 - (lg_sl ([.ref h0, .int 5])).length) Slot.unset).toArray = ls at hl ⊢
  have hl : lv_has ls 2 [(0, .ref h0), (1, .int 5)] := hl
  refine lv_iload_n hx hb dX11_parted_0 rfl (lv_at hl 1 rfl) ?_
  refine lv_if_lt (tgt := 19) hx hb dX11_parted_1 (by decide) (fun c1 => absurd c1 (by decide)) (fun _ => ?_)
  refine lv_iload_n hx hb dX11_parted_4 rfl (lv_at hl 1 rfl) ?_
  refine lv_bipush (v := 8) hx hb dX11_parted_5 (by decide) ?_
  refine lv_icmp_ge (tgt := 19) hx hb dX11_parted_7 (by decide) (fun c2 => absurd c2 (by decide)) (fun _ => ?_)
  refine lv_aload_n hx hb dX11_parted_10 rfl (lv_at hl 0 rfl) ?_
  refine va_get (D := (dC, dI)) (ci := 10) (v := .ref h13) (C := RX11) (T := TX11) (N := 19) hx hb hts ii_X11_parted_X11 hown hK hP 0 rfl rfl 12 (by decide) (hts _ mm_X11_parted_1) (fun _ h9 => h9) rfl dX11_parted_11 ?_
  refine lv_iload_n hx hb dX11_parted_14 rfl (lv_at hl 1 rfl) ?_
  refine va_iald hx hb hK hP 1 0 rfl rfl (i := 5) (zz_in (by decide)) dX11_parted_15 ?_
  refine zz_top (v := (-1)) (by rfl) ?_
  refine lv_goto (tgt := 20) hx hb dX11_parted_16 (by decide) ?_
  have hP9 := hP.sub (ws' := []) [] rfl
  have hD9 := hD.sub (ws' := []) [] (by decide) rfl
  have hK9 := hK.sub (tys' := []) [] rfl
  refine W.widen (k := 0) (n := 0) (Nat.le_of_ble_eq_true rfl) (Nat.le_of_ble_eq_true rfl) ?_
  exact W.iret (v := (-1)) hx hb hr (fun t ht hW => ⟨⟨(-1), (), rfl, rfl, by rw [ht]; exact hP9, va_K.moved hW.alike hK9, hD9⟩, hS.F ht⟩) hS.2.2 dX11_parted_20
set_option maxHeartbeats 4000000 in
set_option maxRecDepth 100000 in
theorem k_X11_parted_6 (l : Launch) (dC : Nat → ClassId) (dI : Nat → Nat → Nat) (ad : Nat → Nat) (h0 h1 h2 h3 h4 h5 h6 h7 h8 h9 h10 h11 h12 h13 h14 h15 : Nat) (w0 : ClassId) (sz : Nat) : Met l yX11_parted wsX11_parted ({ frames := 0, cells := 0, slots := 0, locals := 0 }) (va_Pc [.ref h0, .int 6] (CP (dC, dI) [(h0, .inr (10, [.ref h1, .ref h2, .ref h3, .ref h4, .ref h5, .ref h6, .ref h7, .ref h8, .ref h9, .ref h10, .ref h11, .ref h12, .ref h13, .ref h14, .ref h15, .int (-1), .int 0, .int (-1), .int (-1)])), (h13, .inl (w0, 8, .inl (upd (upd (upd (upd (upd (upd (upd (upd (fun _ => 0) 0 (-1)) 1 (-1)) 2 (-1)) 3 (-1)) 4 (-1)) 5 (-1)) 6 (-1)) 7 (-1))))] [(w0, .int)] sz ad)) (va_Qi (fun (r : Int32) (_ : Unit) => r = (-1)) (fun (_ : Unit) (t : State) => CQ (dC, dI) [] [] (va_A [(h0, .inr (10, [.ref h1, .ref h2, .ref h3, .ref h4, .ref h5, .ref h6, .ref h7, .ref h8, .ref h9, .ref h10, .ref h11, .ref h12, .ref h13, .ref h14, .ref h15, .int (-1), .int 0, .int (-1), .int (-1)])), (h13, .inl (w0, 8, .inl (upd (upd (upd (upd (upd (upd (upd (upd (fun _ => 0) 0 (-1)) 1 (-1)) 2 (-1)) 3 (-1)) 4 (-1)) 5 (-1)) 6 (-1)) 7 (-1))))] sz) t) (va_A [(h0, .inr (10, [.ref h1, .ref h2, .ref h3, .ref h4, .ref h5, .ref h6, .ref h7, .ref h8, .ref h9, .ref h10, .ref h11, .ref h12, .ref h13, .ref h14, .ref h15, .int (-1), .int 0, .int (-1), .int (-1)])), (h13, .inl (w0, 8, .inl (upd (upd (upd (upd (upd (upd (upd (upd (fun _ => 0) 0 (-1)) 1 (-1)) 2 (-1)) 3 (-1)) 4 (-1)) 5 (-1)) 6 (-1)) 7 (-1))))] sz)) 0 0 (va_A [(h0, .inr (10, [.ref h1, .ref h2, .ref h3, .ref h4, .ref h5, .ref h6, .ref h7, .ref h8, .ref h9, .ref h10, .ref h11, .ref h12, .ref h13, .ref h14, .ref h15, .int (-1), .int 0, .int (-1), .int (-1)])), (h13, .inl (w0, 8, .inl (upd (upd (upd (upd (upd (upd (upd (upd (fun _ => 0) 0 (-1)) 1 (-1)) 2 (-1)) 3 (-1)) 4 (-1)) 5 (-1)) 6 (-1)) 7 (-1))))] sz) := by
  refine Met.ofW (cc := cX11_parted) (maxL := 2) (ret := (some .int)) (by decide) rfl ?_
  intro p e s m args below meth c s₁ B hml hv
  obtain ⟨rfl, hsz, hP, hK, hD0, hE⟩ := hv
  have hx := B.exec
  have hb := B.bytes
  have hr := B.returns
  have hts := atoms_spec (ws := wsX11_parted) B.pre
  have hown : s.vm.findClass RX11 = some m.cls := findClass_of_methodNamed B.named
  have hlocks := B.notSynchronized
  subst hsz
  have hD := hD0.self (sz := s.heap.size)
  generalize hAe : va_A [(h0, .inr (10, [.ref h1, .ref h2, .ref h3, .ref h4, .ref h5, .ref h6, .ref h7, .ref h8, .ref h9, .ref h10, .ref h11, .ref h12, .ref h13, .ref h14, .ref h15, .int (-1), .int 0, .int (-1), .int (-1)])), (h13, .inl (w0, 8, .inl (upd (upd (upd (upd (upd (upd (upd (upd (fun _ => 0) 0 (-1)) 1 (-1)) 2 (-1)) 3 (-1)) 4 (-1)) 5 (-1)) 6 (-1)) 7 (-1))))] s.heap.size = A at hD hE ⊢
  have hA : ∀ q : Nat, s.heap.size ≤ q → A q := fun q h => by rw [← hAe]; exact Or.inr h
  have hS : va_S A s.heap s.heap [] := va_S.rf
  have hl := lv_entry ([.ref h0, .int 6]) (n := 2) (Nat.le_of_ble_eq_true rfl)
  rw [lg_entry_eq]
  generalize (lg_sl ([.ref h0, .int 6]) ++ List.replicate (2 - (lg_sl ([.ref h0, .int 6])).length) Slot.unset).toArray = ls at hl ⊢
  have hl : lv_has ls 2 [(0, .ref h0), (1, .int 6)] := hl
  refine lv_iload_n hx hb dX11_parted_0 rfl (lv_at hl 1 rfl) ?_
  refine lv_if_lt (tgt := 19) hx hb dX11_parted_1 (by decide) (fun c1 => absurd c1 (by decide)) (fun _ => ?_)
  refine lv_iload_n hx hb dX11_parted_4 rfl (lv_at hl 1 rfl) ?_
  refine lv_bipush (v := 8) hx hb dX11_parted_5 (by decide) ?_
  refine lv_icmp_ge (tgt := 19) hx hb dX11_parted_7 (by decide) (fun c2 => absurd c2 (by decide)) (fun _ => ?_)
  refine lv_aload_n hx hb dX11_parted_10 rfl (lv_at hl 0 rfl) ?_
  refine va_get (D := (dC, dI)) (ci := 10) (v := .ref h13) (C := RX11) (T := TX11) (N := 19) hx hb hts ii_X11_parted_X11 hown hK hP 0 rfl rfl 12 (by decide) (hts _ mm_X11_parted_1) (fun _ h9 => h9) rfl dX11_parted_11 ?_
  refine lv_iload_n hx hb dX11_parted_14 rfl (lv_at hl 1 rfl) ?_
  refine va_iald hx hb hK hP 1 0 rfl rfl (i := 6) (zz_in (by decide)) dX11_parted_15 ?_
  refine zz_top (v := (-1)) (by rfl) ?_
  refine lv_goto (tgt := 20) hx hb dX11_parted_16 (by decide) ?_
  have hP9 := hP.sub (ws' := []) [] rfl
  have hD9 := hD.sub (ws' := []) [] (by decide) rfl
  have hK9 := hK.sub (tys' := []) [] rfl
  refine W.widen (k := 0) (n := 0) (Nat.le_of_ble_eq_true rfl) (Nat.le_of_ble_eq_true rfl) ?_
  exact W.iret (v := (-1)) hx hb hr (fun t ht hW => ⟨⟨(-1), (), rfl, rfl, by rw [ht]; exact hP9, va_K.moved hW.alike hK9, hD9⟩, hS.F ht⟩) hS.2.2 dX11_parted_20
set_option maxHeartbeats 4000000 in
set_option maxRecDepth 100000 in
theorem k_X11_parted_7 (l : Launch) (dC : Nat → ClassId) (dI : Nat → Nat → Nat) (ad : Nat → Nat) (h0 h1 h2 h3 h4 h5 h6 h7 h8 h9 h10 h11 h12 h13 h14 h15 : Nat) (w0 : ClassId) (sz : Nat) : Met l yX11_parted wsX11_parted ({ frames := 0, cells := 0, slots := 0, locals := 0 }) (va_Pc [.ref h0, .int 7] (CP (dC, dI) [(h0, .inr (10, [.ref h1, .ref h2, .ref h3, .ref h4, .ref h5, .ref h6, .ref h7, .ref h8, .ref h9, .ref h10, .ref h11, .ref h12, .ref h13, .ref h14, .ref h15, .int (-1), .int 0, .int (-1), .int (-1)])), (h13, .inl (w0, 8, .inl (upd (upd (upd (upd (upd (upd (upd (upd (fun _ => 0) 0 (-1)) 1 (-1)) 2 (-1)) 3 (-1)) 4 (-1)) 5 (-1)) 6 (-1)) 7 (-1))))] [(w0, .int)] sz ad)) (va_Qi (fun (r : Int32) (_ : Unit) => r = (-1)) (fun (_ : Unit) (t : State) => CQ (dC, dI) [] [] (va_A [(h0, .inr (10, [.ref h1, .ref h2, .ref h3, .ref h4, .ref h5, .ref h6, .ref h7, .ref h8, .ref h9, .ref h10, .ref h11, .ref h12, .ref h13, .ref h14, .ref h15, .int (-1), .int 0, .int (-1), .int (-1)])), (h13, .inl (w0, 8, .inl (upd (upd (upd (upd (upd (upd (upd (upd (fun _ => 0) 0 (-1)) 1 (-1)) 2 (-1)) 3 (-1)) 4 (-1)) 5 (-1)) 6 (-1)) 7 (-1))))] sz) t) (va_A [(h0, .inr (10, [.ref h1, .ref h2, .ref h3, .ref h4, .ref h5, .ref h6, .ref h7, .ref h8, .ref h9, .ref h10, .ref h11, .ref h12, .ref h13, .ref h14, .ref h15, .int (-1), .int 0, .int (-1), .int (-1)])), (h13, .inl (w0, 8, .inl (upd (upd (upd (upd (upd (upd (upd (upd (fun _ => 0) 0 (-1)) 1 (-1)) 2 (-1)) 3 (-1)) 4 (-1)) 5 (-1)) 6 (-1)) 7 (-1))))] sz)) 0 0 (va_A [(h0, .inr (10, [.ref h1, .ref h2, .ref h3, .ref h4, .ref h5, .ref h6, .ref h7, .ref h8, .ref h9, .ref h10, .ref h11, .ref h12, .ref h13, .ref h14, .ref h15, .int (-1), .int 0, .int (-1), .int (-1)])), (h13, .inl (w0, 8, .inl (upd (upd (upd (upd (upd (upd (upd (upd (fun _ => 0) 0 (-1)) 1 (-1)) 2 (-1)) 3 (-1)) 4 (-1)) 5 (-1)) 6 (-1)) 7 (-1))))] sz) := by
  refine Met.ofW (cc := cX11_parted) (maxL := 2) (ret := (some .int)) (by decide) rfl ?_
  intro p e s m args below meth c s₁ B hml hv
  obtain ⟨rfl, hsz, hP, hK, hD0, hE⟩ := hv
  have hx := B.exec
  have hb := B.bytes
  have hr := B.returns
  have hts := atoms_spec (ws := wsX11_parted) B.pre
  have hown : s.vm.findClass RX11 = some m.cls := findClass_of_methodNamed B.named
  have hlocks := B.notSynchronized
  subst hsz
  have hD := hD0.self (sz := s.heap.size)
  generalize hAe : va_A [(h0, .inr (10, [.ref h1, .ref h2, .ref h3, .ref h4, .ref h5, .ref h6, .ref h7, .ref h8, .ref h9, .ref h10, .ref h11, .ref h12, .ref h13, .ref h14, .ref h15, .int (-1), .int 0, .int (-1), .int (-1)])), (h13, .inl (w0, 8, .inl (upd (upd (upd (upd (upd (upd (upd (upd (fun _ => 0) 0 (-1)) 1 (-1)) 2 (-1)) 3 (-1)) 4 (-1)) 5 (-1)) 6 (-1)) 7 (-1))))] s.heap.size = A at hD hE ⊢
  have hA : ∀ q : Nat, s.heap.size ≤ q → A q := fun q h => by rw [← hAe]; exact Or.inr h
  have hS : va_S A s.heap s.heap [] := va_S.rf
  have hl := lv_entry ([.ref h0, .int 7]) (n := 2) (Nat.le_of_ble_eq_true rfl)
  rw [lg_entry_eq]
  generalize (lg_sl ([.ref h0, .int 7]) ++ List.replicate (2 - (lg_sl ([.ref h0, .int 7])).length) Slot.unset).toArray = ls at hl ⊢
  have hl : lv_has ls 2 [(0, .ref h0), (1, .int 7)] := hl
  refine lv_iload_n hx hb dX11_parted_0 rfl (lv_at hl 1 rfl) ?_
  refine lv_if_lt (tgt := 19) hx hb dX11_parted_1 (by decide) (fun c1 => absurd c1 (by decide)) (fun _ => ?_)
  refine lv_iload_n hx hb dX11_parted_4 rfl (lv_at hl 1 rfl) ?_
  refine lv_bipush (v := 8) hx hb dX11_parted_5 (by decide) ?_
  refine lv_icmp_ge (tgt := 19) hx hb dX11_parted_7 (by decide) (fun c2 => absurd c2 (by decide)) (fun _ => ?_)
  refine lv_aload_n hx hb dX11_parted_10 rfl (lv_at hl 0 rfl) ?_
  refine va_get (D := (dC, dI)) (ci := 10) (v := .ref h13) (C := RX11) (T := TX11) (N := 19) hx hb hts ii_X11_parted_X11 hown hK hP 0 rfl rfl 12 (by decide) (hts _ mm_X11_parted_1) (fun _ h9 => h9) rfl dX11_parted_11 ?_
  refine lv_iload_n hx hb dX11_parted_14 rfl (lv_at hl 1 rfl) ?_
  refine va_iald hx hb hK hP 1 0 rfl rfl (i := 7) (zz_in (by decide)) dX11_parted_15 ?_
  refine zz_top (v := (-1)) (by rfl) ?_
  refine lv_goto (tgt := 20) hx hb dX11_parted_16 (by decide) ?_
  have hP9 := hP.sub (ws' := []) [] rfl
  have hD9 := hD.sub (ws' := []) [] (by decide) rfl
  have hK9 := hK.sub (tys' := []) [] rfl
  refine W.widen (k := 0) (n := 0) (Nat.le_of_ble_eq_true rfl) (Nat.le_of_ble_eq_true rfl) ?_
  exact W.iret (v := (-1)) hx hb hr (fun t ht hW => ⟨⟨(-1), (), rfl, rfl, by rw [ht]; exact hP9, va_K.moved hW.alike hK9, hD9⟩, hS.F ht⟩) hS.2.2 dX11_parted_20
set_option maxHeartbeats 4000000 in
set_option maxRecDepth 100000 in
theorem k_X11_parted_8 (l : Launch) (dC : Nat → ClassId) (dI : Nat → Nat → Nat) (ad : Nat → Nat) (h0 : Nat) (p0 : Int32) (sz : Nat) (e0_0 : p0 < 0) : Met l yX11_parted wsX11_parted ({ frames := 0, cells := 0, slots := 0, locals := 0 }) (va_Pc [.ref h0, .int p0] (CP (dC, dI) [] [] sz ad)) (va_Qi (fun (r : Int32) (_ : Unit) => r = (-1)) (fun (_ : Unit) (t : State) => CQ (dC, dI) [] [] (va_A [] sz) t) (va_A [] sz)) 0 0 (va_A [] sz) := by
  refine Met.ofW (cc := cX11_parted) (maxL := 2) (ret := (some .int)) (by decide) rfl ?_
  intro p e s m args below meth c s₁ B hml hv
  obtain ⟨rfl, hsz, hP, hK, hD0, hE⟩ := hv
  have hx := B.exec
  have hb := B.bytes
  have hr := B.returns
  have hts := atoms_spec (ws := wsX11_parted) B.pre
  have hown : s.vm.findClass RX11 = some m.cls := findClass_of_methodNamed B.named
  have hlocks := B.notSynchronized
  subst hsz
  have hD := hD0.self (sz := s.heap.size)
  generalize hAe : va_A [] s.heap.size = A at hD hE ⊢
  have hA : ∀ q : Nat, s.heap.size ≤ q → A q := fun q h => by rw [← hAe]; exact Or.inr h
  have hS : va_S A s.heap s.heap [] := va_S.rf
  have hl := lv_entry ([.ref h0, .int p0]) (n := 2) (Nat.le_of_ble_eq_true rfl)
  rw [lg_entry_eq]
  generalize (lg_sl ([.ref h0, .int p0]) ++ List.replicate (2 - (lg_sl ([.ref h0, .int p0])).length) Slot.unset).toArray = ls at hl ⊢
  have hl : lv_has ls 2 [(0, .ref h0), (1, .int p0)] := hl
  refine lv_iload_n hx hb dX11_parted_0 rfl (lv_at hl 1 rfl) ?_
  refine lv_if_lt (tgt := 19) hx hb dX11_parted_1 (by decide) (fun _ => ?_) (fun c1 => ?_)
  rotate_left
  · exfalso; clear hP hD hK hS hE; simp only [Int32.lt_iff_toInt_lt, Int32.le_iff_toInt_le, ← Int32.toInt_inj, Int32.reduceToInt] at e0_0 c1; omega
  refine lv_iconst (v := (-1)) hx hb dX11_parted_19 (by decide) ?_
  have hP9 := hP.sub (ws' := []) [] rfl
  have hD9 := hD.sub (ws' := []) [] (by decide) rfl
  have hK9 := hK.sub (tys' := []) [] rfl
  refine W.widen (k := 0) (n := 0) (Nat.le_of_ble_eq_true rfl) (Nat.le_of_ble_eq_true rfl) ?_
  exact W.iret (v := (-1)) hx hb hr (fun t ht hW => ⟨⟨(-1), (), rfl, rfl, by rw [ht]; exact hP9, va_K.moved hW.alike hK9, hD9⟩, hS.F ht⟩) hS.2.2 dX11_parted_20
set_option maxHeartbeats 4000000 in
set_option maxRecDepth 100000 in
theorem k_X11_parted_9 (l : Launch) (dC : Nat → ClassId) (dI : Nat → Nat → Nat) (ad : Nat → Nat) (h0 : Nat) (p0 : Int32) (sz : Nat) (e0_0 : 7 < p0) : Met l yX11_parted wsX11_parted ({ frames := 0, cells := 0, slots := 0, locals := 0 }) (va_Pc [.ref h0, .int p0] (CP (dC, dI) [] [] sz ad)) (va_Qi (fun (r : Int32) (_ : Unit) => r = (-1)) (fun (_ : Unit) (t : State) => CQ (dC, dI) [] [] (va_A [] sz) t) (va_A [] sz)) 0 0 (va_A [] sz) := by
  refine Met.ofW (cc := cX11_parted) (maxL := 2) (ret := (some .int)) (by decide) rfl ?_
  intro p e s m args below meth c s₁ B hml hv
  obtain ⟨rfl, hsz, hP, hK, hD0, hE⟩ := hv
  have hx := B.exec
  have hb := B.bytes
  have hr := B.returns
  have hts := atoms_spec (ws := wsX11_parted) B.pre
  have hown : s.vm.findClass RX11 = some m.cls := findClass_of_methodNamed B.named
  have hlocks := B.notSynchronized
  subst hsz
  have hD := hD0.self (sz := s.heap.size)
  generalize hAe : va_A [] s.heap.size = A at hD hE ⊢
  have hA : ∀ q : Nat, s.heap.size ≤ q → A q := fun q h => by rw [← hAe]; exact Or.inr h
  have hS : va_S A s.heap s.heap [] := va_S.rf
  have hl := lv_entry ([.ref h0, .int p0]) (n := 2) (Nat.le_of_ble_eq_true rfl)
  rw [lg_entry_eq]
  generalize (lg_sl ([.ref h0, .int p0]) ++ List.replicate (2 - (lg_sl ([.ref h0, .int p0])).length) Slot.unset).toArray = ls at hl ⊢
  have hl : lv_has ls 2 [(0, .ref h0), (1, .int p0)] := hl
  refine lv_iload_n hx hb dX11_parted_0 rfl (lv_at hl 1 rfl) ?_
  refine lv_if_lt (tgt := 19) hx hb dX11_parted_1 (by decide) (fun c1 => ?_) (fun _ => ?_)
  · exfalso; clear hP hD hK hS hE; simp only [Int32.lt_iff_toInt_lt, Int32.le_iff_toInt_le, ← Int32.toInt_inj, Int32.reduceToInt] at e0_0 c1; omega
  refine lv_iload_n hx hb dX11_parted_4 rfl (lv_at hl 1 rfl) ?_
  refine lv_bipush (v := 8) hx hb dX11_parted_5 (by decide) ?_
  refine lv_icmp_ge (tgt := 19) hx hb dX11_parted_7 (by decide) (fun _ => ?_) (fun c2 => ?_)
  rotate_left
  · exfalso; clear hP hD hK hS hE; simp only [Int32.lt_iff_toInt_lt, Int32.le_iff_toInt_le, ← Int32.toInt_inj, Int32.reduceToInt] at e0_0 c2; omega
  refine lv_iconst (v := (-1)) hx hb dX11_parted_19 (by decide) ?_
  have hP9 := hP.sub (ws' := []) [] rfl
  have hD9 := hD.sub (ws' := []) [] (by decide) rfl
  have hK9 := hK.sub (tys' := []) [] rfl
  refine W.widen (k := 0) (n := 0) (Nat.le_of_ble_eq_true rfl) (Nat.le_of_ble_eq_true rfl) ?_
  exact W.iret (v := (-1)) hx hb hr (fun t ht hW => ⟨⟨(-1), (), rfl, rfl, by rw [ht]; exact hP9, va_K.moved hW.alike hK9, hD9⟩, hS.F ht⟩) hS.2.2 dX11_parted_20
set_option maxHeartbeats 4000000 in
set_option maxRecDepth 100000 in
theorem k_X11_partedGood (l : Launch) (dC : Nat → ClassId) (dI : Nat → Nat → Nat) (ad : Nat → Nat) (h0 h1 h2 h3 h4 h5 h6 h7 h8 h9 h10 h11 h12 h13 h14 h15 : Nat) (sz : Nat) : Met l yX11_partedGood wsX11_partedGood ({ frames := 0, cells := 0, slots := 0, locals := 0 }) (va_Pc [.ref h0] (CP (dC, dI) [(h0, .inr (10, [.ref h1, .ref h2, .ref h3, .ref h4, .ref h5, .ref h6, .ref h7, .ref h8, .ref h9, .ref h10, .ref h11, .ref h12, .ref h13, .ref h14, .ref h15, .int (-1), .int 0, .int (-1), .int (-1)]))] [] sz ad)) (va_Qi (fun (r : Int32) (_ : Unit) => r = (-1)) (fun (_ : Unit) (t : State) => CQ (dC, dI) [] [] (va_A [(h0, .inr (10, [.ref h1, .ref h2, .ref h3, .ref h4, .ref h5, .ref h6, .ref h7, .ref h8, .ref h9, .ref h10, .ref h11, .ref h12, .ref h13, .ref h14, .ref h15, .int (-1), .int 0, .int (-1), .int (-1)]))] sz) t) (va_A [(h0, .inr (10, [.ref h1, .ref h2, .ref h3, .ref h4, .ref h5, .ref h6, .ref h7, .ref h8, .ref h9, .ref h10, .ref h11, .ref h12, .ref h13, .ref h14, .ref h15, .int (-1), .int 0, .int (-1), .int (-1)]))] sz)) 0 0 (va_A [(h0, .inr (10, [.ref h1, .ref h2, .ref h3, .ref h4, .ref h5, .ref h6, .ref h7, .ref h8, .ref h9, .ref h10, .ref h11, .ref h12, .ref h13, .ref h14, .ref h15, .int (-1), .int 0, .int (-1), .int (-1)]))] sz) := by
  refine Met.ofW (cc := cX11_partedGood) (maxL := 1) (ret := (some .int)) (by decide) rfl ?_
  intro p e s m args below meth c s₁ B hml hv
  obtain ⟨rfl, hsz, hP, hK, hD0, hE⟩ := hv
  have hx := B.exec
  have hb := B.bytes
  have hr := B.returns
  have hts := atoms_spec (ws := wsX11_partedGood) B.pre
  have hown : s.vm.findClass RX11 = some m.cls := findClass_of_methodNamed B.named
  have hlocks := B.notSynchronized
  subst hsz
  have hD := hD0.self (sz := s.heap.size)
  generalize hAe : va_A [(h0, .inr (10, [.ref h1, .ref h2, .ref h3, .ref h4, .ref h5, .ref h6, .ref h7, .ref h8, .ref h9, .ref h10, .ref h11, .ref h12, .ref h13, .ref h14, .ref h15, .int (-1), .int 0, .int (-1), .int (-1)]))] s.heap.size = A at hD hE ⊢
  have hA : ∀ q : Nat, s.heap.size ≤ q → A q := fun q h => by rw [← hAe]; exact Or.inr h
  have hS : va_S A s.heap s.heap [] := va_S.rf
  have hl := lv_entry ([.ref h0]) (n := 1) (Nat.le_of_ble_eq_true rfl)
  rw [lg_entry_eq]
  generalize (lg_sl ([.ref h0]) ++ List.replicate (1 - (lg_sl ([.ref h0])).length) Slot.unset).toArray = ls at hl ⊢
  have hl : lv_has ls 1 [(0, .ref h0)] := hl
  refine lv_aload_n hx hb dX11_partedGood_0 rfl (lv_at hl 0 rfl) ?_
  refine va_get (D := (dC, dI)) (ci := 10) (v := .int (-1)) (C := RX11) (T := TX11) (N := 19) hx hb hts ii_X11_partedGood_X11 hown hK hP 0 rfl rfl 15 (by decide) (hts _ mm_X11_partedGood_1) (fun _ h9 => h9) rfl dX11_partedGood_1 ?_
  have hP9 := hP.sub (ws' := []) [] rfl
  have hD9 := hD.sub (ws' := []) [] (by decide) rfl
  have hK9 := hK.sub (tys' := []) [] rfl
  refine W.widen (k := 0) (n := 0) (Nat.le_of_ble_eq_true rfl) (Nat.le_of_ble_eq_true rfl) ?_
  exact W.iret (v := (-1)) hx hb hr (fun t ht hW => ⟨⟨(-1), (), rfl, rfl, by rw [ht]; exact hP9, va_K.moved hW.alike hK9, hD9⟩, hS.F ht⟩) hS.2.2 dX11_partedGood_4
set_option maxHeartbeats 4000000 in
set_option maxRecDepth 100000 in
theorem k_X11_tracks (l : Launch) (dC : Nat → ClassId) (dI : Nat → Nat → Nat) (ad : Nat → Nat) (h0 h1 h2 h3 h4 h5 h6 h7 h8 h9 h10 h11 h12 h13 h14 h15 h16 : Nat) (sz : Nat) : Met l yX11_tracks wsX11_tracks ({ frames := 0, cells := 0, slots := 0, locals := 0 }) (va_Pc [.ref h0] (CP (dC, dI) [(h0, .inr (10, [.ref h1, .ref h2, .ref h3, .ref h4, .ref h5, .ref h6, .ref h7, .ref h8, .ref h9, .ref h10, .ref h11, .ref h12, .ref h13, .ref h14, .ref h15, .int (-1), .int 0, .int (-1), .int (-1)])), (h1, .inr (9, [.ref h16, .int 0, .int 0, .int 0, .int 0, .int 0, .int 0, .ref (ad 25), .long 0, .int 0, .long 0, .int 0, .int 0, .int 0, .int 0]))] [] sz ad)) (va_Qi (fun (r : Int32) (_ : Unit) => r = (-1)) (fun (_ : Unit) (t : State) => CQ (dC, dI) [] [] (va_A [(h0, .inr (10, [.ref h1, .ref h2, .ref h3, .ref h4, .ref h5, .ref h6, .ref h7, .ref h8, .ref h9, .ref h10, .ref h11, .ref h12, .ref h13, .ref h14, .ref h15, .int (-1), .int 0, .int (-1), .int (-1)])), (h1, .inr (9, [.ref h16, .int 0, .int 0, .int 0, .int 0, .int 0, .int 0, .ref (ad 25), .long 0, .int 0, .long 0, .int 0, .int 0, .int 0, .int 0]))] sz) t) (va_A [(h0, .inr (10, [.ref h1, .ref h2, .ref h3, .ref h4, .ref h5, .ref h6, .ref h7, .ref h8, .ref h9, .ref h10, .ref h11, .ref h12, .ref h13, .ref h14, .ref h15, .int (-1), .int 0, .int (-1), .int (-1)])), (h1, .inr (9, [.ref h16, .int 0, .int 0, .int 0, .int 0, .int 0, .int 0, .ref (ad 25), .long 0, .int 0, .long 0, .int 0, .int 0, .int 0, .int 0]))] sz)) 0 0 (va_A [(h0, .inr (10, [.ref h1, .ref h2, .ref h3, .ref h4, .ref h5, .ref h6, .ref h7, .ref h8, .ref h9, .ref h10, .ref h11, .ref h12, .ref h13, .ref h14, .ref h15, .int (-1), .int 0, .int (-1), .int (-1)])), (h1, .inr (9, [.ref h16, .int 0, .int 0, .int 0, .int 0, .int 0, .int 0, .ref (ad 25), .long 0, .int 0, .long 0, .int 0, .int 0, .int 0, .int 0]))] sz) := by
  refine Met.ofW (cc := cX11_tracks) (maxL := 5) (ret := (some .int)) (by decide) rfl ?_
  intro p e s m args below meth c s₁ B hml hv
  obtain ⟨rfl, hsz, hP, hK, hD0, hE⟩ := hv
  have hx := B.exec
  have hb := B.bytes
  have hr := B.returns
  have hts := atoms_spec (ws := wsX11_tracks) B.pre
  have hown : s.vm.findClass RX11 = some m.cls := findClass_of_methodNamed B.named
  have hlocks := B.notSynchronized
  subst hsz
  have hD := hD0.self (sz := s.heap.size)
  generalize hAe : va_A [(h0, .inr (10, [.ref h1, .ref h2, .ref h3, .ref h4, .ref h5, .ref h6, .ref h7, .ref h8, .ref h9, .ref h10, .ref h11, .ref h12, .ref h13, .ref h14, .ref h15, .int (-1), .int 0, .int (-1), .int (-1)])), (h1, .inr (9, [.ref h16, .int 0, .int 0, .int 0, .int 0, .int 0, .int 0, .ref (ad 25), .long 0, .int 0, .long 0, .int 0, .int 0, .int 0, .int 0]))] s.heap.size = A at hD hE ⊢
  have hA : ∀ q : Nat, s.heap.size ≤ q → A q := fun q h => by rw [← hAe]; exact Or.inr h
  have hS : va_S A s.heap s.heap [] := va_S.rf
  have hl := lv_entry ([.ref h0]) (n := 5) (Nat.le_of_ble_eq_true rfl)
  rw [lg_entry_eq]
  generalize (lg_sl ([.ref h0]) ++ List.replicate (5 - (lg_sl ([.ref h0])).length) Slot.unset).toArray = ls at hl ⊢
  have hl : lv_has ls 5 [(0, .ref h0)] := hl
  refine lv_aload_n hx hb dX11_tracks_0 rfl (lv_at hl 0 rfl) ?_
  refine va_get (D := (dC, dI)) (ci := 10) (v := .ref h1) (C := RX11) (T := TX11) (N := 19) hx hb hts ii_X11_tracks_X11 hown hK hP 0 rfl rfl 0 (by decide) (hts _ mm_X11_tracks_1) (fun _ h9 => h9) rfl dX11_tracks_1 ?_
  refine va_getN (host := "OffTheLead") (D := (dC, dI)) (ci := 9) (v := .int 0) (C := RX8) (T := TX8) (N := 15) hx hb hts ii_X11_tracks_X8 hown hK hP 1 rfl rfl 1 (by decide) (va_Nw.use rfl (nf_X11_100 hE)) (fun _ h9 => h9) rfl dX11_tracks_4 ?_
  refine lv_iconst (v := 2) hx hb dX11_tracks_7 (by decide) ?_
  refine lv_irem hx hb dX11_tracks_8 (by decide) ?_
  refine zz_top (v := 0) (by decide) ?_
  refine lv_if_ne (tgt := 45) hx hb dX11_tracks_9 (by decide) (fun c1 => absurd (by decide) c1) (fun _ => ?_)
  refine lv_aload_n hx hb dX11_tracks_12 rfl (lv_at hl 0 rfl) ?_
  refine va_get (D := (dC, dI)) (ci := 10) (v := .ref h1) (C := RX11) (T := TX11) (N := 19) hx hb hts ii_X11_tracks_X11 hown hK hP 0 rfl rfl 0 (by decide) (hts _ mm_X11_tracks_1) (fun _ h9 => h9) rfl dX11_tracks_13 ?_
  refine va_getN (host := "OffTheLead") (D := (dC, dI)) (ci := 9) (v := .int 0) (C := RX8) (T := TX8) (N := 15) hx hb hts ii_X11_tracks_X8 hown hK hP 1 rfl rfl 1 (by decide) (va_Nw.use rfl (nf_X11_100 hE)) (fun _ h9 => h9) rfl dX11_tracks_16 ?_
  refine lv_iconst (v := 2) hx hb dX11_tracks_19 (by decide) ?_
  refine lv_icmp_lt (tgt := 45) hx hb dX11_tracks_20 (by decide) (fun _ => ?_) (fun c2 => absurd (by decide) c2)
  refine lv_iconst (v := (-1)) hx hb dX11_tracks_45 (by decide) ?_
  refine lv_istore_n (lv' := [(1, .int (-1)), (0, .ref h0)]) hx hb dX11_tracks_46 rfl hl (by decide) rfl (fun ls hl => ?_)
  refine lv_iconst (v := 0) hx hb dX11_tracks_47 (by decide) ?_
  refine lv_istore_n (lv' := [(2, .int 0), (1, .int (-1)), (0, .ref h0)]) hx hb dX11_tracks_48 rfl hl (by decide) rfl (fun ls hl => ?_)
  refine lv_iload_n hx hb dX11_tracks_49 rfl (lv_at hl 0 rfl) ?_
  refine lv_iconst (v := 1) hx hb dX11_tracks_50 (by decide) ?_
  refine lv_iadd hx hb dX11_tracks_51 ?_
  refine zz_top (v := 1) (by decide) ?_
  refine lv_aload_n hx hb dX11_tracks_52 rfl (lv_at hl 2 rfl) ?_
  refine va_get (D := (dC, dI)) (ci := 10) (v := .ref h1) (C := RX11) (T := TX11) (N := 19) hx hb hts ii_X11_tracks_X11 hown hK hP 0 rfl rfl 0 (by decide) (hts _ mm_X11_tracks_1) (fun _ h9 => h9) rfl dX11_tracks_53 ?_
  refine va_getN (host := "OffTheLead") (D := (dC, dI)) (ci := 9) (v := .int 0) (C := RX8) (T := TX8) (N := 15) hx hb hts ii_X11_tracks_X8 hown hK hP 1 rfl rfl 1 (by decide) (va_Nw.use rfl (nf_X11_100 hE)) (fun _ h9 => h9) rfl dX11_tracks_56 ?_
  refine lv_icmp_ge (tgt := 129) hx hb dX11_tracks_59 (by decide) (fun _ => ?_) (fun c3 => absurd (by decide) c3)
  refine lv_aload_n hx hb dX11_tracks_129 rfl (lv_at hl 2 rfl) ?_
  refine va_get (D := (dC, dI)) (ci := 10) (v := .ref h1) (C := RX11) (T := TX11) (N := 19) hx hb hts ii_X11_tracks_X11 hown hK hP 0 rfl rfl 0 (by decide) (hts _ mm_X11_tracks_1) (fun _ h9 => h9) rfl dX11_tracks_130 ?_
  refine lv_iconst (v := 0) hx hb dX11_tracks_133 (by decide) ?_
  refine va_putN (host := "OffTheLead") (D := (dC, dI)) (ci := 9) (v := .int 0) (ty := .int) (C := RX8) (T := TX8) (N := 15) hx hb hts ii_X11_tracks_X8 tyX8 tyX8_ok nmX8 hown hK hP hD hS 1 rfl rfl 1 (by decide) (va_Nw.use rfl (nf_X11_100 hE)) (fun _ h9 => h9) rfl (by decide +kernel) rfl rfl (Nat.le_of_ble_eq_true rfl) dX11_tracks_134 (fun H locs hP hD hS => ?_)
  have hP : va_P (dC, dI) vwCl [(h0, .inr (10, [.ref h1, .ref h2, .ref h3, .ref h4, .ref h5, .ref h6, .ref h7, .ref h8, .ref h9, .ref h10, .ref h11, .ref h12, .ref h13, .ref h14, .ref h15, .int (-1), .int 0, .int (-1), .int (-1)])), (h1, .inr (9, [.ref h16, .int 0, .int 0, .int 0, .int 0, .int 0, .int 0, .ref (ad 25), .long 0, .int 0, .long 0, .int 0, .int 0, .int 0, .int 0]))] H := hP
  have hD : va_D A [(h0, .inr (10, [.ref h1, .ref h2, .ref h3, .ref h4, .ref h5, .ref h6, .ref h7, .ref h8, .ref h9, .ref h10, .ref h11, .ref h12, .ref h13, .ref h14, .ref h15, .int (-1), .int 0, .int (-1), .int (-1)])), (h1, .inr (9, [.ref h16, .int 0, .int 0, .int 0, .int 0, .int 0, .int 0, .ref (ad 25), .long 0, .int 0, .long 0, .int 0, .int 0, .int 0, .int 0]))] := hD
  refine lv_iload_n hx hb dX11_tracks_137 rfl (lv_at hl 1 rfl) ?_
  have hP9 := hP.sub (ws' := []) [] rfl
  have hD9 := hD.sub (ws' := []) [] (by decide) rfl
  have hK9 := hK.sub (tys' := []) [] rfl
  refine W.widen (k := 0) (n := 0) (Nat.le_of_ble_eq_true rfl) (Nat.le_of_ble_eq_true rfl) ?_
  exact W.iret (v := (-1)) hx hb hr (fun t ht hW => ⟨⟨(-1), (), rfl, rfl, by rw [ht]; exact hP9, va_K.moved hW.alike hK9, hD9⟩, hS.F ht⟩) hS.2.2 dX11_tracks_138
set_option maxHeartbeats 4000000 in
set_option maxRecDepth 100000 in
theorem k_X11_votes (l : Launch) (dC : Nat → ClassId) (dI : Nat → Nat → Nat) (ad : Nat → Nat) (h0 h1 h2 h3 h4 h5 h6 h7 h8 h9 h10 h11 h12 h13 h14 h15 h16 h17 h18 h19 h20 : Nat) (p0 : Int32) (sz : Nat) : Met l yX11_votes wsX11_votes ({ frames := 1, cells := 0, slots := 0, locals := 21 }) (va_Pc [.ref h0, .int p0] (CP (dC, dI) [(h0, .inr (10, [.ref h1, .ref h2, .ref h3, .ref h4, .ref h5, .ref h6, .ref h7, .ref h8, .ref h9, .ref h10, .ref h11, .ref h12, .ref h13, .ref h14, .ref h15, .int (-1), .int 0, .int (-1), .int (-1)])), (h2, .inr (5, [.ref h16, .ref h17, .ref h18, .ref h19, .ref h20, .int 0, .int 0, .int 0, .int 2, .int 0, .int 0, .int 0]))] [] sz ad)) (va_Qi (fun (r : Int32) (_ : Unit) => r = (-1)) (fun (_ : Unit) (t : State) => CQ (dC, dI) [] [] (va_A [(h0, .inr (10, [.ref h1, .ref h2, .ref h3, .ref h4, .ref h5, .ref h6, .ref h7, .ref h8, .ref h9, .ref h10, .ref h11, .ref h12, .ref h13, .ref h14, .ref h15, .int (-1), .int 0, .int (-1), .int (-1)])), (h2, .inr (5, [.ref h16, .ref h17, .ref h18, .ref h19, .ref h20, .int 0, .int 0, .int 0, .int 2, .int 0, .int 0, .int 0]))] sz) t) (va_A [(h0, .inr (10, [.ref h1, .ref h2, .ref h3, .ref h4, .ref h5, .ref h6, .ref h7, .ref h8, .ref h9, .ref h10, .ref h11, .ref h12, .ref h13, .ref h14, .ref h15, .int (-1), .int 0, .int (-1), .int (-1)])), (h2, .inr (5, [.ref h16, .ref h17, .ref h18, .ref h19, .ref h20, .int 0, .int 0, .int 0, .int 2, .int 0, .int 0, .int 0]))] sz)) 0 0 (va_A [(h0, .inr (10, [.ref h1, .ref h2, .ref h3, .ref h4, .ref h5, .ref h6, .ref h7, .ref h8, .ref h9, .ref h10, .ref h11, .ref h12, .ref h13, .ref h14, .ref h15, .int (-1), .int 0, .int (-1), .int (-1)])), (h2, .inr (5, [.ref h16, .ref h17, .ref h18, .ref h19, .ref h20, .int 0, .int 0, .int 0, .int 2, .int 0, .int 0, .int 0]))] sz) := by
  refine Met.ofW (cc := cX11_votes) (maxL := 2) (ret := (some .int)) (by decide) rfl ?_
  intro p e s m args below meth c s₁ B hml hv
  obtain ⟨rfl, hsz, hP, hK, hD0, hE⟩ := hv
  have hx := B.exec
  have hb := B.bytes
  have hr := B.returns
  have hts := atoms_spec (ws := wsX11_votes) B.pre
  have hown : s.vm.findClass RX11 = some m.cls := findClass_of_methodNamed B.named
  have hlocks := B.notSynchronized
  subst hsz
  have hD := hD0.self (sz := s.heap.size)
  generalize hAe : va_A [(h0, .inr (10, [.ref h1, .ref h2, .ref h3, .ref h4, .ref h5, .ref h6, .ref h7, .ref h8, .ref h9, .ref h10, .ref h11, .ref h12, .ref h13, .ref h14, .ref h15, .int (-1), .int 0, .int (-1), .int (-1)])), (h2, .inr (5, [.ref h16, .ref h17, .ref h18, .ref h19, .ref h20, .int 0, .int 0, .int 0, .int 2, .int 0, .int 0, .int 0]))] s.heap.size = A at hD hE ⊢
  have hA : ∀ q : Nat, s.heap.size ≤ q → A q := fun q h => by rw [← hAe]; exact Or.inr h
  have hS : va_S A s.heap s.heap [] := va_S.rf
  have hl := lv_entry ([.ref h0, .int p0]) (n := 2) (Nat.le_of_ble_eq_true rfl)
  rw [lg_entry_eq]
  generalize (lg_sl ([.ref h0, .int p0]) ++ List.replicate (2 - (lg_sl ([.ref h0, .int p0])).length) Slot.unset).toArray = ls at hl ⊢
  have hl : lv_has ls 2 [(0, .ref h0), (1, .int p0)] := hl
  refine lv_aload_n hx hb dX11_votes_0 rfl (lv_at hl 0 rfl) ?_
  refine va_get (D := (dC, dI)) (ci := 10) (v := .ref h2) (C := RX11) (T := TX11) (N := 19) hx hb hts ii_X11_votes_X11 hown hK hP 0 rfl rfl 1 (by decide) (hts _ mm_X11_votes_1) (fun _ h9 => h9) rfl dX11_votes_1 ?_
  refine lv_iload_n hx hb dX11_votes_4 rfl (lv_at hl 1 rfl) ?_
  have hPc := hP.sub (ws' := [(h2, .inr (5, [.ref h16, .ref h17, .ref h18, .ref h19, .ref h20, .int 0, .int 0, .int 0, .int 2, .int 0, .int 0, .int 0]))]) [1] rfl
  have hDc := hD.sub (ws' := [(h2, .inr (5, [.ref h16, .ref h17, .ref h18, .ref h19, .ref h20, .int 0, .int 0, .int 0, .int 2, .int 0, .int 0, .int 0]))]) [1] (by decide) rfl
  have hKc := hK.sub (tys' := []) [] rfl
  have hFc := va_free (wc := [(h2, .inr (5, [.ref h16, .ref h17, .ref h18, .ref h19, .ref h20, .int 0, .int 0, .int 0, .int 2, .int 0, .int 0, .int 0]))]) hD hS hA [1] rfl
  refine va_calli (va_runV (As := [.int p0]) (rest := []) ⟨hx, hb, hml, hown, hts⟩ (k_X4_hasPlace l dC dI ad h2 h16 h17 h18 h19 h20 p0 s.heap.size) (cwV 1 hts gX11_votes_X4_hasPlace rfl rfl rfl (by decide +kernel) ⟨Nat.le_of_ble_eq_true rfl, Nat.le_of_ble_eq_true rfl⟩) ⟨fun a U g mk q => ⟨q.1, CP.blind q.2⟩, va_recv hKc hPc (ci := 5) (q0 := 0) rfl rfl, fun U hU hW => ⟨rfl, CP.of hPc hKc hDc hE hS hFc hU hW⟩⟩ rfl rfl hl.1 rfl (lv_room (Nat.le_of_ble_eq_true rfl)) dX11_votes_5 ⟨Nat.le_of_ble_eq_true rfl, Nat.le_of_ble_eq_true rfl⟩) hS (fun q _ h => hFc q h) hFc (fun r1 u t H1 locs ht hvm hw hB hz1 hk1 hS => ?_)
  obtain ⟨hP1, hK1, hD1⟩ := hB
  rw [ht] at hP1
  obtain ⟨hP, hD⟩ := va_join (wr := [(h0, .inr (10, [.ref h1, .ref h2, .ref h3, .ref h4, .ref h5, .ref h6, .ref h7, .ref h8, .ref h9, .ref h10, .ref h11, .ref h12, .ref h13, .ref h14, .ref h15, .int (-1), .int 0, .int (-1), .int (-1)]))]) (w1 := [(h2, .inr (5, [.ref h16, .ref h17, .ref h18, .ref h19, .ref h20, .int 0, .int 0, .int 0, .int 2, .int 0, .int 0, .int 0]))]) hP hD [1] [0] rfl rfl (by decide) (by decide) hk1 hFc hP1 hD1
  generalize H1 = H at hP hS ⊢
  clear hPc hDc hKc hFc hP1 hD1 hK1 hk1 hz1
  have hP : va_P (dC, dI) vwCl [(h0, .inr (10, [.ref h1, .ref h2, .ref h3, .ref h4, .ref h5, .ref h6, .ref h7, .ref h8, .ref h9, .ref h10, .ref h11, .ref h12, .ref h13, .ref h14, .ref h15, .int (-1), .int 0, .int (-1), .int (-1)])), (h2, .inr (5, [.ref h16, .ref h17, .ref h18, .ref h19, .ref h20, .int 0, .int 0, .int 0, .int 2, .int 0, .int 0, .int 0]))] H := hP
  have hD : va_D A [(h0, .inr (10, [.ref h1, .ref h2, .ref h3, .ref h4, .ref h5, .ref h6, .ref h7, .ref h8, .ref h9, .ref h10, .ref h11, .ref h12, .ref h13, .ref h14, .ref h15, .int (-1), .int 0, .int (-1), .int (-1)])), (h2, .inr (5, [.ref h16, .ref h17, .ref h18, .ref h19, .ref h20, .int 0, .int 0, .int 0, .int 2, .int 0, .int 0, .int 0]))] := hD
  refine zz_top (v := 0) hw ?_
  refine lv_if_eq (tgt := 24) hx hb dX11_votes_8 (by decide) (fun _ => ?_) (fun c2 => absurd (by decide) c2)
  refine lv_iconst (v := (-1)) hx hb dX11_votes_24 (by decide) ?_
  have hP9 := hP.sub (ws' := []) [] rfl
  have hD9 := hD.sub (ws' := []) [] (by decide) rfl
  have hK9 := hK.sub (tys' := []) [] rfl
  refine W.widen (k := 0) (n := 0) (Nat.le_of_ble_eq_true rfl) (Nat.le_of_ble_eq_true rfl) ?_
  exact W.iret (v := (-1)) hx hb hr (fun t ht hW => ⟨⟨(-1), (), rfl, rfl, by rw [ht]; exact hP9, va_K.moved hW.alike hK9, hD9⟩, hS.F ht⟩) hS.2.2 dX11_votes_25
set_option maxHeartbeats 4000000 in
set_option maxRecDepth 100000 in
theorem k_X11_against (l : Launch) (dC : Nat → ClassId) (dI : Nat → Nat → Nat) (ad : Nat → Nat) (h0 h1 h2 h3 h4 h5 h6 h7 h8 h9 h10 h11 h12 h13 h14 h15 h16 h17 h18 h19 h20 : Nat) (p0 : Int32) (sz : Nat) : Met l yX11_against wsX11_against ({ frames := 1, cells := 0, slots := 0, locals := 21 }) (va_Pc [.ref h0, .int p0] (CP (dC, dI) [(h0, .inr (10, [.ref h1, .ref h2, .ref h3, .ref h4, .ref h5, .ref h6, .ref h7, .ref h8, .ref h9, .ref h10, .ref h11, .ref h12, .ref h13, .ref h14, .ref h15, .int (-1), .int 0, .int (-1), .int (-1)])), (h2, .inr (5, [.ref h16, .ref h17, .ref h18, .ref h19, .ref h20, .int 0, .int 0, .int 0, .int 2, .int 0, .int 0, .int 0]))] [] sz ad)) (va_Qi (fun (r : Int32) (_ : Unit) => r = (-1)) (fun (_ : Unit) (t : State) => CQ (dC, dI) [] [] (va_A [(h0, .inr (10, [.ref h1, .ref h2, .ref h3, .ref h4, .ref h5, .ref h6, .ref h7, .ref h8, .ref h9, .ref h10, .ref h11, .ref h12, .ref h13, .ref h14, .ref h15, .int (-1), .int 0, .int (-1), .int (-1)])), (h2, .inr (5, [.ref h16, .ref h17, .ref h18, .ref h19, .ref h20, .int 0, .int 0, .int 0, .int 2, .int 0, .int 0, .int 0]))] sz) t) (va_A [(h0, .inr (10, [.ref h1, .ref h2, .ref h3, .ref h4, .ref h5, .ref h6, .ref h7, .ref h8, .ref h9, .ref h10, .ref h11, .ref h12, .ref h13, .ref h14, .ref h15, .int (-1), .int 0, .int (-1), .int (-1)])), (h2, .inr (5, [.ref h16, .ref h17, .ref h18, .ref h19, .ref h20, .int 0, .int 0, .int 0, .int 2, .int 0, .int 0, .int 0]))] sz)) 0 0 (va_A [(h0, .inr (10, [.ref h1, .ref h2, .ref h3, .ref h4, .ref h5, .ref h6, .ref h7, .ref h8, .ref h9, .ref h10, .ref h11, .ref h12, .ref h13, .ref h14, .ref h15, .int (-1), .int 0, .int (-1), .int (-1)])), (h2, .inr (5, [.ref h16, .ref h17, .ref h18, .ref h19, .ref h20, .int 0, .int 0, .int 0, .int 2, .int 0, .int 0, .int 0]))] sz) := by
  refine Met.ofW (cc := cX11_against) (maxL := 2) (ret := (some .int)) (by decide) rfl ?_
  intro p e s m args below meth c s₁ B hml hv
  obtain ⟨rfl, hsz, hP, hK, hD0, hE⟩ := hv
  have hx := B.exec
  have hb := B.bytes
  have hr := B.returns
  have hts := atoms_spec (ws := wsX11_against) B.pre
  have hown : s.vm.findClass RX11 = some m.cls := findClass_of_methodNamed B.named
  have hlocks := B.notSynchronized
  subst hsz
  have hD := hD0.self (sz := s.heap.size)
  generalize hAe : va_A [(h0, .inr (10, [.ref h1, .ref h2, .ref h3, .ref h4, .ref h5, .ref h6, .ref h7, .ref h8, .ref h9, .ref h10, .ref h11, .ref h12, .ref h13, .ref h14, .ref h15, .int (-1), .int 0, .int (-1), .int (-1)])), (h2, .inr (5, [.ref h16, .ref h17, .ref h18, .ref h19, .ref h20, .int 0, .int 0, .int 0, .int 2, .int 0, .int 0, .int 0]))] s.heap.size = A at hD hE ⊢
  have hA : ∀ q : Nat, s.heap.size ≤ q → A q := fun q h => by rw [← hAe]; exact Or.inr h
  have hS : va_S A s.heap s.heap [] := va_S.rf
  have hl := lv_entry ([.ref h0, .int p0]) (n := 2) (Nat.le_of_ble_eq_true rfl)
  rw [lg_entry_eq]
  generalize (lg_sl ([.ref h0, .int p0]) ++ List.replicate (2 - (lg_sl ([.ref h0, .int p0])).length) Slot.unset).toArray = ls at hl ⊢
  have hl : lv_has ls 2 [(0, .ref h0), (1, .int p0)] := hl
  refine lv_aload_n hx hb dX11_against_0 rfl (lv_at hl 0 rfl) ?_
  refine va_get (D := (dC, dI)) (ci := 10) (v := .ref h2) (C := RX11) (T := TX11) (N := 19) hx hb hts ii_X11_against_X11 hown hK hP 0 rfl rfl 1 (by decide) (hts _ mm_X11_against_1) (fun _ h9 => h9) rfl dX11_against_1 ?_
  refine lv_iload_n hx hb dX11_against_4 rfl (lv_at hl 1 rfl) ?_
  have hPc := hP.sub (ws' := [(h2, .inr (5, [.ref h16, .ref h17, .ref h18, .ref h19, .ref h20, .int 0, .int 0, .int 0, .int 2, .int 0, .int 0, .int 0]))]) [1] rfl
  have hDc := hD.sub (ws' := [(h2, .inr (5, [.ref h16, .ref h17, .ref h18, .ref h19, .ref h20, .int 0, .int 0, .int 0, .int 2, .int 0, .int 0, .int 0]))]) [1] (by decide) rfl
  have hKc := hK.sub (tys' := []) [] rfl
  have hFc := va_free (wc := [(h2, .inr (5, [.ref h16, .ref h17, .ref h18, .ref h19, .ref h20, .int 0, .int 0, .int 0, .int 2, .int 0, .int 0, .int 0]))]) hD hS hA [1] rfl
  refine va_calli (va_runV (As := [.int p0]) (rest := []) ⟨hx, hb, hml, hown, hts⟩ (k_X4_hasPlace l dC dI ad h2 h16 h17 h18 h19 h20 p0 s.heap.size) (cwV 1 hts gX11_against_X4_hasPlace rfl rfl rfl (by decide +kernel) ⟨Nat.le_of_ble_eq_true rfl, Nat.le_of_ble_eq_true rfl⟩) ⟨fun a U g mk q => ⟨q.1, CP.blind q.2⟩, va_recv hKc hPc (ci := 5) (q0 := 0) rfl rfl, fun U hU hW => ⟨rfl, CP.of hPc hKc hDc hE hS hFc hU hW⟩⟩ rfl rfl hl.1 rfl (lv_room (Nat.le_of_ble_eq_true rfl)) dX11_against_5 ⟨Nat.le_of_ble_eq_true rfl, Nat.le_of_ble_eq_true rfl⟩) hS (fun q _ h => hFc q h) hFc (fun r1 u t H1 locs ht hvm hw hB hz1 hk1 hS => ?_)
  obtain ⟨hP1, hK1, hD1⟩ := hB
  rw [ht] at hP1
  obtain ⟨hP, hD⟩ := va_join (wr := [(h0, .inr (10, [.ref h1, .ref h2, .ref h3, .ref h4, .ref h5, .ref h6, .ref h7, .ref h8, .ref h9, .ref h10, .ref h11, .ref h12, .ref h13, .ref h14, .ref h15, .int (-1), .int 0, .int (-1), .int (-1)]))]) (w1 := [(h2, .inr (5, [.ref h16, .ref h17, .ref h18, .ref h19, .ref h20, .int 0, .int 0, .int 0, .int 2, .int 0, .int 0, .int 0]))]) hP hD [1] [0] rfl rfl (by decide) (by decide) hk1 hFc hP1 hD1
  generalize H1 = H at hP hS ⊢
  clear hPc hDc hKc hFc hP1 hD1 hK1 hk1 hz1
  have hP : va_P (dC, dI) vwCl [(h0, .inr (10, [.ref h1, .ref h2, .ref h3, .ref h4, .ref h5, .ref h6, .ref h7, .ref h8, .ref h9, .ref h10, .ref h11, .ref h12, .ref h13, .ref h14, .ref h15, .int (-1), .int 0, .int (-1), .int (-1)])), (h2, .inr (5, [.ref h16, .ref h17, .ref h18, .ref h19, .ref h20, .int 0, .int 0, .int 0, .int 2, .int 0, .int 0, .int 0]))] H := hP
  have hD : va_D A [(h0, .inr (10, [.ref h1, .ref h2, .ref h3, .ref h4, .ref h5, .ref h6, .ref h7, .ref h8, .ref h9, .ref h10, .ref h11, .ref h12, .ref h13, .ref h14, .ref h15, .int (-1), .int 0, .int (-1), .int (-1)])), (h2, .inr (5, [.ref h16, .ref h17, .ref h18, .ref h19, .ref h20, .int 0, .int 0, .int 0, .int 2, .int 0, .int 0, .int 0]))] := hD
  refine zz_top (v := 0) hw ?_
  refine lv_if_eq (tgt := 24) hx hb dX11_against_8 (by decide) (fun _ => ?_) (fun c2 => absurd (by decide) c2)
  refine lv_iconst (v := (-1)) hx hb dX11_against_24 (by decide) ?_
  have hP9 := hP.sub (ws' := []) [] rfl
  have hD9 := hD.sub (ws' := []) [] (by decide) rfl
  have hK9 := hK.sub (tys' := []) [] rfl
  refine W.widen (k := 0) (n := 0) (Nat.le_of_ble_eq_true rfl) (Nat.le_of_ble_eq_true rfl) ?_
  exact W.iret (v := (-1)) hx hb hr (fun t ht hW => ⟨⟨(-1), (), rfl, rfl, by rw [ht]; exact hP9, va_K.moved hW.alike hK9, hD9⟩, hS.F ht⟩) hS.2.2 dX11_against_25
set_option maxHeartbeats 4000000 in
set_option maxRecDepth 100000 in
theorem k_X11_missed (l : Launch) (dC : Nat → ClassId) (dI : Nat → Nat → Nat) (ad : Nat → Nat) (h0 h1 h2 h3 h4 h5 h6 h7 h8 h9 h10 h11 h12 h13 h14 h15 h16 h17 h18 h19 h20 : Nat) (p0 : Int32) (sz : Nat) : Met l yX11_missed wsX11_missed ({ frames := 1, cells := 0, slots := 0, locals := 21 }) (va_Pc [.ref h0, .int p0] (CP (dC, dI) [(h0, .inr (10, [.ref h1, .ref h2, .ref h3, .ref h4, .ref h5, .ref h6, .ref h7, .ref h8, .ref h9, .ref h10, .ref h11, .ref h12, .ref h13, .ref h14, .ref h15, .int (-1), .int 0, .int (-1), .int (-1)])), (h2, .inr (5, [.ref h16, .ref h17, .ref h18, .ref h19, .ref h20, .int 0, .int 0, .int 0, .int 2, .int 0, .int 0, .int 0]))] [] sz ad)) (va_Qi (fun (r : Int32) (_ : Unit) => r = (-1)) (fun (_ : Unit) (t : State) => CQ (dC, dI) [] [] (va_A [(h0, .inr (10, [.ref h1, .ref h2, .ref h3, .ref h4, .ref h5, .ref h6, .ref h7, .ref h8, .ref h9, .ref h10, .ref h11, .ref h12, .ref h13, .ref h14, .ref h15, .int (-1), .int 0, .int (-1), .int (-1)])), (h2, .inr (5, [.ref h16, .ref h17, .ref h18, .ref h19, .ref h20, .int 0, .int 0, .int 0, .int 2, .int 0, .int 0, .int 0]))] sz) t) (va_A [(h0, .inr (10, [.ref h1, .ref h2, .ref h3, .ref h4, .ref h5, .ref h6, .ref h7, .ref h8, .ref h9, .ref h10, .ref h11, .ref h12, .ref h13, .ref h14, .ref h15, .int (-1), .int 0, .int (-1), .int (-1)])), (h2, .inr (5, [.ref h16, .ref h17, .ref h18, .ref h19, .ref h20, .int 0, .int 0, .int 0, .int 2, .int 0, .int 0, .int 0]))] sz)) 0 0 (va_A [(h0, .inr (10, [.ref h1, .ref h2, .ref h3, .ref h4, .ref h5, .ref h6, .ref h7, .ref h8, .ref h9, .ref h10, .ref h11, .ref h12, .ref h13, .ref h14, .ref h15, .int (-1), .int 0, .int (-1), .int (-1)])), (h2, .inr (5, [.ref h16, .ref h17, .ref h18, .ref h19, .ref h20, .int 0, .int 0, .int 0, .int 2, .int 0, .int 0, .int 0]))] sz) := by
  refine Met.ofW (cc := cX11_missed) (maxL := 2) (ret := (some .int)) (by decide) rfl ?_
  intro p e s m args below meth c s₁ B hml hv
  obtain ⟨rfl, hsz, hP, hK, hD0, hE⟩ := hv
  have hx := B.exec
  have hb := B.bytes
  have hr := B.returns
  have hts := atoms_spec (ws := wsX11_missed) B.pre
  have hown : s.vm.findClass RX11 = some m.cls := findClass_of_methodNamed B.named
  have hlocks := B.notSynchronized
  subst hsz
  have hD := hD0.self (sz := s.heap.size)
  generalize hAe : va_A [(h0, .inr (10, [.ref h1, .ref h2, .ref h3, .ref h4, .ref h5, .ref h6, .ref h7, .ref h8, .ref h9, .ref h10, .ref h11, .ref h12, .ref h13, .ref h14, .ref h15, .int (-1), .int 0, .int (-1), .int (-1)])), (h2, .inr (5, [.ref h16, .ref h17, .ref h18, .ref h19, .ref h20, .int 0, .int 0, .int 0, .int 2, .int 0, .int 0, .int 0]))] s.heap.size = A at hD hE ⊢
  have hA : ∀ q : Nat, s.heap.size ≤ q → A q := fun q h => by rw [← hAe]; exact Or.inr h
  have hS : va_S A s.heap s.heap [] := va_S.rf
  have hl := lv_entry ([.ref h0, .int p0]) (n := 2) (Nat.le_of_ble_eq_true rfl)
  rw [lg_entry_eq]
  generalize (lg_sl ([.ref h0, .int p0]) ++ List.replicate (2 - (lg_sl ([.ref h0, .int p0])).length) Slot.unset).toArray = ls at hl ⊢
  have hl : lv_has ls 2 [(0, .ref h0), (1, .int p0)] := hl
  refine lv_aload_n hx hb dX11_missed_0 rfl (lv_at hl 0 rfl) ?_
  refine va_get (D := (dC, dI)) (ci := 10) (v := .ref h2) (C := RX11) (T := TX11) (N := 19) hx hb hts ii_X11_missed_X11 hown hK hP 0 rfl rfl 1 (by decide) (hts _ mm_X11_missed_1) (fun _ h9 => h9) rfl dX11_missed_1 ?_
  refine lv_iload_n hx hb dX11_missed_4 rfl (lv_at hl 1 rfl) ?_
  have hPc := hP.sub (ws' := [(h2, .inr (5, [.ref h16, .ref h17, .ref h18, .ref h19, .ref h20, .int 0, .int 0, .int 0, .int 2, .int 0, .int 0, .int 0]))]) [1] rfl
  have hDc := hD.sub (ws' := [(h2, .inr (5, [.ref h16, .ref h17, .ref h18, .ref h19, .ref h20, .int 0, .int 0, .int 0, .int 2, .int 0, .int 0, .int 0]))]) [1] (by decide) rfl
  have hKc := hK.sub (tys' := []) [] rfl
  have hFc := va_free (wc := [(h2, .inr (5, [.ref h16, .ref h17, .ref h18, .ref h19, .ref h20, .int 0, .int 0, .int 0, .int 2, .int 0, .int 0, .int 0]))]) hD hS hA [1] rfl
  refine va_calli (va_runV (As := [.int p0]) (rest := []) ⟨hx, hb, hml, hown, hts⟩ (k_X4_hasPlace l dC dI ad h2 h16 h17 h18 h19 h20 p0 s.heap.size) (cwV 1 hts gX11_missed_X4_hasPlace rfl rfl rfl (by decide +kernel) ⟨Nat.le_of_ble_eq_true rfl, Nat.le_of_ble_eq_true rfl⟩) ⟨fun a U g mk q => ⟨q.1, CP.blind q.2⟩, va_recv hKc hPc (ci := 5) (q0 := 0) rfl rfl, fun U hU hW => ⟨rfl, CP.of hPc hKc hDc hE hS hFc hU hW⟩⟩ rfl rfl hl.1 rfl (lv_room (Nat.le_of_ble_eq_true rfl)) dX11_missed_5 ⟨Nat.le_of_ble_eq_true rfl, Nat.le_of_ble_eq_true rfl⟩) hS (fun q _ h => hFc q h) hFc (fun r1 u t H1 locs ht hvm hw hB hz1 hk1 hS => ?_)
  obtain ⟨hP1, hK1, hD1⟩ := hB
  rw [ht] at hP1
  obtain ⟨hP, hD⟩ := va_join (wr := [(h0, .inr (10, [.ref h1, .ref h2, .ref h3, .ref h4, .ref h5, .ref h6, .ref h7, .ref h8, .ref h9, .ref h10, .ref h11, .ref h12, .ref h13, .ref h14, .ref h15, .int (-1), .int 0, .int (-1), .int (-1)]))]) (w1 := [(h2, .inr (5, [.ref h16, .ref h17, .ref h18, .ref h19, .ref h20, .int 0, .int 0, .int 0, .int 2, .int 0, .int 0, .int 0]))]) hP hD [1] [0] rfl rfl (by decide) (by decide) hk1 hFc hP1 hD1
  generalize H1 = H at hP hS ⊢
  clear hPc hDc hKc hFc hP1 hD1 hK1 hk1 hz1
  have hP : va_P (dC, dI) vwCl [(h0, .inr (10, [.ref h1, .ref h2, .ref h3, .ref h4, .ref h5, .ref h6, .ref h7, .ref h8, .ref h9, .ref h10, .ref h11, .ref h12, .ref h13, .ref h14, .ref h15, .int (-1), .int 0, .int (-1), .int (-1)])), (h2, .inr (5, [.ref h16, .ref h17, .ref h18, .ref h19, .ref h20, .int 0, .int 0, .int 0, .int 2, .int 0, .int 0, .int 0]))] H := hP
  have hD : va_D A [(h0, .inr (10, [.ref h1, .ref h2, .ref h3, .ref h4, .ref h5, .ref h6, .ref h7, .ref h8, .ref h9, .ref h10, .ref h11, .ref h12, .ref h13, .ref h14, .ref h15, .int (-1), .int 0, .int (-1), .int (-1)])), (h2, .inr (5, [.ref h16, .ref h17, .ref h18, .ref h19, .ref h20, .int 0, .int 0, .int 0, .int 2, .int 0, .int 0, .int 0]))] := hD
  refine zz_top (v := 0) hw ?_
  refine lv_if_eq (tgt := 24) hx hb dX11_missed_8 (by decide) (fun _ => ?_) (fun c2 => absurd (by decide) c2)
  refine lv_iconst (v := (-1)) hx hb dX11_missed_24 (by decide) ?_
  have hP9 := hP.sub (ws' := []) [] rfl
  have hD9 := hD.sub (ws' := []) [] (by decide) rfl
  have hK9 := hK.sub (tys' := []) [] rfl
  refine W.widen (k := 0) (n := 0) (Nat.le_of_ble_eq_true rfl) (Nat.le_of_ble_eq_true rfl) ?_
  exact W.iret (v := (-1)) hx hb hr (fun t ht hW => ⟨⟨(-1), (), rfl, rfl, by rw [ht]; exact hP9, va_K.moved hW.alike hK9, hD9⟩, hS.F ht⟩) hS.2.2 dX11_missed_25
set_option maxHeartbeats 4000000 in
set_option maxRecDepth 100000 in
theorem k_X11_board (l : Launch) (dC : Nat → ClassId) (dI : Nat → Nat → Nat) (ad : Nat → Nat) (h0 h1 h2 h3 h4 h5 h6 h7 h8 h9 h10 h11 h12 h13 h14 h15 h16 h17 h18 h19 h20 : Nat) (p0 : Int32) (sz : Nat) : Met l yX11_board wsX11_board ({ frames := 1, cells := 0, slots := 0, locals := 21 }) (va_Pc [.ref h0, .int p0] (CP (dC, dI) [(h0, .inr (10, [.ref h1, .ref h2, .ref h3, .ref h4, .ref h5, .ref h6, .ref h7, .ref h8, .ref h9, .ref h10, .ref h11, .ref h12, .ref h13, .ref h14, .ref h15, .int (-1), .int 0, .int (-1), .int (-1)])), (h2, .inr (5, [.ref h16, .ref h17, .ref h18, .ref h19, .ref h20, .int 0, .int 0, .int 0, .int 2, .int 0, .int 0, .int 0]))] [] sz ad)) (va_Qi (fun (r : Int32) (_ : Unit) => r = (-1)) (fun (_ : Unit) (t : State) => CQ (dC, dI) [] [] (va_A [(h0, .inr (10, [.ref h1, .ref h2, .ref h3, .ref h4, .ref h5, .ref h6, .ref h7, .ref h8, .ref h9, .ref h10, .ref h11, .ref h12, .ref h13, .ref h14, .ref h15, .int (-1), .int 0, .int (-1), .int (-1)])), (h2, .inr (5, [.ref h16, .ref h17, .ref h18, .ref h19, .ref h20, .int 0, .int 0, .int 0, .int 2, .int 0, .int 0, .int 0]))] sz) t) (va_A [(h0, .inr (10, [.ref h1, .ref h2, .ref h3, .ref h4, .ref h5, .ref h6, .ref h7, .ref h8, .ref h9, .ref h10, .ref h11, .ref h12, .ref h13, .ref h14, .ref h15, .int (-1), .int 0, .int (-1), .int (-1)])), (h2, .inr (5, [.ref h16, .ref h17, .ref h18, .ref h19, .ref h20, .int 0, .int 0, .int 0, .int 2, .int 0, .int 0, .int 0]))] sz)) 0 0 (va_A [(h0, .inr (10, [.ref h1, .ref h2, .ref h3, .ref h4, .ref h5, .ref h6, .ref h7, .ref h8, .ref h9, .ref h10, .ref h11, .ref h12, .ref h13, .ref h14, .ref h15, .int (-1), .int 0, .int (-1), .int (-1)])), (h2, .inr (5, [.ref h16, .ref h17, .ref h18, .ref h19, .ref h20, .int 0, .int 0, .int 0, .int 2, .int 0, .int 0, .int 0]))] sz) := by
  refine Met.ofW (cc := cX11_board) (maxL := 2) (ret := (some .int)) (by decide) rfl ?_
  intro p e s m args below meth c s₁ B hml hv
  obtain ⟨rfl, hsz, hP, hK, hD0, hE⟩ := hv
  have hx := B.exec
  have hb := B.bytes
  have hr := B.returns
  have hts := atoms_spec (ws := wsX11_board) B.pre
  have hown : s.vm.findClass RX11 = some m.cls := findClass_of_methodNamed B.named
  have hlocks := B.notSynchronized
  subst hsz
  have hD := hD0.self (sz := s.heap.size)
  generalize hAe : va_A [(h0, .inr (10, [.ref h1, .ref h2, .ref h3, .ref h4, .ref h5, .ref h6, .ref h7, .ref h8, .ref h9, .ref h10, .ref h11, .ref h12, .ref h13, .ref h14, .ref h15, .int (-1), .int 0, .int (-1), .int (-1)])), (h2, .inr (5, [.ref h16, .ref h17, .ref h18, .ref h19, .ref h20, .int 0, .int 0, .int 0, .int 2, .int 0, .int 0, .int 0]))] s.heap.size = A at hD hE ⊢
  have hA : ∀ q : Nat, s.heap.size ≤ q → A q := fun q h => by rw [← hAe]; exact Or.inr h
  have hS : va_S A s.heap s.heap [] := va_S.rf
  have hl := lv_entry ([.ref h0, .int p0]) (n := 2) (Nat.le_of_ble_eq_true rfl)
  rw [lg_entry_eq]
  generalize (lg_sl ([.ref h0, .int p0]) ++ List.replicate (2 - (lg_sl ([.ref h0, .int p0])).length) Slot.unset).toArray = ls at hl ⊢
  have hl : lv_has ls 2 [(0, .ref h0), (1, .int p0)] := hl
  refine lv_aload_n hx hb dX11_board_0 rfl (lv_at hl 0 rfl) ?_
  refine va_get (D := (dC, dI)) (ci := 10) (v := .ref h2) (C := RX11) (T := TX11) (N := 19) hx hb hts ii_X11_board_X11 hown hK hP 0 rfl rfl 1 (by decide) (hts _ mm_X11_board_1) (fun _ h9 => h9) rfl dX11_board_1 ?_
  refine lv_iload_n hx hb dX11_board_4 rfl (lv_at hl 1 rfl) ?_
  have hPc := hP.sub (ws' := [(h2, .inr (5, [.ref h16, .ref h17, .ref h18, .ref h19, .ref h20, .int 0, .int 0, .int 0, .int 2, .int 0, .int 0, .int 0]))]) [1] rfl
  have hDc := hD.sub (ws' := [(h2, .inr (5, [.ref h16, .ref h17, .ref h18, .ref h19, .ref h20, .int 0, .int 0, .int 0, .int 2, .int 0, .int 0, .int 0]))]) [1] (by decide) rfl
  have hKc := hK.sub (tys' := []) [] rfl
  have hFc := va_free (wc := [(h2, .inr (5, [.ref h16, .ref h17, .ref h18, .ref h19, .ref h20, .int 0, .int 0, .int 0, .int 2, .int 0, .int 0, .int 0]))]) hD hS hA [1] rfl
  refine va_calli (va_runV (As := [.int p0]) (rest := []) ⟨hx, hb, hml, hown, hts⟩ (k_X4_hasPlace l dC dI ad h2 h16 h17 h18 h19 h20 p0 s.heap.size) (cwV 1 hts gX11_board_X4_hasPlace rfl rfl rfl (by decide +kernel) ⟨Nat.le_of_ble_eq_true rfl, Nat.le_of_ble_eq_true rfl⟩) ⟨fun a U g mk q => ⟨q.1, CP.blind q.2⟩, va_recv hKc hPc (ci := 5) (q0 := 0) rfl rfl, fun U hU hW => ⟨rfl, CP.of hPc hKc hDc hE hS hFc hU hW⟩⟩ rfl rfl hl.1 rfl (lv_room (Nat.le_of_ble_eq_true rfl)) dX11_board_5 ⟨Nat.le_of_ble_eq_true rfl, Nat.le_of_ble_eq_true rfl⟩) hS (fun q _ h => hFc q h) hFc (fun r1 u t H1 locs ht hvm hw hB hz1 hk1 hS => ?_)
  obtain ⟨hP1, hK1, hD1⟩ := hB
  rw [ht] at hP1
  obtain ⟨hP, hD⟩ := va_join (wr := [(h0, .inr (10, [.ref h1, .ref h2, .ref h3, .ref h4, .ref h5, .ref h6, .ref h7, .ref h8, .ref h9, .ref h10, .ref h11, .ref h12, .ref h13, .ref h14, .ref h15, .int (-1), .int 0, .int (-1), .int (-1)]))]) (w1 := [(h2, .inr (5, [.ref h16, .ref h17, .ref h18, .ref h19, .ref h20, .int 0, .int 0, .int 0, .int 2, .int 0, .int 0, .int 0]))]) hP hD [1] [0] rfl rfl (by decide) (by decide) hk1 hFc hP1 hD1
  generalize H1 = H at hP hS ⊢
  clear hPc hDc hKc hFc hP1 hD1 hK1 hk1 hz1
  have hP : va_P (dC, dI) vwCl [(h0, .inr (10, [.ref h1, .ref h2, .ref h3, .ref h4, .ref h5, .ref h6, .ref h7, .ref h8, .ref h9, .ref h10, .ref h11, .ref h12, .ref h13, .ref h14, .ref h15, .int (-1), .int 0, .int (-1), .int (-1)])), (h2, .inr (5, [.ref h16, .ref h17, .ref h18, .ref h19, .ref h20, .int 0, .int 0, .int 0, .int 2, .int 0, .int 0, .int 0]))] H := hP
  have hD : va_D A [(h0, .inr (10, [.ref h1, .ref h2, .ref h3, .ref h4, .ref h5, .ref h6, .ref h7, .ref h8, .ref h9, .ref h10, .ref h11, .ref h12, .ref h13, .ref h14, .ref h15, .int (-1), .int 0, .int (-1), .int (-1)])), (h2, .inr (5, [.ref h16, .ref h17, .ref h18, .ref h19, .ref h20, .int 0, .int 0, .int 0, .int 2, .int 0, .int 0, .int 0]))] := hD
  refine zz_top (v := 0) hw ?_
  refine lv_if_ne (tgt := 13) hx hb dX11_board_8 (by decide) (fun c2 => absurd (by decide) c2) (fun _ => ?_)
  refine lv_iconst (v := (-1)) hx hb dX11_board_11 (by decide) ?_
  have hP9 := hP.sub (ws' := []) [] rfl
  have hD9 := hD.sub (ws' := []) [] (by decide) rfl
  have hK9 := hK.sub (tys' := []) [] rfl
  refine W.widen (k := 0) (n := 0) (Nat.le_of_ble_eq_true rfl) (Nat.le_of_ble_eq_true rfl) ?_
  exact W.iret (v := (-1)) hx hb hr (fun t ht hW => ⟨⟨(-1), (), rfl, rfl, by rw [ht]; exact hP9, va_K.moved hW.alike hK9, hD9⟩, hS.F ht⟩) hS.2.2 dX11_board_12
set_option maxHeartbeats 4000000 in
set_option maxRecDepth 100000 in
theorem k_J5_length_8abf5 (l : Launch) (dC : Nat → ClassId) (dI : Nat → Nat → Nat) (ad : Nat → Nat) (h0 h1 : Nat) (sz : Nat) : Met l yJ5_length_8abf5 wsJ5_length_8abf5 ({ frames := 0, cells := 0, slots := 0, locals := 0 }) (va_Pc [.ref h0] (CP (dC, dI) [(h0, .inr (0, [.ref h1, .int 0, .int 0, .int 0]))] [] sz ad)) (va_Qi (fun (r : Int32) (_ : Unit) => r = 0) (fun (_ : Unit) (t : State) => CQ (dC, dI) [(h0, .inr (0, [.ref h1, .int 0, .int 0, .int 0]))] [] (va_A [(h0, .inr (0, [.ref h1, .int 0, .int 0, .int 0]))] sz) t) (va_A [(h0, .inr (0, [.ref h1, .int 0, .int 0, .int 0]))] sz)) 0 0 (va_A [(h0, .inr (0, [.ref h1, .int 0, .int 0, .int 0]))] sz) := by
  refine Met.ofW (cc := cJ5_length_8abf5) (maxL := 1) (ret := (some .int)) (by decide) rfl ?_
  intro p e s m args below meth c s₁ B hml hv
  obtain ⟨rfl, hsz, hP, hK, hD0, hE⟩ := hv
  have hx := B.exec
  have hb := B.bytes
  have hr := B.returns
  have hts := atoms_spec (ws := wsJ5_length_8abf5) B.pre
  have hown : s.vm.findClass RJ5 = some m.cls := findClass_of_methodNamed B.named
  have hlocks := B.notSynchronized
  subst hsz
  have hD := hD0.self (sz := s.heap.size)
  generalize hAe : va_A [(h0, .inr (0, [.ref h1, .int 0, .int 0, .int 0]))] s.heap.size = A at hD hE ⊢
  have hA : ∀ q : Nat, s.heap.size ≤ q → A q := fun q h => by rw [← hAe]; exact Or.inr h
  have hS : va_S A s.heap s.heap [] := va_S.rf
  have hl := lv_entry ([.ref h0]) (n := 1) (Nat.le_of_ble_eq_true rfl)
  rw [lg_entry_eq]
  generalize (lg_sl ([.ref h0]) ++ List.replicate (1 - (lg_sl ([.ref h0])).length) Slot.unset).toArray = ls at hl ⊢
  have hl : lv_has ls 1 [(0, .ref h0)] := hl
  refine lv_aload_n hx hb dJ5_length_8abf5_0 rfl (lv_at hl 0 rfl) ?_
  refine va_get (D := (dC, dI)) (ci := 0) (v := .int 0) (C := RJ4) (T := TJ4) (N := 4) hx hb hts ii_J5_length_8abf5_J4 hown hK hP 0 rfl rfl 3 (by decide) (hts _ mm_J5_length_8abf5_1) (fun _ h9 => h9) rfl dJ5_length_8abf5_1 ?_
  have hP9 := hP.sub (ws' := [(h0, .inr (0, [.ref h1, .int 0, .int 0, .int 0]))]) [0] rfl
  have hD9 := hD.sub (ws' := [(h0, .inr (0, [.ref h1, .int 0, .int 0, .int 0]))]) [0] (by decide) rfl
  have hK9 := hK.sub (tys' := []) [] rfl
  refine W.widen (k := 0) (n := 0) (Nat.le_of_ble_eq_true rfl) (Nat.le_of_ble_eq_true rfl) ?_
  exact W.iret (v := 0) hx hb hr (fun t ht hW => ⟨⟨0, (), rfl, rfl, by rw [ht]; exact hP9, va_K.moved hW.alike hK9, hD9⟩, hS.F ht⟩) hS.2.2 dJ5_length_8abf5_4
