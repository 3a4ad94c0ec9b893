set_option maxHeartbeats 4000000 in
set_option maxRecDepth 100000 in
theorem k_X12_sentence (l : Launch) (dC : Nat → ClassId) (dI : Nat → Nat → Nat) (ad : Nat → Nat) (h0 h1 h2 h3 h4 h5 h6 h7 h8 h9 h10 h11 h12 h13 h14 h15 h16 : Nat) (sz : Nat) : Met l yX12_sentence wsX12_sentence ({ frames := 4, cells := 0, slots := 0, locals := 86 }) (va_Pc [.ref h0] (CP (dC, dI) [(h0, .inr (11, [.int 0, .ref h1, .int 0, .int 0, .int 0, .int 0, .int 0, .int 0, .int 0, .int 0, .int 0, .int 0, .long 0, .int 0, .ref h2, .ref h3, .ref h4, .ref h5, .ref h6, .ref h7, .ref h8, .ref h9, .ref h10, .int 0, .int 0, .int 0, .int 0, .int (-1), .int (-1), .long 0, .long 0, .ref h11, .ref h12, .int 0, .int (-1), .int 0, .ref h13, .int 0, .ref h14, .ref h15, .int 0, .int 0, .ref h16, .int 0, .int 0, .int 0, .int 0]))] [] sz ad)) (va_Qi (fun (r : Int32) (_ : Unit) => r = (-1)) (fun (_ : Unit) (t : State) => CQ (dC, dI) [] [] (va_A [(h0, .inr (11, [.int 0, .ref h1, .int 0, .int 0, .int 0, .int 0, .int 0, .int 0, .int 0, .int 0, .int 0, .int 0, .long 0, .int 0, .ref h2, .ref h3, .ref h4, .ref h5, .ref h6, .ref h7, .ref h8, .ref h9, .ref h10, .int 0, .int 0, .int 0, .int 0, .int (-1), .int (-1), .long 0, .long 0, .ref h11, .ref h12, .int 0, .int (-1), .int 0, .ref h13, .int 0, .ref h14, .ref h15, .int 0, .int 0, .ref h16, .int 0, .int 0, .int 0, .int 0]))] sz) t) (va_A [(h0, .inr (11, [.int 0, .ref h1, .int 0, .int 0, .int 0, .int 0, .int 0, .int 0, .int 0, .int 0, .int 0, .int 0, .long 0, .int 0, .ref h2, .ref h3, .ref h4, .ref h5, .ref h6, .ref h7, .ref h8, .ref h9, .ref h10, .int 0, .int 0, .int 0, .int 0, .int (-1), .int (-1), .long 0, .long 0, .ref h11, .ref h12, .int 0, .int (-1), .int 0, .ref h13, .int 0, .ref h14, .ref h15, .int 0, .int 0, .ref h16, .int 0, .int 0, .int 0, .int 0]))] sz)) 0 0 (va_A [(h0, .inr (11, [.int 0, .ref h1, .int 0, .int 0, .int 0, .int 0, .int 0, .int 0, .int 0, .int 0, .int 0, .int 0, .long 0, .int 0, .ref h2, .ref h3, .ref h4, .ref h5, .ref h6, .ref h7, .ref h8, .ref h9, .ref h10, .int 0, .int 0, .int 0, .int 0, .int (-1), .int (-1), .long 0, .long 0, .ref h11, .ref h12, .int 0, .int (-1), .int 0, .ref h13, .int 0, .ref h14, .ref h15, .int 0, .int 0, .ref h16, .int 0, .int 0, .int 0, .int 0]))] sz) := by
  refine Met.ofW (cc := cX12_sentence) (maxL := 2) (ret := (some .int)) (by decide) rfl ?_
  intro p e s m args below meth c s₁ B hml hv
  obtain ⟨rfl, hsz, hP, hK, hD0, hE⟩ := hv
  have hx := B.exec
  have hb := B.bytes
  have hr := B.returns
  have hts := atoms_spec (ws := wsX12_sentence) B.pre
  have hown : s.vm.findClass RX12 = some m.cls := findClass_of_methodNamed B.named
  have hlocks := B.notSynchronized
  subst hsz
  have hD := hD0.self (sz := s.heap.size)
  generalize hAe : va_A [(h0, .inr (11, [.int 0, .ref h1, .int 0, .int 0, .int 0, .int 0, .int 0, .int 0, .int 0, .int 0, .int 0, .int 0, .long 0, .int 0, .ref h2, .ref h3, .ref h4, .ref h5, .ref h6, .ref h7, .ref h8, .ref h9, .ref h10, .int 0, .int 0, .int 0, .int 0, .int (-1), .int (-1), .long 0, .long 0, .ref h11, .ref h12, .int 0, .int (-1), .int 0, .ref h13, .int 0, .ref h14, .ref h15, .int 0, .int 0, .ref h16, .int 0, .int 0, .int 0, .int 0]))] s.heap.size = A at hD hE ⊢
  have hA : ∀ q : Nat, s.heap.size ≤ q → A q := fun q h => by rw [← hAe]; exact Or.inr h
  have hS : va_S A s.heap s.heap [] := va_S.rf
  have hl := lv_entry ([.ref h0]) (n := 2) (Nat.le_of_ble_eq_true rfl)
  rw [lg_entry_eq]
  generalize (lg_sl ([.ref h0]) ++ List.replicate (2 - (lg_sl ([.ref h0])).length) Slot.unset).toArray = ls at hl ⊢
  have hl : lv_has ls 2 [(0, .ref h0)] := hl
  refine lv_aload_n hx hb dX12_sentence_0 rfl (lv_at hl 0 rfl) ?_
  refine lv_sipush (v := 200) hx hb dX12_sentence_1 (by decide) ?_
  have hPc := hP.sub (ws' := [(h0, .inr (11, [.int 0, .ref h1, .int 0, .int 0, .int 0, .int 0, .int 0, .int 0, .int 0, .int 0, .int 0, .int 0, .long 0, .int 0, .ref h2, .ref h3, .ref h4, .ref h5, .ref h6, .ref h7, .ref h8, .ref h9, .ref h10, .int 0, .int 0, .int 0, .int 0, .int (-1), .int (-1), .long 0, .long 0, .ref h11, .ref h12, .int 0, .int (-1), .int 0, .ref h13, .int 0, .ref h14, .ref h15, .int 0, .int 0, .ref h16, .int 0, .int 0, .int 0, .int 0]))]) [0] rfl
  have hDc := hD.sub (ws' := [(h0, .inr (11, [.int 0, .ref h1, .int 0, .int 0, .int 0, .int 0, .int 0, .int 0, .int 0, .int 0, .int 0, .int 0, .long 0, .int 0, .ref h2, .ref h3, .ref h4, .ref h5, .ref h6, .ref h7, .ref h8, .ref h9, .ref h10, .int 0, .int 0, .int 0, .int 0, .int (-1), .int (-1), .long 0, .long 0, .ref h11, .ref h12, .int 0, .int (-1), .int 0, .ref h13, .int 0, .ref h14, .ref h15, .int 0, .int 0, .ref h16, .int 0, .int 0, .int 0, .int 0]))]) [0] (by decide) rfl
  have hKc := hK.sub (tys' := []) [] rfl
  have hFc := va_free (wc := [(h0, .inr (11, [.int 0, .ref h1, .int 0, .int 0, .int 0, .int 0, .int 0, .int 0, .int 0, .int 0, .int 0, .int 0, .long 0, .int 0, .ref h2, .ref h3, .ref h4, .ref h5, .ref h6, .ref h7, .ref h8, .ref h9, .ref h10, .int 0, .int 0, .int 0, .int 0, .int (-1), .int (-1), .long 0, .long 0, .ref h11, .ref h12, .int 0, .int (-1), .int 0, .ref h13, .int 0, .ref h14, .ref h15, .int 0, .int 0, .ref h16, .int 0, .int 0, .int 0, .int 0]))]) hD hS hA [0] rfl
  refine va_callv (va_runV (As := [.int 200]) (rest := []) ⟨hx, hb, hml, hown, hts⟩ (k_X12_begin_2 l dC dI ad h0 h1 h2 h3 h4 h5 h6 h7 h8 h9 h10 h11 h12 h13 h14 h15 h16 s.heap.size) (cwV 1 hts gX12_sentence_X12_begin rfl rfl rfl (by decide +kernel) ⟨Nat.le_of_ble_eq_true rfl, Nat.le_of_ble_eq_true rfl⟩) ⟨fun a U g mk q => ⟨q.1, CP.blind q.2⟩, va_recv hKc hPc (ci := 11) (q0 := 0) rfl rfl, fun U hU hW => ⟨rfl, CP.of hPc hKc hDc hE hS hFc hU hW⟩⟩ rfl rfl hl.1 rfl (lv_room (Nat.le_of_ble_eq_true rfl)) dX12_sentence_4 ⟨Nat.le_of_ble_eq_true rfl, Nat.le_of_ble_eq_true rfl⟩) hS (fun q _ h => hFc q h) hFc (fun u t H1 locs ht hvm hw hB hz1 hk1 hS => ?_)
  obtain ⟨hP1, hK1, hD1⟩ := hB
  rw [ht] at hP1
  obtain ⟨hP, hD⟩ := va_join (wr := []) (w1 := [(h0, .inr (11, [.int 0, .ref h1, .int 0, .int 0, .int 200, .int 0, .int 0, .int 0, .int 0, .int 0, .int 0, .int 0, .long 0, .int 0, .ref h2, .ref h3, .ref h4, .ref h5, .ref h6, .ref h7, .ref h8, .ref h9, .ref h10, .int 0, .int 0, .int 0, .int 0, .int (-1), .int (-1), .long 0, .long 0, .ref h11, .ref h12, .int 0, .int (-1), .int 0, .ref h13, .int 0, .ref h14, .ref h15, .int 0, .int 0, .ref h16, .int 0, .int 0, .int 0, .int 0]))]) hP hD [0] [] rfl rfl (by decide) (by decide) hk1 hFc hP1 hD1
  generalize H1 = H at hP hS ⊢
  clear hPc hDc hKc hFc hP1 hD1 hK1 hk1 hz1
  have hP : va_P (dC, dI) vwCl [(h0, .inr (11, [.int 0, .ref h1, .int 0, .int 0, .int 200, .int 0, .int 0, .int 0, .int 0, .int 0, .int 0, .int 0, .long 0, .int 0, .ref h2, .ref h3, .ref h4, .ref h5, .ref h6, .ref h7, .ref h8, .ref h9, .ref h10, .int 0, .int 0, .int 0, .int 0, .int (-1), .int (-1), .long 0, .long 0, .ref h11, .ref h12, .int 0, .int (-1), .int 0, .ref h13, .int 0, .ref h14, .ref h15, .int 0, .int 0, .ref h16, .int 0, .int 0, .int 0, .int 0]))] H := hP
  have hD : va_D A [(h0, .inr (11, [.int 0, .ref h1, .int 0, .int 0, .int 200, .int 0, .int 0, .int 0, .int 0, .int 0, .int 0, .int 0, .long 0, .int 0, .ref h2, .ref h3, .ref h4, .ref h5, .ref h6, .ref h7, .ref h8, .ref h9, .ref h10, .int 0, .int 0, .int 0, .int 0, .int (-1), .int (-1), .long 0, .long 0, .ref h11, .ref h12, .int 0, .int (-1), .int 0, .ref h13, .int 0, .ref h14, .ref h15, .int 0, .int 0, .ref h16, .int 0, .int 0, .int 0, .int 0]))] := hD
  refine lv_aload_n hx hb dX12_sentence_7 rfl (lv_at hl 0 rfl) ?_
  refine lv_iconst (v := 0) hx hb dX12_sentence_8 (by decide) ?_
  refine va_put (D := (dC, dI)) (ci := 11) (v := .int 0) (ty := .int) (C := RX12) (T := TX12) (N := 47) hx hb hts ii_X12_sentence_X12 tyX12 tyX12_ok nmX12 hown hK hP hD hS 0 rfl rfl 43 (by decide) (hts _ mm_X12_sentence_1) (fun _ h9 => h9) rfl (by decide +kernel) rfl rfl (Nat.le_of_ble_eq_true rfl) dX12_sentence_9 (fun H locs hP hD hS => ?_)
  have hP : va_P (dC, dI) vwCl [(h0, .inr (11, [.int 0, .ref h1, .int 0, .int 0, .int 200, .int 0, .int 0, .int 0, .int 0, .int 0, .int 0, .int 0, .long 0, .int 0, .ref h2, .ref h3, .ref h4, .ref h5, .ref h6, .ref h7, .ref h8, .ref h9, .ref h10, .int 0, .int 0, .int 0, .int 0, .int (-1), .int (-1), .long 0, .long 0, .ref h11, .ref h12, .int 0, .int (-1), .int 0, .ref h13, .int 0, .ref h14, .ref h15, .int 0, .int 0, .ref h16, .int 0, .int 0, .int 0, .int 0]))] H := hP
  have hD : va_D A [(h0, .inr (11, [.int 0, .ref h1, .int 0, .int 0, .int 200, .int 0, .int 0, .int 0, .int 0, .int 0, .int 0, .int 0, .long 0, .int 0, .ref h2, .ref h3, .ref h4, .ref h5, .ref h6, .ref h7, .ref h8, .ref h9, .ref h10, .int 0, .int 0, .int 0, .int 0, .int (-1), .int (-1), .long 0, .long 0, .ref h11, .ref h12, .int 0, .int (-1), .int 0, .ref h13, .int 0, .ref h14, .ref h15, .int 0, .int 0, .ref h16, .int 0, .int 0, .int 0, .int 0]))] := hD
  refine lv_aload_n hx hb dX12_sentence_12 rfl (lv_at hl 0 rfl) ?_
  refine lv_iconst (v := 0) hx hb dX12_sentence_13 (by decide) ?_
  refine va_put (D := (dC, dI)) (ci := 11) (v := .int 0) (ty := .int) (C := RX12) (T := TX12) (N := 47) hx hb hts ii_X12_sentence_X12 tyX12 tyX12_ok nmX12 hown hK hP hD hS 0 rfl rfl 44 (by decide) (hts _ mm_X12_sentence_2) (fun _ h9 => h9) rfl (by decide +kernel) rfl rfl (Nat.le_of_ble_eq_true rfl) dX12_sentence_14 (fun H locs hP hD hS => ?_)
  have hP : va_P (dC, dI) vwCl [(h0, .inr (11, [.int 0, .ref h1, .int 0, .int 0, .int 200, .int 0, .int 0, .int 0, .int 0, .int 0, .int 0, .int 0, .long 0, .int 0, .ref h2, .ref h3, .ref h4, .ref h5, .ref h6, .ref h7, .ref h8, .ref h9, .ref h10, .int 0, .int 0, .int 0, .int 0, .int (-1), .int (-1), .long 0, .long 0, .ref h11, .ref h12, .int 0, .int (-1), .int 0, .ref h13, .int 0, .ref h14, .ref h15, .int 0, .int 0, .ref h16, .int 0, .int 0, .int 0, .int 0]))] H := hP
  have hD : va_D A [(h0, .inr (11, [.int 0, .ref h1, .int 0, .int 0, .int 200, .int 0, .int 0, .int 0, .int 0, .int 0, .int 0, .int 0, .long 0, .int 0, .ref h2, .ref h3, .ref h4, .ref h5, .ref h6, .ref h7, .ref h8, .ref h9, .ref h10, .int 0, .int 0, .int 0, .int 0, .int (-1), .int (-1), .long 0, .long 0, .ref h11, .ref h12, .int 0, .int (-1), .int 0, .ref h13, .int 0, .ref h14, .ref h15, .int 0, .int 0, .ref h16, .int 0, .int 0, .int 0, .int 0]))] := hD
  refine lv_aload_n hx hb dX12_sentence_17 rfl (lv_at hl 0 rfl) ?_
  refine lv_iconst (v := 0) hx hb dX12_sentence_18 (by decide) ?_
  refine va_put (D := (dC, dI)) (ci := 11) (v := .int 0) (ty := .int) (C := RX12) (T := TX12) (N := 47) hx hb hts ii_X12_sentence_X12 tyX12 tyX12_ok nmX12 hown hK hP hD hS 0 rfl rfl 45 (by decide) (hts _ mm_X12_sentence_3) (fun _ h9 => h9) rfl (by decide +kernel) rfl rfl (Nat.le_of_ble_eq_true rfl) dX12_sentence_19 (fun H locs hP hD hS => ?_)
  have hP : va_P (dC, dI) vwCl [(h0, .inr (11, [.int 0, .ref h1, .int 0, .int 0, .int 200, .int 0, .int 0, .int 0, .int 0, .int 0, .int 0, .int 0, .long 0, .int 0, .ref h2, .ref h3, .ref h4, .ref h5, .ref h6, .ref h7, .ref h8, .ref h9, .ref h10, .int 0, .int 0, .int 0, .int 0, .int (-1), .int (-1), .long 0, .long 0, .ref h11, .ref h12, .int 0, .int (-1), .int 0, .ref h13, .int 0, .ref h14, .ref h15, .int 0, .int 0, .ref h16, .int 0, .int 0, .int 0, .int 0]))] H := hP
  have hD : va_D A [(h0, .inr (11, [.int 0, .ref h1, .int 0, .int 0, .int 200, .int 0, .int 0, .int 0, .int 0, .int 0, .int 0, .int 0, .long 0, .int 0, .ref h2, .ref h3, .ref h4, .ref h5, .ref h6, .ref h7, .ref h8, .ref h9, .ref h10, .int 0, .int 0, .int 0, .int 0, .int (-1), .int (-1), .long 0, .long 0, .ref h11, .ref h12, .int 0, .int (-1), .int 0, .ref h13, .int 0, .ref h14, .ref h15, .int 0, .int 0, .ref h16, .int 0, .int 0, .int 0, .int 0]))] := hD
  refine lv_aload_n hx hb dX12_sentence_22 rfl (lv_at hl 0 rfl) ?_
  have hPc := hP.sub (ws' := [(h0, .inr (11, [.int 0, .ref h1, .int 0, .int 0, .int 200, .int 0, .int 0, .int 0, .int 0, .int 0, .int 0, .int 0, .long 0, .int 0, .ref h2, .ref h3, .ref h4, .ref h5, .ref h6, .ref h7, .ref h8, .ref h9, .ref h10, .int 0, .int 0, .int 0, .int 0, .int (-1), .int (-1), .long 0, .long 0, .ref h11, .ref h12, .int 0, .int (-1), .int 0, .ref h13, .int 0, .ref h14, .ref h15, .int 0, .int 0, .ref h16, .int 0, .int 0, .int 0, .int 0]))]) [0] rfl
  have hDc := hD.sub (ws' := [(h0, .inr (11, [.int 0, .ref h1, .int 0, .int 0, .int 200, .int 0, .int 0, .int 0, .int 0, .int 0, .int 0, .int 0, .long 0, .int 0, .ref h2, .ref h3, .ref h4, .ref h5, .ref h6, .ref h7, .ref h8, .ref h9, .ref h10, .int 0, .int 0, .int 0, .int 0, .int (-1), .int (-1), .long 0, .long 0, .ref h11, .ref h12, .int 0, .int (-1), .int 0, .ref h13, .int 0, .ref h14, .ref h15, .int 0, .int 0, .ref h16, .int 0, .int 0, .int 0, .int 0]))]) [0] (by decide) rfl
  have hKc := hK.sub (tys' := []) [] rfl
  have hFc := va_free (wc := [(h0, .inr (11, [.int 0, .ref h1, .int 0, .int 0, .int 200, .int 0, .int 0, .int 0, .int 0, .int 0, .int 0, .int 0, .long 0, .int 0, .ref h2, .ref h3, .ref h4, .ref h5, .ref h6, .ref h7, .ref h8, .ref h9, .ref h10, .int 0, .int 0, .int 0, .int 0, .int (-1), .int (-1), .long 0, .long 0, .ref h11, .ref h12, .int 0, .int (-1), .int 0, .ref h13, .int 0, .ref h14, .ref h15, .int 0, .int 0, .ref h16, .int 0, .int 0, .int 0, .int 0]))]) hD hS hA [0] rfl
  refine va_calli (va_runV (As := []) (rest := []) ⟨hx, hb, hml, hown, hts⟩ (k_X12_readOr l dC dI ad h0 h1 h2 h3 h4 h5 h6 h7 h8 h9 h10 h11 h12 h13 h14 h15 h16 H.size) (cwV 0 hts gX12_sentence_X12_readOr rfl rfl rfl (by decide +kernel) ⟨Nat.le_of_ble_eq_true rfl, Nat.le_of_ble_eq_true rfl⟩) ⟨fun a U g mk q => ⟨q.1, CP.blind q.2⟩, va_recv hKc hPc (ci := 11) (q0 := 0) rfl rfl, fun U hU hW => ⟨rfl, CP.of hPc hKc hDc hE hS hFc hU hW⟩⟩ rfl rfl hl.1 rfl (lv_room (Nat.le_of_ble_eq_true rfl)) dX12_sentence_23 ⟨Nat.le_of_ble_eq_true rfl, Nat.le_of_ble_eq_true rfl⟩) hS (fun q _ h => hFc q h) hFc (fun r1 u t H1 locs ht hvm hw hB hz1 hk1 hS => ?_)
  obtain ⟨hP1, hK1, hD1⟩ := hB
  rw [ht] at hP1
  obtain ⟨hP, hD⟩ := va_join (wr := []) (w1 := [(h0, .inr (11, [.int 0, .ref h1, .int 0, .int 0, .int 200, .int 0, .int 0, .int 0, .int 0, .int 0, .int 1, .int 0, .long 0, .int 0, .ref h2, .ref h3, .ref h4, .ref h5, .ref h6, .ref h7, .ref h8, .ref h9, .ref h10, .int 0, .int 0, .int 0, .int 0, .int (-1), .int (-1), .long 0, .long 0, .ref h11, .ref h12, .int 0, .int (-1), .int 0, .ref h13, .int 0, .ref h14, .ref h15, .int 0, .int 0, .ref h16, .int 0, .int 0, .int 0, .int 0]))]) hP hD [0] [] rfl rfl (by decide) (by decide) hk1 hFc hP1 hD1
  generalize H1 = H at hP hS ⊢
  clear hPc hDc hKc hFc hP1 hD1 hK1 hk1 hz1
  have hP : va_P (dC, dI) vwCl [(h0, .inr (11, [.int 0, .ref h1, .int 0, .int 0, .int 200, .int 0, .int 0, .int 0, .int 0, .int 0, .int 1, .int 0, .long 0, .int 0, .ref h2, .ref h3, .ref h4, .ref h5, .ref h6, .ref h7, .ref h8, .ref h9, .ref h10, .int 0, .int 0, .int 0, .int 0, .int (-1), .int (-1), .long 0, .long 0, .ref h11, .ref h12, .int 0, .int (-1), .int 0, .ref h13, .int 0, .ref h14, .ref h15, .int 0, .int 0, .ref h16, .int 0, .int 0, .int 0, .int 0]))] H := hP
  have hD : va_D A [(h0, .inr (11, [.int 0, .ref h1, .int 0, .int 0, .int 200, .int 0, .int 0, .int 0, .int 0, .int 0, .int 1, .int 0, .long 0, .int 0, .ref h2, .ref h3, .ref h4, .ref h5, .ref h6, .ref h7, .ref h8, .ref h9, .ref h10, .int 0, .int 0, .int 0, .int 0, .int (-1), .int (-1), .long 0, .long 0, .ref h11, .ref h12, .int 0, .int (-1), .int 0, .ref h13, .int 0, .ref h14, .ref h15, .int 0, .int 0, .ref h16, .int 0, .int 0, .int 0, .int 0]))] := hD
  refine zz_top (v := 0) hw ?_
  refine lv_if_ne (tgt := 36) hx hb dX12_sentence_26 (by decide) (fun c2 => absurd c2 (by decide)) (fun _ => ?_)
  refine lv_iconst (v := (-1)) hx hb dX12_sentence_29 (by decide) ?_
  refine lv_aload_n hx hb dX12_sentence_30 rfl (lv_at hl 0 rfl) ?_
  refine va_get (D := (dC, dI)) (ci := 11) (v := .int 0) (C := RX12) (T := TX12) (N := 47) hx hb hts ii_X12_sentence_X12 hown hK hP 0 rfl rfl 11 (by decide) (hts _ mm_X12_sentence_4) (fun _ h9 => h9) rfl dX12_sentence_31 ?_
  refine lv_isub hx hb dX12_sentence_34 ?_
  refine zz_top (v := (-1)) (by decide) ?_
  have hP9 := hP.sub (ws' := []) [] rfl
  have hD9 := hD.sub (ws' := []) [] (by decide) rfl
  have hK9 := hK.sub (tys' := []) [] rfl
  refine W.widen (k := 0) (n := 0) (Nat.le_of_ble_eq_true rfl) (Nat.le_of_ble_eq_true rfl) ?_
  exact W.iret (v := (-1)) hx hb hr (fun t ht hW => ⟨⟨(-1), (), rfl, rfl, by rw [ht]; exact hP9, va_K.moved hW.alike hK9, hD9⟩, hS.F ht⟩) hS.2.2 dX12_sentence_35
set_option maxHeartbeats 4000000 in
set_option maxRecDepth 100000 in
theorem k_X12_said (l : Launch) (dC : Nat → ClassId) (dI : Nat → Nat → Nat) (ad : Nat → Nat) (h0 h1 h2 h3 h4 h5 h6 h7 h8 h9 h10 h11 h12 h13 h14 h15 h16 : Nat) (p0 : Int32) (w0 : ClassId) (sz : Nat) : Met l yX12_said wsX12_said ({ frames := 0, cells := 0, slots := 0, locals := 0 }) (va_Pc [.ref h0, .int p0] (CP (dC, dI) [(h0, .inr (11, [.int 0, .ref h1, .int 0, .int 0, .int 0, .int 0, .int 0, .int 0, .int 0, .int 0, .int 0, .int 0, .long 0, .int 0, .ref h2, .ref h3, .ref h4, .ref h5, .ref h6, .ref h7, .ref h8, .ref h9, .ref h10, .int 0, .int 0, .int 0, .int 0, .int (-1), .int (-1), .long 0, .long 0, .ref h11, .ref h12, .int 0, .int (-1), .int 0, .ref h13, .int 0, .ref h14, .ref h15, .int 0, .int 0, .ref h16, .int 0, .int 0, .int 0, .int 0])), (h2, .inl (w0, 373, .inl (upd (upd (fun _ => 0) 60 2) 62 2)))] [(w0, .int)] sz ad)) (va_Qi (fun (r : Int32) (_ : Unit) => r = (-1)) (fun (_ : Unit) (t : State) => CQ (dC, dI) [] [] (va_A [(h0, .inr (11, [.int 0, .ref h1, .int 0, .int 0, .int 0, .int 0, .int 0, .int 0, .int 0, .int 0, .int 0, .int 0, .long 0, .int 0, .ref h2, .ref h3, .ref h4, .ref h5, .ref h6, .ref h7, .ref h8, .ref h9, .ref h10, .int 0, .int 0, .int 0, .int 0, .int (-1), .int (-1), .long 0, .long 0, .ref h11, .ref h12, .int 0, .int (-1), .int 0, .ref h13, .int 0, .ref h14, .ref h15, .int 0, .int 0, .ref h16, .int 0, .int 0, .int 0, .int 0])), (h2, .inl (w0, 373, .inl (upd (upd (fun _ => 0) 60 2) 62 2)))] sz) t) (va_A [(h0, .inr (11, [.int 0, .ref h1, .int 0, .int 0, .int 0, .int 0, .int 0, .int 0, .int 0, .int 0, .int 0, .int 0, .long 0, .int 0, .ref h2, .ref h3, .ref h4, .ref h5, .ref h6, .ref h7, .ref h8, .ref h9, .ref h10, .int 0, .int 0, .int 0, .int 0, .int (-1), .int (-1), .long 0, .long 0, .ref h11, .ref h12, .int 0, .int (-1), .int 0, .ref h13, .int 0, .ref h14, .ref h15, .int 0, .int 0, .ref h16, .int 0, .int 0, .int 0, .int 0])), (h2, .inl (w0, 373, .inl (upd (upd (fun _ => 0) 60 2) 62 2)))] sz)) 0 0 (va_A [(h0, .inr (11, [.int 0, .ref h1, .int 0, .int 0, .int 0, .int 0, .int 0, .int 0, .int 0, .int 0, .int 0, .int 0, .long 0, .int 0, .ref h2, .ref h3, .ref h4, .ref h5, .ref h6, .ref h7, .ref h8, .ref h9, .ref h10, .int 0, .int 0, .int 0, .int 0, .int (-1), .int (-1), .long 0, .long 0, .ref h11, .ref h12, .int 0, .int (-1), .int 0, .ref h13, .int 0, .ref h14, .ref h15, .int 0, .int 0, .ref h16, .int 0, .int 0, .int 0, .int 0])), (h2, .inl (w0, 373, .inl (upd (upd (fun _ => 0) 60 2) 62 2)))] sz) := by
  refine Met.ofW (cc := cX12_said) (maxL := 4) (ret := (some .int)) (by decide) rfl ?_
  intro p e s m args below meth c s₁ B hml hv
  obtain ⟨rfl, hsz, hP, hK, hD0, hE⟩ := hv
  have hx := B.exec
  have hb := B.bytes
  have hr := B.returns
  have hts := atoms_spec (ws := wsX12_said) B.pre
  have hown : s.vm.findClass RX12 = some m.cls := findClass_of_methodNamed B.named
  have hlocks := B.notSynchronized
  subst hsz
  have hD := hD0.self (sz := s.heap.size)
  generalize hAe : va_A [(h0, .inr (11, [.int 0, .ref h1, .int 0, .int 0, .int 0, .int 0, .int 0, .int 0, .int 0, .int 0, .int 0, .int 0, .long 0, .int 0, .ref h2, .ref h3, .ref h4, .ref h5, .ref h6, .ref h7, .ref h8, .ref h9, .ref h10, .int 0, .int 0, .int 0, .int 0, .int (-1), .int (-1), .long 0, .long 0, .ref h11, .ref h12, .int 0, .int (-1), .int 0, .ref h13, .int 0, .ref h14, .ref h15, .int 0, .int 0, .ref h16, .int 0, .int 0, .int 0, .int 0])), (h2, .inl (w0, 373, .inl (upd (upd (fun _ => 0) 60 2) 62 2)))] s.heap.size = A at hD hE ⊢
  have hA : ∀ q : Nat, s.heap.size ≤ q → A q := fun q h => by rw [← hAe]; exact Or.inr h
  have hS : va_S A s.heap s.heap [] := va_S.rf
  have hl := lv_entry ([.ref h0, .int p0]) (n := 4) (Nat.le_of_ble_eq_true rfl)
  rw [lg_entry_eq]
  generalize (lg_sl ([.ref h0, .int p0]) ++ List.replicate (4 - (lg_sl ([.ref h0, .int p0])).length) Slot.unset).toArray = ls at hl ⊢
  have hl : lv_has ls 4 [(0, .ref h0), (1, .int p0)] := hl
  refine lv_aload_n hx hb dX12_said_0 rfl (lv_at hl 0 rfl) ?_
  refine lv_iconst (v := 0) hx hb dX12_said_1 (by decide) ?_
  refine va_put (D := (dC, dI)) (ci := 11) (v := .int 0) (ty := .int) (C := RX12) (T := TX12) (N := 47) hx hb hts ii_X12_said_X12 tyX12 tyX12_ok nmX12 hown hK hP hD hS 0 rfl rfl 0 (by decide) (hts _ mm_X12_said_1) (fun _ h9 => h9) rfl (by decide +kernel) rfl rfl (Nat.le_of_ble_eq_true rfl) dX12_said_2 (fun H locs hP hD hS => ?_)
  have hP : va_P (dC, dI) vwCl [(h0, .inr (11, [.int 0, .ref h1, .int 0, .int 0, .int 0, .int 0, .int 0, .int 0, .int 0, .int 0, .int 0, .int 0, .long 0, .int 0, .ref h2, .ref h3, .ref h4, .ref h5, .ref h6, .ref h7, .ref h8, .ref h9, .ref h10, .int 0, .int 0, .int 0, .int 0, .int (-1), .int (-1), .long 0, .long 0, .ref h11, .ref h12, .int 0, .int (-1), .int 0, .ref h13, .int 0, .ref h14, .ref h15, .int 0, .int 0, .ref h16, .int 0, .int 0, .int 0, .int 0])), (h2, .inl (w0, 373, .inl (upd (upd (fun _ => 0) 60 2) 62 2)))] H := hP
  have hD : va_D A [(h0, .inr (11, [.int 0, .ref h1, .int 0, .int 0, .int 0, .int 0, .int 0, .int 0, .int 0, .int 0, .int 0, .int 0, .long 0, .int 0, .ref h2, .ref h3, .ref h4, .ref h5, .ref h6, .ref h7, .ref h8, .ref h9, .ref h10, .int 0, .int 0, .int 0, .int 0, .int (-1), .int (-1), .long 0, .long 0, .ref h11, .ref h12, .int 0, .int (-1), .int 0, .ref h13, .int 0, .ref h14, .ref h15, .int 0, .int 0, .ref h16, .int 0, .int 0, .int 0, .int 0])), (h2, .inl (w0, 373, .inl (upd (upd (fun _ => 0) 60 2) 62 2)))] := hD
  refine lv_aload_n hx hb dX12_said_5 rfl (lv_at hl 0 rfl) ?_
  refine va_get (D := (dC, dI)) (ci := 11) (v := .ref h2) (C := RX12) (T := TX12) (N := 47) hx hb hts ii_X12_said_X12 hown hK hP 0 rfl rfl 14 (by decide) (hts _ mm_X12_said_2) (fun _ h9 => h9) rfl dX12_said_6 ?_
  refine lv_sipush (v := 131) hx hb dX12_said_9 (by decide) ?_
  refine va_iald hx hb hK hP 1 0 rfl rfl (i := 131) (zz_in (by decide)) dX12_said_12 ?_
  refine zz_top (v := 0) (by rfl) ?_
  refine lv_if_ne (tgt := 18) hx hb dX12_said_13 (by decide) (fun c1 => absurd c1 (by decide)) (fun _ => ?_)
  refine lv_iconst (v := (-1)) hx hb dX12_said_16 (by decide) ?_
  have hP9 := hP.sub (ws' := []) [] rfl
  have hD9 := hD.sub (ws' := []) [] (by decide) rfl
  have hK9 := hK.sub (tys' := []) [] rfl
  refine W.widen (k := 0) (n := 0) (Nat.le_of_ble_eq_true rfl) (Nat.le_of_ble_eq_true rfl) ?_
  exact W.iret (v := (-1)) hx hb hr (fun t ht hW => ⟨⟨(-1), (), rfl, rfl, by rw [ht]; exact hP9, va_K.moved hW.alike hK9, hD9⟩, hS.F ht⟩) hS.2.2 dX12_said_17
set_option maxHeartbeats 4000000 in
set_option maxRecDepth 100000 in
theorem k_X12_image (l : Launch) (dC : Nat → ClassId) (dI : Nat → Nat → Nat) (ad : Nat → Nat) (h0 h1 h2 h3 h4 h5 h6 h7 h8 h9 h10 h11 h12 h13 h14 h15 h16 : Nat) (w0 w1 w2 w3 w4 : ClassId) (sz : Nat) : Met l yX12_image wsX12_image ({ frames := 1, cells := 0, slots := 0, locals := 22 }) (va_Pc [.ref h0, .int 0] (CP (dC, dI) [(h1, .inl (w0, 746, .inl (fun _ => 0))), (h2, .inl (w1, 19, .inr (.inl (fun _ => 0)))), (h3, .inl (w2, 38, .inr (.inl (fun _ => 0)))), (h4, .inl (w3, 2, .inl (fun _ => 0))), (h0, .inr (11, [.int 0, .ref h5, .int 0, .int 0, .int 0, .int 0, .int 0, .int 0, .int 0, .int 0, .int 0, .int 0, .long 0, .int 0, .ref h6, .ref h7, .ref h1, .ref h8, .ref h9, .ref h2, .ref h10, .ref h3, .ref h4, .int 0, .int 0, .int 0, .int 0, .int (-1), .int (-1), .long 0, .long 0, .ref h11, .ref h12, .int 0, .int (-1), .int 0, .ref h13, .int 0, .ref h14, .ref h15, .int 0, .int 0, .ref h16, .int 0, .int 0, .int 0, .int 0])), (h6, .inl (w4, 373, .inl (upd (upd (fun _ => 0) 60 2) 62 2)))] [(w4, .int), (w0, .int), (w1, .long), (w2, .long), (w3, .boolean)] sz ad)) (va_Qi (fun (r : Int32) (_ : Unit) => r = 1) (fun (_ : Unit) (t : State) => CQ (dC, dI) [] [] (va_A [(h1, .inl (w0, 746, .inl (fun _ => 0))), (h2, .inl (w1, 19, .inr (.inl (fun _ => 0)))), (h3, .inl (w2, 38, .inr (.inl (fun _ => 0)))), (h4, .inl (w3, 2, .inl (fun _ => 0))), (h0, .inr (11, [.int 0, .ref h5, .int 0, .int 0, .int 0, .int 0, .int 0, .int 0, .int 0, .int 0, .int 0, .int 0, .long 0, .int 0, .ref h6, .ref h7, .ref h1, .ref h8, .ref h9, .ref h2, .ref h10, .ref h3, .ref h4, .int 0, .int 0, .int 0, .int 0, .int (-1), .int (-1), .long 0, .long 0, .ref h11, .ref h12, .int 0, .int (-1), .int 0, .ref h13, .int 0, .ref h14, .ref h15, .int 0, .int 0, .ref h16, .int 0, .int 0, .int 0, .int 0])), (h6, .inl (w4, 373, .inl (upd (upd (fun _ => 0) 60 2) 62 2)))] sz) t) (va_A [(h1, .inl (w0, 746, .inl (fun _ => 0))), (h2, .inl (w1, 19, .inr (.inl (fun _ => 0)))), (h3, .inl (w2, 38, .inr (.inl (fun _ => 0)))), (h4, .inl (w3, 2, .inl (fun _ => 0))), (h0, .inr (11, [.int 0, .ref h5, .int 0, .int 0, .int 0, .int 0, .int 0, .int 0, .int 0, .int 0, .int 0, .int 0, .long 0, .int 0, .ref h6, .ref h7, .ref h1, .ref h8, .ref h9, .ref h2, .ref h10, .ref h3, .ref h4, .int 0, .int 0, .int 0, .int 0, .int (-1), .int (-1), .long 0, .long 0, .ref h11, .ref h12, .int 0, .int (-1), .int 0, .ref h13, .int 0, .ref h14, .ref h15, .int 0, .int 0, .ref h16, .int 0, .int 0, .int 0, .int 0])), (h6, .inl (w4, 373, .inl (upd (upd (fun _ => 0) 60 2) 62 2)))] sz)) 0 0 (va_A [(h1, .inl (w0, 746, .inl (fun _ => 0))), (h2, .inl (w1, 19, .inr (.inl (fun _ => 0)))), (h3, .inl (w2, 38, .inr (.inl (fun _ => 0)))), (h4, .inl (w3, 2, .inl (fun _ => 0))), (h0, .inr (11, [.int 0, .ref h5, .int 0, .int 0, .int 0, .int 0, .int 0, .int 0, .int 0, .int 0, .int 0, .int 0, .long 0, .int 0, .ref h6, .ref h7, .ref h1, .ref h8, .ref h9, .ref h2, .ref h10, .ref h3, .ref h4, .int 0, .int 0, .int 0, .int 0, .int (-1), .int (-1), .long 0, .long 0, .ref h11, .ref h12, .int 0, .int (-1), .int 0, .ref h13, .int 0, .ref h14, .ref h15, .int 0, .int 0, .ref h16, .int 0, .int 0, .int 0, .int 0])), (h6, .inl (w4, 373, .inl (upd (upd (fun _ => 0) 60 2) 62 2)))] sz) := by
  refine Met.ofW (cc := cX12_image) (maxL := 3) (ret := (some .boolean)) (by decide) rfl ?_
  intro p e s m args below meth c s₁ B hml hv
  obtain ⟨rfl, hsz, hP, hK, hD0, hE⟩ := hv
  have hx := B.exec
  have hb := B.bytes
  have hr := B.returns
  have hts := atoms_spec (ws := wsX12_image) B.pre
  have hown : s.vm.findClass RX12 = some m.cls := findClass_of_methodNamed B.named
  have hlocks := B.notSynchronized
  subst hsz
  have hD := hD0.self (sz := s.heap.size)
  generalize hAe : va_A [(h1, .inl (w0, 746, .inl (fun _ => 0))), (h2, .inl (w1, 19, .inr (.inl (fun _ => 0)))), (h3, .inl (w2, 38, .inr (.inl (fun _ => 0)))), (h4, .inl (w3, 2, .inl (fun _ => 0))), (h0, .inr (11, [.int 0, .ref h5, .int 0, .int 0, .int 0, .int 0, .int 0, .int 0, .int 0, .int 0, .int 0, .int 0, .long 0, .int 0, .ref h6, .ref h7, .ref h1, .ref h8, .ref h9, .ref h2, .ref h10, .ref h3, .ref h4, .int 0, .int 0, .int 0, .int 0, .int (-1), .int (-1), .long 0, .long 0, .ref h11, .ref h12, .int 0, .int (-1), .int 0, .ref h13, .int 0, .ref h14, .ref h15, .int 0, .int 0, .ref h16, .int 0, .int 0, .int 0, .int 0])), (h6, .inl (w4, 373, .inl (upd (upd (fun _ => 0) 60 2) 62 2)))] s.heap.size = A at hD hE ⊢
  have hA : ∀ q : Nat, s.heap.size ≤ q → A q := fun q h => by rw [← hAe]; exact Or.inr h
  have hS : va_S A s.heap s.heap [] := va_S.rf
  have hl := lv_entry ([.ref h0, .int 0]) (n := 3) (Nat.le_of_ble_eq_true rfl)
  rw [lg_entry_eq]
  generalize (lg_sl ([.ref h0, .int 0]) ++ List.replicate (3 - (lg_sl ([.ref h0, .int 0])).length) Slot.unset).toArray = ls at hl ⊢
  have hl : lv_has ls 3 [(0, .ref h0), (1, .int 0)] := hl
  refine lv_aload_n hx hb dX12_image_0 rfl (lv_at hl 0 rfl) ?_
  refine lv_iconst (v := 0) hx hb dX12_image_1 (by decide) ?_
  refine va_put (D := (dC, dI)) (ci := 11) (v := .int 0) (ty := .int) (C := RX12) (T := TX12) (N := 47) hx hb hts ii_X12_image_X12 tyX12 tyX12_ok nmX12 hown hK hP hD hS 4 rfl rfl 0 (by decide) (hts _ mm_X12_image_1) (fun _ h9 => h9) rfl (by decide +kernel) rfl rfl (Nat.le_of_ble_eq_true rfl) dX12_image_2 (fun H locs hP hD hS => ?_)
  have hP : va_P (dC, dI) vwCl [(h1, .inl (w0, 746, .inl (fun _ => 0))), (h2, .inl (w1, 19, .inr (.inl (fun _ => 0)))), (h3, .inl (w2, 38, .inr (.inl (fun _ => 0)))), (h4, .inl (w3, 2, .inl (fun _ => 0))), (h0, .inr (11, [.int 0, .ref h5, .int 0, .int 0, .int 0, .int 0, .int 0, .int 0, .int 0, .int 0, .int 0, .int 0, .long 0, .int 0, .ref h6, .ref h7, .ref h1, .ref h8, .ref h9, .ref h2, .ref h10, .ref h3, .ref h4, .int 0, .int 0, .int 0, .int 0, .int (-1), .int (-1), .long 0, .long 0, .ref h11, .ref h12, .int 0, .int (-1), .int 0, .ref h13, .int 0, .ref h14, .ref h15, .int 0, .int 0, .ref h16, .int 0, .int 0, .int 0, .int 0])), (h6, .inl (w4, 373, .inl (upd (upd (fun _ => 0) 60 2) 62 2)))] H := hP
  have hD : va_D A [(h1, .inl (w0, 746, .inl (fun _ => 0))), (h2, .inl (w1, 19, .inr (.inl (fun _ => 0)))), (h3, .inl (w2, 38, .inr (.inl (fun _ => 0)))), (h4, .inl (w3, 2, .inl (fun _ => 0))), (h0, .inr (11, [.int 0, .ref h5, .int 0, .int 0, .int 0, .int 0, .int 0, .int 0, .int 0, .int 0, .int 0, .int 0, .long 0, .int 0, .ref h6, .ref h7, .ref h1, .ref h8, .ref h9, .ref h2, .ref h10, .ref h3, .ref h4, .int 0, .int 0, .int 0, .int 0, .int (-1), .int (-1), .long 0, .long 0, .ref h11, .ref h12, .int 0, .int (-1), .int 0, .ref h13, .int 0, .ref h14, .ref h15, .int 0, .int 0, .ref h16, .int 0, .int 0, .int 0, .int 0])), (h6, .inl (w4, 373, .inl (upd (upd (fun _ => 0) 60 2) 62 2)))] := hD
  refine lv_iload_n hx hb dX12_image_5 rfl (lv_at hl 1 rfl) ?_
  refine lv_iconst (v := 0) hx hb dX12_image_6 (by decide) ?_
  refine lv_iconst (v := 1) hx hb dX12_image_7 (by decide) ?_
  have hPc := hP.sub (ws' := []) [] rfl
  have hDc := hD.sub (ws' := []) [] (by decide) rfl
  have hKc := hK.sub (tys' := []) [] rfl
  have hFc := va_free (wc := []) hD hS hA [] rfl
  refine va_calli (va_runS (As := [.int 0, .int 0, .int 1]) (rest := []) ⟨hx, hb, hml, hown, hts⟩ (k_X12_isIn_9 l dC dI ad H.size) (cwS 3 hts gX12_image_X12_isIn rfl rfl rfl (by decide +kernel) ⟨Nat.le_of_ble_eq_true rfl, Nat.le_of_ble_eq_true rfl⟩) ⟨fun a U g mk q => ⟨q.1, CP.blind q.2⟩, fun U hU hW => ⟨rfl, CP.of hPc hKc hDc hE hS hFc hU hW⟩⟩ rfl rfl hl.1 rfl (lv_room (Nat.le_of_ble_eq_true rfl)) dX12_image_8 ⟨Nat.le_of_ble_eq_true rfl, Nat.le_of_ble_eq_true rfl⟩) hS (fun q _ h => hFc q h) hFc (fun r1 u t H1 locs ht hvm hw hB hz1 hk1 hS => ?_)
  obtain ⟨hP1, hK1, hD1⟩ := hB
  rw [ht] at hP1
  obtain ⟨hP, hD⟩ := va_join (wr := [(h1, .inl (w0, 746, .inl (fun _ => 0))), (h2, .inl (w1, 19, .inr (.inl (fun _ => 0)))), (h3, .inl (w2, 38, .inr (.inl (fun _ => 0)))), (h4, .inl (w3, 2, .inl (fun _ => 0))), (h0, .inr (11, [.int 0, .ref h5, .int 0, .int 0, .int 0, .int 0, .int 0, .int 0, .int 0, .int 0, .int 0, .int 0, .long 0, .int 0, .ref h6, .ref h7, .ref h1, .ref h8, .ref h9, .ref h2, .ref h10, .ref h3, .ref h4, .int 0, .int 0, .int 0, .int 0, .int (-1), .int (-1), .long 0, .long 0, .ref h11, .ref h12, .int 0, .int (-1), .int 0, .ref h13, .int 0, .ref h14, .ref h15, .int 0, .int 0, .ref h16, .int 0, .int 0, .int 0, .int 0])), (h6, .inl (w4, 373, .inl (upd (upd (fun _ => 0) 60 2) 62 2)))]) (w1 := []) hP hD [] [0, 1, 2, 3, 4, 5] rfl rfl (by decide) (by decide) hk1 hFc hP1 hD1
  generalize H1 = H at hP hS ⊢
  clear hPc hDc hKc hFc hP1 hD1 hK1 hk1 hz1
  have hP : va_P (dC, dI) vwCl [(h1, .inl (w0, 746, .inl (fun _ => 0))), (h2, .inl (w1, 19, .inr (.inl (fun _ => 0)))), (h3, .inl (w2, 38, .inr (.inl (fun _ => 0)))), (h4, .inl (w3, 2, .inl (fun _ => 0))), (h0, .inr (11, [.int 0, .ref h5, .int 0, .int 0, .int 0, .int 0, .int 0, .int 0, .int 0, .int 0, .int 0, .int 0, .long 0, .int 0, .ref h6, .ref h7, .ref h1, .ref h8, .ref h9, .ref h2, .ref h10, .ref h3, .ref h4, .int 0, .int 0, .int 0, .int 0, .int (-1), .int (-1), .long 0, .long 0, .ref h11, .ref h12, .int 0, .int (-1), .int 0, .ref h13, .int 0, .ref h14, .ref h15, .int 0, .int 0, .ref h16, .int 0, .int 0, .int 0, .int 0])), (h6, .inl (w4, 373, .inl (upd (upd (fun _ => 0) 60 2) 62 2)))] H := hP
  have hD : va_D A [(h1, .inl (w0, 746, .inl (fun _ => 0))), (h2, .inl (w1, 19, .inr (.inl (fun _ => 0)))), (h3, .inl (w2, 38, .inr (.inl (fun _ => 0)))), (h4, .inl (w3, 2, .inl (fun _ => 0))), (h0, .inr (11, [.int 0, .ref h5, .int 0, .int 0, .int 0, .int 0, .int 0, .int 0, .int 0, .int 0, .int 0, .int 0, .long 0, .int 0, .ref h6, .ref h7, .ref h1, .ref h8, .ref h9, .ref h2, .ref h10, .ref h3, .ref h4, .int 0, .int 0, .int 0, .int 0, .int (-1), .int (-1), .long 0, .long 0, .ref h11, .ref h12, .int 0, .int (-1), .int 0, .ref h13, .int 0, .ref h14, .ref h15, .int 0, .int 0, .ref h16, .int 0, .int 0, .int 0, .int 0])), (h6, .inl (w4, 373, .inl (upd (upd (fun _ => 0) 60 2) 62 2)))] := hD
  refine zz_top (v := 1) hw ?_
  refine lv_if_ne (tgt := 16) hx hb dX12_image_11 (by decide) (fun _ => ?_) (fun c2 => absurd (by decide) c2)
  refine lv_iconst (v := 0) hx hb dX12_image_16 (by decide) ?_
  refine lv_istore_n (lv' := [(2, .int 0), (0, .ref h0), (1, .int 0)]) hx hb dX12_image_17 rfl hl (by decide) rfl (fun ls hl => ?_)
  refine zz_loop (σ := (Nat → Int32)) (fun (k : Nat) (x : (Nat → Int32)) (H : Heap) (locs : List Loc) (ls : Array Slot) => 0 ≤ k ∧ va_P (dC, dI) vwCl [(h1, .inl (w0, 746, .inl x)), (h2, .inl (w1, 19, .inr (.inl (fun _ => 0)))), (h3, .inl (w2, 38, .inr (.inl (fun _ => 0)))), (h4, .inl (w3, 2, .inl (fun _ => 0))), (h0, .inr (11, [.int 0, .ref h5, .int 0, .int 0, .int 0, .int 0, .int 0, .int 0, .int 0, .int 0, .int 0, .int 0, .long 0, .int 0, .ref h6, .ref h7, .ref h1, .ref h8, .ref h9, .ref h2, .ref h10, .ref h3, .ref h4, .int 0, .int 0, .int 0, .int 0, .int (-1), .int (-1), .long 0, .long 0, .ref h11, .ref h12, .int 0, .int (-1), .int 0, .ref h13, .int 0, .ref h14, .ref h15, .int 0, .int 0, .ref h16, .int 0, .int 0, .int 0, .int 0])), (h6, .inl (w4, 373, .inl (upd (upd (fun _ => 0) 60 2) 62 2)))] H ∧ va_D A [(h1, .inl (w0, 746, .inl x)), (h2, .inl (w1, 19, .inr (.inl (fun _ => 0)))), (h3, .inl (w2, 38, .inr (.inl (fun _ => 0)))), (h4, .inl (w3, 2, .inl (fun _ => 0))), (h0, .inr (11, [.int 0, .ref h5, .int 0, .int 0, .int 0, .int 0, .int 0, .int 0, .int 0, .int 0, .int 0, .int 0, .long 0, .int 0, .ref h6, .ref h7, .ref h1, .ref h8, .ref h9, .ref h2, .ref h10, .ref h3, .ref h4, .int 0, .int 0, .int 0, .int 0, .int (-1), .int (-1), .long 0, .long 0, .ref h11, .ref h12, .int 0, .int (-1), .int 0, .ref h13, .int 0, .ref h14, .ref h15, .int 0, .int 0, .ref h16, .int 0, .int 0, .int 0, .int 0])), (h6, .inl (w4, 373, .inl (upd (upd (fun _ => 0) 60 2) 62 2)))] ∧ va_S A s.heap H locs ∧ lv_has ls 3 [(2, .int (nI k)), (0, .ref h0), (1, .int 0)]) 373 ?_ ?_ 0 (fun _ => 0) _ _ _ (by omega) ⟨by omega, hP, hD, hS, hl⟩
  · rintro k3 f4 H locs ls hkk3 ⟨hmk3, hP, hD, hS, hl⟩ ih
    have hP : va_P (dC, dI) vwCl [(h1, .inl (w0, 746, .inl f4)), (h2, .inl (w1, 19, .inr (.inl (fun _ => 0)))), (h3, .inl (w2, 38, .inr (.inl (fun _ => 0)))), (h4, .inl (w3, 2, .inl (fun _ => 0))), (h0, .inr (11, [.int 0, .ref h5, .int 0, .int 0, .int 0, .int 0, .int 0, .int 0, .int 0, .int 0, .int 0, .int 0, .long 0, .int 0, .ref h6, .ref h7, .ref h1, .ref h8, .ref h9, .ref h2, .ref h10, .ref h3, .ref h4, .int 0, .int 0, .int 0, .int 0, .int (-1), .int (-1), .long 0, .long 0, .ref h11, .ref h12, .int 0, .int (-1), .int 0, .ref h13, .int 0, .ref h14, .ref h15, .int 0, .int 0, .ref h16, .int 0, .int 0, .int 0, .int 0])), (h6, .inl (w4, 373, .inl (upd (upd (fun _ => 0) 60 2) 62 2)))] H := hP
    have hD : va_D A [(h1, .inl (w0, 746, .inl f4)), (h2, .inl (w1, 19, .inr (.inl (fun _ => 0)))), (h3, .inl (w2, 38, .inr (.inl (fun _ => 0)))), (h4, .inl (w3, 2, .inl (fun _ => 0))), (h0, .inr (11, [.int 0, .ref h5, .int 0, .int 0, .int 0, .int 0, .int 0, .int 0, .int 0, .int 0, .int 0, .int 0, .long 0, .int 0, .ref h6, .ref h7, .ref h1, .ref h8, .ref h9, .ref h2, .ref h10, .ref h3, .ref h4, .int 0, .int 0, .int 0, .int 0, .int (-1), .int (-1), .long 0, .long 0, .ref h11, .ref h12, .int 0, .int (-1), .int 0, .ref h13, .int 0, .ref h14, .ref h15, .int 0, .int 0, .ref h16, .int 0, .int 0, .int 0, .int 0])), (h6, .inl (w4, 373, .inl (upd (upd (fun _ => 0) 60 2) 62 2)))] := hD
    have hl : lv_has ls 3 [(2, .int (nI k3)), (0, .ref h0), (1, .int 0)] := hl
    refine lv_iload_n hx hb dX12_image_18 rfl (lv_at hl 0 rfl) ?_
    refine lv_sipush (v := 373) hx hb dX12_image_19 (by decide) ?_
    refine lv_icmp_ge (tgt := 49) hx hb dX12_image_22 (by decide) (fun c9 => absurd c9 (nI_ge (by omega) (by omega))) (fun _ => ?_)
    refine lv_aload_n hx hb dX12_image_25 rfl (lv_at hl 1 rfl) ?_
    refine va_get (D := (dC, dI)) (ci := 11) (v := .ref h1) (C := RX12) (T := TX12) (N := 47) hx hb hts ii_X12_image_X12 hown hK hP 4 rfl rfl 16 (by decide) (hts _ mm_X12_image_2) (fun _ h9 => h9) rfl dX12_image_26 ?_
    refine lv_sipush (v := 373) hx hb dX12_image_29 (by decide) ?_
    refine lv_iload_n hx hb dX12_image_32 rfl (lv_at hl 2 rfl) ?_
    refine lv_imul hx hb dX12_image_33 ?_
    refine zz_top (v := 0) (by decide) ?_
    refine lv_iload_n hx hb dX12_image_34 rfl (lv_at hl 0 rfl) ?_
    refine lv_iadd hx hb dX12_image_35 ?_
    refine zz_top (v := (nI k3)) (zz_addl k3 0) ?_
    refine lv_aload_n hx hb dX12_image_36 rfl (lv_at hl 1 rfl) ?_
    refine va_get (D := (dC, dI)) (ci := 11) (v := .ref h6) (C := RX12) (T := TX12) (N := 47) hx hb hts ii_X12_image_X12 hown hK hP 4 rfl rfl 14 (by decide) (hts _ mm_X12_image_3) (fun _ h9 => h9) rfl dX12_image_37 ?_
    refine lv_iload_n hx hb dX12_image_40 rfl (lv_at hl 0 rfl) ?_
    refine va_iald hx hb hK hP 5 0 rfl rfl (i := (nI k3)) (vp_in_nI (by omega) (by decide)) dX12_image_41 ?_
    refine lv_topi (fun z5 ez5 => ?_)
    refine va_iast hx hb hK hP hD hS 0 1 rfl rfl (i := (nI k3)) (vp_in_nI (by omega) (by decide)) dX12_image_42 (fun H locs hP hD hS => ?_)
    have hP : va_P (dC, dI) vwCl [(h1, .inl (w0, 746, .inl (upd f4 (nI k3).toNatClampNeg z5))), (h2, .inl (w1, 19, .inr (.inl (fun _ => 0)))), (h3, .inl (w2, 38, .inr (.inl (fun _ => 0)))), (h4, .inl (w3, 2, .inl (fun _ => 0))), (h0, .inr (11, [.int 0, .ref h5, .int 0, .int 0, .int 0, .int 0, .int 0, .int 0, .int 0, .int 0, .int 0, .int 0, .long 0, .int 0, .ref h6, .ref h7, .ref h1, .ref h8, .ref h9, .ref h2, .ref h10, .ref h3, .ref h4, .int 0, .int 0, .int 0, .int 0, .int (-1), .int (-1), .long 0, .long 0, .ref h11, .ref h12, .int 0, .int (-1), .int 0, .ref h13, .int 0, .ref h14, .ref h15, .int 0, .int 0, .ref h16, .int 0, .int 0, .int 0, .int 0])), (h6, .inl (w4, 373, .inl (upd (upd (fun _ => 0) 60 2) 62 2)))] H := hP
    have hD : va_D A [(h1, .inl (w0, 746, .inl (upd f4 (nI k3).toNatClampNeg z5))), (h2, .inl (w1, 19, .inr (.inl (fun _ => 0)))), (h3, .inl (w2, 38, .inr (.inl (fun _ => 0)))), (h4, .inl (w3, 2, .inl (fun _ => 0))), (h0, .inr (11, [.int 0, .ref h5, .int 0, .int 0, .int 0, .int 0, .int 0, .int 0, .int 0, .int 0, .int 0, .int 0, .long 0, .int 0, .ref h6, .ref h7, .ref h1, .ref h8, .ref h9, .ref h2, .ref h10, .ref h3, .ref h4, .int 0, .int 0, .int 0, .int 0, .int (-1), .int (-1), .long 0, .long 0, .ref h11, .ref h12, .int 0, .int (-1), .int 0, .ref h13, .int 0, .ref h14, .ref h15, .int 0, .int 0, .ref h16, .int 0, .int 0, .int 0, .int 0])), (h6, .inl (w4, 373, .inl (upd (upd (fun _ => 0) 60 2) 62 2)))] := hD
    refine lv_iinc (v := (nI (k3 + 1))) (lv' := [(2, .int (nI (k3 + 1))), (0, .ref h0), (1, .int 0)]) hx hb dX12_image_43 hl (k := 0) rfl (zz_addr k3 1) (by decide) rfl (fun ls hl => ?_)
    refine lv_goto (tgt := 18) hx hb dX12_image_46 (by decide) ?_
    exact ih ((upd f4 (nI k3).toNatClampNeg z5)) _ _ _ ⟨by omega, hP, hD, hS, lv_sub hl [0, 1, 2] rfl⟩
  rintro f4 H locs ls ⟨-, hP, hD, hS, hl⟩
  have hP : va_P (dC, dI) vwCl [(h1, .inl (w0, 746, .inl f4)), (h2, .inl (w1, 19, .inr (.inl (fun _ => 0)))), (h3, .inl (w2, 38, .inr (.inl (fun _ => 0)))), (h4, .inl (w3, 2, .inl (fun _ => 0))), (h0, .inr (11, [.int 0, .ref h5, .int 0, .int 0, .int 0, .int 0, .int 0, .int 0, .int 0, .int 0, .int 0, .int 0, .long 0, .int 0, .ref h6, .ref h7, .ref h1, .ref h8, .ref h9, .ref h2, .ref h10, .ref h3, .ref h4, .int 0, .int 0, .int 0, .int 0, .int (-1), .int (-1), .long 0, .long 0, .ref h11, .ref h12, .int 0, .int (-1), .int 0, .ref h13, .int 0, .ref h14, .ref h15, .int 0, .int 0, .ref h16, .int 0, .int 0, .int 0, .int 0])), (h6, .inl (w4, 373, .inl (upd (upd (fun _ => 0) 60 2) 62 2)))] H := hP
  have hD : va_D A [(h1, .inl (w0, 746, .inl f4)), (h2, .inl (w1, 19, .inr (.inl (fun _ => 0)))), (h3, .inl (w2, 38, .inr (.inl (fun _ => 0)))), (h4, .inl (w3, 2, .inl (fun _ => 0))), (h0, .inr (11, [.int 0, .ref h5, .int 0, .int 0, .int 0, .int 0, .int 0, .int 0, .int 0, .int 0, .int 0, .int 0, .long 0, .int 0, .ref h6, .ref h7, .ref h1, .ref h8, .ref h9, .ref h2, .ref h10, .ref h3, .ref h4, .int 0, .int 0, .int 0, .int 0, .int (-1), .int (-1), .long 0, .long 0, .ref h11, .ref h12, .int 0, .int (-1), .int 0, .ref h13, .int 0, .ref h14, .ref h15, .int 0, .int 0, .ref h16, .int 0, .int 0, .int 0, .int 0])), (h6, .inl (w4, 373, .inl (upd (upd (fun _ => 0) 60 2) 62 2)))] := hD
  have hl : lv_has ls 3 [(2, .int 373), (0, .ref h0), (1, .int 0)] := hl
  refine lv_iload_n hx hb dX12_image_18 rfl (lv_at hl 0 rfl) ?_
  refine lv_sipush (v := 373) hx hb dX12_image_19 (by decide) ?_
  refine lv_icmp_ge (tgt := 49) hx hb dX12_image_22 (by decide) (fun _ => ?_) (fun c6 => absurd (by decide) c6)
  refine lv_iconst (v := 0) hx hb dX12_image_49 (by decide) ?_
  refine lv_istore_n (lv' := [(2, .int 0), (0, .ref h0), (1, .int 0)]) hx hb dX12_image_50 rfl hl (by decide) rfl (fun ls hl => ?_)
  refine zz_loop (σ := (Nat → Int64)) (fun (k : Nat) (x : (Nat → Int64)) (H : Heap) (locs : List Loc) (ls : Array Slot) => 0 ≤ k ∧ va_P (dC, dI) vwCl [(h1, .inl (w0, 746, .inl f4)), (h2, .inl (w1, 19, .inr (.inl (fun _ => 0)))), (h3, .inl (w2, 38, .inr (.inl x))), (h4, .inl (w3, 2, .inl (fun _ => 0))), (h0, .inr (11, [.int 0, .ref h5, .int 0, .int 0, .int 0, .int 0, .int 0, .int 0, .int 0, .int 0, .int 0, .int 0, .long 0, .int 0, .ref h6, .ref h7, .ref h1, .ref h8, .ref h9, .ref h2, .ref h10, .ref h3, .ref h4, .int 0, .int 0, .int 0, .int 0, .int (-1), .int (-1), .long 0, .long 0, .ref h11, .ref h12, .int 0, .int (-1), .int 0, .ref h13, .int 0, .ref h14, .ref h15, .int 0, .int 0, .ref h16, .int 0, .int 0, .int 0, .int 0])), (h6, .inl (w4, 373, .inl (upd (upd (fun _ => 0) 60 2) 62 2)))] H ∧ va_D A [(h1, .inl (w0, 746, .inl f4)), (h2, .inl (w1, 19, .inr (.inl (fun _ => 0)))), (h3, .inl (w2, 38, .inr (.inl x))), (h4, .inl (w3, 2, .inl (fun _ => 0))), (h0, .inr (11, [.int 0, .ref h5, .int 0, .int 0, .int 0, .int 0, .int 0, .int 0, .int 0, .int 0, .int 0, .int 0, .long 0, .int 0, .ref h6, .ref h7, .ref h1, .ref h8, .ref h9, .ref h2, .ref h10, .ref h3, .ref h4, .int 0, .int 0, .int 0, .int 0, .int (-1), .int (-1), .long 0, .long 0, .ref h11, .ref h12, .int 0, .int (-1), .int 0, .ref h13, .int 0, .ref h14, .ref h15, .int 0, .int 0, .ref h16, .int 0, .int 0, .int 0, .int 0])), (h6, .inl (w4, 373, .inl (upd (upd (fun _ => 0) 60 2) 62 2)))] ∧ va_S A s.heap H locs ∧ lv_has ls 3 [(2, .int (nI k)), (0, .ref h0), (1, .int 0)]) 19 ?_ ?_ 0 (fun _ => 0) _ _ _ (by omega) ⟨by omega, hP, hD, hS, hl⟩
  · rintro k7 f8 H locs ls hkk7 ⟨hmk7, hP, hD, hS, hl⟩ ih
    have hP : va_P (dC, dI) vwCl [(h1, .inl (w0, 746, .inl f4)), (h2, .inl (w1, 19, .inr (.inl (fun _ => 0)))), (h3, .inl (w2, 38, .inr (.inl f8))), (h4, .inl (w3, 2, .inl (fun _ => 0))), (h0, .inr (11, [.int 0, .ref h5, .int 0, .int 0, .int 0, .int 0, .int 0, .int 0, .int 0, .int 0, .int 0, .int 0, .long 0, .int 0, .ref h6, .ref h7, .ref h1, .ref h8, .ref h9, .ref h2, .ref h10, .ref h3, .ref h4, .int 0, .int 0, .int 0, .int 0, .int (-1), .int (-1), .long 0, .long 0, .ref h11, .ref h12, .int 0, .int (-1), .int 0, .ref h13, .int 0, .ref h14, .ref h15, .int 0, .int 0, .ref h16, .int 0, .int 0, .int 0, .int 0])), (h6, .inl (w4, 373, .inl (upd (upd (fun _ => 0) 60 2) 62 2)))] H := hP
    have hD : va_D A [(h1, .inl (w0, 746, .inl f4)), (h2, .inl (w1, 19, .inr (.inl (fun _ => 0)))), (h3, .inl (w2, 38, .inr (.inl f8))), (h4, .inl (w3, 2, .inl (fun _ => 0))), (h0, .inr (11, [.int 0, .ref h5, .int 0, .int 0, .int 0, .int 0, .int 0, .int 0, .int 0, .int 0, .int 0, .int 0, .long 0, .int 0, .ref h6, .ref h7, .ref h1, .ref h8, .ref h9, .ref h2, .ref h10, .ref h3, .ref h4, .int 0, .int 0, .int 0, .int 0, .int (-1), .int (-1), .long 0, .long 0, .ref h11, .ref h12, .int 0, .int (-1), .int 0, .ref h13, .int 0, .ref h14, .ref h15, .int 0, .int 0, .ref h16, .int 0, .int 0, .int 0, .int 0])), (h6, .inl (w4, 373, .inl (upd (upd (fun _ => 0) 60 2) 62 2)))] := hD
    have hl : lv_has ls 3 [(2, .int (nI k7)), (0, .ref h0), (1, .int 0)] := hl
    refine lv_iload_n hx hb dX12_image_51 rfl (lv_at hl 0 rfl) ?_
    refine lv_bipush (v := 19) hx hb dX12_image_52 (by decide) ?_
    refine lv_icmp_ge (tgt := 80) hx hb dX12_image_54 (by decide) (fun c9 => absurd c9 (nI_ge (by omega) (by omega))) (fun _ => ?_)
    refine lv_aload_n hx hb dX12_image_57 rfl (lv_at hl 1 rfl) ?_
    refine va_get (D := (dC, dI)) (ci := 11) (v := .ref h3) (C := RX12) (T := TX12) (N := 47) hx hb hts ii_X12_image_X12 hown hK hP 4 rfl rfl 21 (by decide) (hts _ mm_X12_image_4) (fun _ h9 => h9) rfl dX12_image_58 ?_
    refine lv_bipush (v := 19) hx hb dX12_image_61 (by decide) ?_
    refine lv_iload_n hx hb dX12_image_63 rfl (lv_at hl 2 rfl) ?_
    refine lv_imul hx hb dX12_image_64 ?_
    refine zz_top (v := 0) (by decide) ?_
    refine lv_iload_n hx hb dX12_image_65 rfl (lv_at hl 0 rfl) ?_
    refine lv_iadd hx hb dX12_image_66 ?_
    refine zz_top (v := (nI k7)) (zz_addl k7 0) ?_
    refine lv_aload_n hx hb dX12_image_67 rfl (lv_at hl 1 rfl) ?_
    refine va_get (D := (dC, dI)) (ci := 11) (v := .ref h2) (C := RX12) (T := TX12) (N := 47) hx hb hts ii_X12_image_X12 hown hK hP 4 rfl rfl 19 (by decide) (hts _ mm_X12_image_5) (fun _ h9 => h9) rfl dX12_image_68 ?_
    refine lv_iload_n hx hb dX12_image_71 rfl (lv_at hl 0 rfl) ?_
    refine va_lald hx hb hK hP 1 2 rfl rfl (i := (nI k7)) (vp_in_nI (by omega) (by decide)) dX12_image_72 ?_
    refine lv_topl (fun z9 ez9 => ?_)
    refine va_last hx hb hK hP hD hS 2 3 rfl rfl (i := (nI k7)) (vp_in_nI (by omega) (by decide)) dX12_image_73 (fun H locs hP hD hS => ?_)
    have hP : va_P (dC, dI) vwCl [(h1, .inl (w0, 746, .inl f4)), (h2, .inl (w1, 19, .inr (.inl (fun _ => 0)))), (h3, .inl (w2, 38, .inr (.inl (vp_updL f8 (nI k7).toNatClampNeg z9)))), (h4, .inl (w3, 2, .inl (fun _ => 0))), (h0, .inr (11, [.int 0, .ref h5, .int 0, .int 0, .int 0, .int 0, .int 0, .int 0, .int 0, .int 0, .int 0, .int 0, .long 0, .int 0, .ref h6, .ref h7, .ref h1, .ref h8, .ref h9, .ref h2, .ref h10, .ref h3, .ref h4, .int 0, .int 0, .int 0, .int 0, .int (-1), .int (-1), .long 0, .long 0, .ref h11, .ref h12, .int 0, .int (-1), .int 0, .ref h13, .int 0, .ref h14, .ref h15, .int 0, .int 0, .ref h16, .int 0, .int 0, .int 0, .int 0])), (h6, .inl (w4, 373, .inl (upd (upd (fun _ => 0) 60 2) 62 2)))] H := hP
    have hD : va_D A [(h1, .inl (w0, 746, .inl f4)), (h2, .inl (w1, 19, .inr (.inl (fun _ => 0)))), (h3, .inl (w2, 38, .inr (.inl (vp_updL f8 (nI k7).toNatClampNeg z9)))), (h4, .inl (w3, 2, .inl (fun _ => 0))), (h0, .inr (11, [.int 0, .ref h5, .int 0, .int 0, .int 0, .int 0, .int 0, .int 0, .int 0, .int 0, .int 0, .int 0, .long 0, .int 0, .ref h6, .ref h7, .ref h1, .ref h8, .ref h9, .ref h2, .ref h10, .ref h3, .ref h4, .int 0, .int 0, .int 0, .int 0, .int (-1), .int (-1), .long 0, .long 0, .ref h11, .ref h12, .int 0, .int (-1), .int 0, .ref h13, .int 0, .ref h14, .ref h15, .int 0, .int 0, .ref h16, .int 0, .int 0, .int 0, .int 0])), (h6, .inl (w4, 373, .inl (upd (upd (fun _ => 0) 60 2) 62 2)))] := hD
    refine lv_iinc (v := (nI (k7 + 1))) (lv' := [(2, .int (nI (k7 + 1))), (0, .ref h0), (1, .int 0)]) hx hb dX12_image_74 hl (k := 0) rfl (zz_addr k7 1) (by decide) rfl (fun ls hl => ?_)
    refine lv_goto (tgt := 51) hx hb dX12_image_77 (by decide) ?_
    exact ih ((vp_updL f8 (nI k7).toNatClampNeg z9)) _ _ _ ⟨by omega, hP, hD, hS, lv_sub hl [0, 1, 2] rfl⟩
  rintro f8 H locs ls ⟨-, hP, hD, hS, hl⟩
  have hP : va_P (dC, dI) vwCl [(h1, .inl (w0, 746, .inl f4)), (h2, .inl (w1, 19, .inr (.inl (fun _ => 0)))), (h3, .inl (w2, 38, .inr (.inl f8))), (h4, .inl (w3, 2, .inl (fun _ => 0))), (h0, .inr (11, [.int 0, .ref h5, .int 0, .int 0, .int 0, .int 0, .int 0, .int 0, .int 0, .int 0, .int 0, .int 0, .long 0, .int 0, .ref h6, .ref h7, .ref h1, .ref h8, .ref h9, .ref h2, .ref h10, .ref h3, .ref h4, .int 0, .int 0, .int 0, .int 0, .int (-1), .int (-1), .long 0, .long 0, .ref h11, .ref h12, .int 0, .int (-1), .int 0, .ref h13, .int 0, .ref h14, .ref h15, .int 0, .int 0, .ref h16, .int 0, .int 0, .int 0, .int 0])), (h6, .inl (w4, 373, .inl (upd (upd (fun _ => 0) 60 2) 62 2)))] H := hP
  have hD : va_D A [(h1, .inl (w0, 746, .inl f4)), (h2, .inl (w1, 19, .inr (.inl (fun _ => 0)))), (h3, .inl (w2, 38, .inr (.inl f8))), (h4, .inl (w3, 2, .inl (fun _ => 0))), (h0, .inr (11, [.int 0, .ref h5, .int 0, .int 0, .int 0, .int 0, .int 0, .int 0, .int 0, .int 0, .int 0, .int 0, .long 0, .int 0, .ref h6, .ref h7, .ref h1, .ref h8, .ref h9, .ref h2, .ref h10, .ref h3, .ref h4, .int 0, .int 0, .int 0, .int 0, .int (-1), .int (-1), .long 0, .long 0, .ref h11, .ref h12, .int 0, .int (-1), .int 0, .ref h13, .int 0, .ref h14, .ref h15, .int 0, .int 0, .ref h16, .int 0, .int 0, .int 0, .int 0])), (h6, .inl (w4, 373, .inl (upd (upd (fun _ => 0) 60 2) 62 2)))] := hD
  have hl : lv_has ls 3 [(2, .int 19), (0, .ref h0), (1, .int 0)] := hl
  refine lv_iload_n hx hb dX12_image_51 rfl (lv_at hl 0 rfl) ?_
  refine lv_bipush (v := 19) hx hb dX12_image_52 (by decide) ?_
  refine lv_icmp_ge (tgt := 80) hx hb dX12_image_54 (by decide) (fun _ => ?_) (fun c10 => absurd (by decide) c10)
  refine lv_aload_n hx hb dX12_image_80 rfl (lv_at hl 1 rfl) ?_
  refine va_get (D := (dC, dI)) (ci := 11) (v := .ref h4) (C := RX12) (T := TX12) (N := 47) hx hb hts ii_X12_image_X12 hown hK hP 4 rfl rfl 22 (by decide) (hts _ mm_X12_image_6) (fun _ h9 => h9) rfl dX12_image_81 ?_
  refine lv_iload_n hx hb dX12_image_84 rfl (lv_at hl 2 rfl) ?_
  refine lv_iconst (v := 1) hx hb dX12_image_85 (by decide) ?_
  refine va_zast hx hb hK hP hD hS 3 4 rfl rfl (i := 0) (zz_in (by decide)) dX12_image_86 (fun H locs hP hD hS => ?_)
  have hP : va_P (dC, dI) vwCl [(h1, .inl (w0, 746, .inl f4)), (h2, .inl (w1, 19, .inr (.inl (fun _ => 0)))), (h3, .inl (w2, 38, .inr (.inl f8))), (h4, .inl (w3, 2, .inl (upd (fun _ => 0) 0 1))), (h0, .inr (11, [.int 0, .ref h5, .int 0, .int 0, .int 0, .int 0, .int 0, .int 0, .int 0, .int 0, .int 0, .int 0, .long 0, .int 0, .ref h6, .ref h7, .ref h1, .ref h8, .ref h9, .ref h2, .ref h10, .ref h3, .ref h4, .int 0, .int 0, .int 0, .int 0, .int (-1), .int (-1), .long 0, .long 0, .ref h11, .ref h12, .int 0, .int (-1), .int 0, .ref h13, .int 0, .ref h14, .ref h15, .int 0, .int 0, .ref h16, .int 0, .int 0, .int 0, .int 0])), (h6, .inl (w4, 373, .inl (upd (upd (fun _ => 0) 60 2) 62 2)))] H := hP
  have hD : va_D A [(h1, .inl (w0, 746, .inl f4)), (h2, .inl (w1, 19, .inr (.inl (fun _ => 0)))), (h3, .inl (w2, 38, .inr (.inl f8))), (h4, .inl (w3, 2, .inl (upd (fun _ => 0) 0 1))), (h0, .inr (11, [.int 0, .ref h5, .int 0, .int 0, .int 0, .int 0, .int 0, .int 0, .int 0, .int 0, .int 0, .int 0, .long 0, .int 0, .ref h6, .ref h7, .ref h1, .ref h8, .ref h9, .ref h2, .ref h10, .ref h3, .ref h4, .int 0, .int 0, .int 0, .int 0, .int (-1), .int (-1), .long 0, .long 0, .ref h11, .ref h12, .int 0, .int (-1), .int 0, .ref h13, .int 0, .ref h14, .ref h15, .int 0, .int 0, .ref h16, .int 0, .int 0, .int 0, .int 0])), (h6, .inl (w4, 373, .inl (upd (upd (fun _ => 0) 60 2) 62 2)))] := hD
  refine lv_iconst (v := 1) hx hb dX12_image_87 (by decide) ?_
  have hP9 := hP.sub (ws' := []) [] rfl
  have hD9 := hD.sub (ws' := []) [] (by decide) rfl
  have hK9 := hK.sub (tys' := []) [] rfl
  refine W.widen (k := 0) (n := 0) (Nat.le_of_ble_eq_true rfl) (Nat.le_of_ble_eq_true rfl) ?_
  exact W.zret (v := 1) hx hb hr rfl (fun t ht hW => ⟨⟨1, (), rfl, rfl, by rw [ht]; exact hP9, va_K.moved hW.alike hK9, hD9⟩, hS.F ht⟩) hS.2.2 dX12_image_88
set_option maxHeartbeats 4000000 in
set_option maxRecDepth 100000 in
theorem k_X12_image_1 (l : Launch) (dC : Nat → ClassId) (dI : Nat → Nat → Nat) (ad : Nat → Nat) (h0 h1 h2 h3 h4 h5 h6 h7 h8 h9 h10 h11 h12 h13 h14 h15 h16 : Nat) (w0 w1 w2 w3 w4 : ClassId) (sz : Nat) : Met l yX12_image wsX12_image ({ frames := 1, cells := 0, slots := 0, locals := 22 }) (va_Pc [.ref h0, .int 1] (CP (dC, dI) [(h1, .inl (w0, 746, .inl (fun _ => 0))), (h2, .inl (w1, 19, .inr (.inl (fun _ => 0)))), (h3, .inl (w2, 38, .inr (.inl (fun _ => 0)))), (h4, .inl (w3, 2, .inl (fun _ => 0))), (h0, .inr (11, [.int 0, .ref h5, .int 0, .int 0, .int 0, .int 0, .int 0, .int 0, .int 0, .int 0, .int 0, .int 0, .long 0, .int 0, .ref h6, .ref h7, .ref h1, .ref h8, .ref h9, .ref h2, .ref h10, .ref h3, .ref h4, .int 0, .int 0, .int 0, .int 0, .int (-1), .int (-1), .long 0, .long 0, .ref h11, .ref h12, .int 0, .int (-1), .int 0, .ref h13, .int 0, .ref h14, .ref h15, .int 0, .int 0, .ref h16, .int 0, .int 0, .int 0, .int 0])), (h6, .inl (w4, 373, .inl (upd (upd (fun _ => 0) 60 2) 62 2)))] [(w4, .int), (w0, .int), (w1, .long), (w2, .long), (w3, .boolean)] sz ad)) (va_Qi (fun (r : Int32) (_ : Unit) => r = 1) (fun (_ : Unit) (t : State) => CQ (dC, dI) [] [] (va_A [(h1, .inl (w0, 746, .inl (fun _ => 0))), (h2, .inl (w1, 19, .inr (.inl (fun _ => 0)))), (h3, .inl (w2, 38, .inr (.inl (fun _ => 0)))), (h4, .inl (w3, 2, .inl (fun _ => 0))), (h0, .inr (11, [.int 0, .ref h5, .int 0, .int 0, .int 0, .int 0, .int 0, .int 0, .int 0, .int 0, .int 0, .int 0, .long 0, .int 0, .ref h6, .ref h7, .ref h1, .ref h8, .ref h9, .ref h2, .ref h10, .ref h3, .ref h4, .int 0, .int 0, .int 0, .int 0, .int (-1), .int (-1), .long 0, .long 0, .ref h11, .ref h12, .int 0, .int (-1), .int 0, .ref h13, .int 0, .ref h14, .ref h15, .int 0, .int 0, .ref h16, .int 0, .int 0, .int 0, .int 0])), (h6, .inl (w4, 373, .inl (upd (upd (fun _ => 0) 60 2) 62 2)))] sz) t) (va_A [(h1, .inl (w0, 746, .inl (fun _ => 0))), (h2, .inl (w1, 19, .inr (.inl (fun _ => 0)))), (h3, .inl (w2, 38, .inr (.inl (fun _ => 0)))), (h4, .inl (w3, 2, .inl (fun _ => 0))), (h0, .inr (11, [.int 0, .ref h5, .int 0, .int 0, .int 0, .int 0, .int 0, .int 0, .int 0, .int 0, .int 0, .int 0, .long 0, .int 0, .ref h6, .ref h7, .ref h1, .ref h8, .ref h9, .ref h2, .ref h10, .ref h3, .ref h4, .int 0, .int 0, .int 0, .int 0, .int (-1), .int (-1), .long 0, .long 0, .ref h11, .ref h12, .int 0, .int (-1), .int 0, .ref h13, .int 0, .ref h14, .ref h15, .int 0, .int 0, .ref h16, .int 0, .int 0, .int 0, .int 0])), (h6, .inl (w4, 373, .inl (upd (upd (fun _ => 0) 60 2) 62 2)))] sz)) 0 0 (va_A [(h1, .inl (w0, 746, .inl (fun _ => 0))), (h2, .inl (w1, 19, .inr (.inl (fun _ => 0)))), (h3, .inl (w2, 38, .inr (.inl (fun _ => 0)))), (h4, .inl (w3, 2, .inl (fun _ => 0))), (h0, .inr (11, [.int 0, .ref h5, .int 0, .int 0, .int 0, .int 0, .int 0, .int 0, .int 0, .int 0, .int 0, .int 0, .long 0, .int 0, .ref h6, .ref h7, .ref h1, .ref h8, .ref h9, .ref h2, .ref h10, .ref h3, .ref h4, .int 0, .int 0, .int 0, .int 0, .int (-1), .int (-1), .long 0, .long 0, .ref h11, .ref h12, .int 0, .int (-1), .int 0, .ref h13, .int 0, .ref h14, .ref h15, .int 0, .int 0, .ref h16, .int 0, .int 0, .int 0, .int 0])), (h6, .inl (w4, 373, .inl (upd (upd (fun _ => 0) 60 2) 62 2)))] sz) := by
  refine Met.ofW (cc := cX12_image) (maxL := 3) (ret := (some .boolean)) (by decide) rfl ?_
  intro p e s m args below meth c s₁ B hml hv
  obtain ⟨rfl, hsz, hP, hK, hD0, hE⟩ := hv
  have hx := B.exec
  have hb := B.bytes
  have hr := B.returns
  have hts := atoms_spec (ws := wsX12_image) B.pre
  have hown : s.vm.findClass RX12 = some m.cls := findClass_of_methodNamed B.named
  have hlocks := B.notSynchronized
  subst hsz
  have hD := hD0.self (sz := s.heap.size)
  generalize hAe : va_A [(h1, .inl (w0, 746, .inl (fun _ => 0))), (h2, .inl (w1, 19, .inr (.inl (fun _ => 0)))), (h3, .inl (w2, 38, .inr (.inl (fun _ => 0)))), (h4, .inl (w3, 2, .inl (fun _ => 0))), (h0, .inr (11, [.int 0, .ref h5, .int 0, .int 0, .int 0, .int 0, .int 0, .int 0, .int 0, .int 0, .int 0, .int 0, .long 0, .int 0, .ref h6, .ref h7, .ref h1, .ref h8, .ref h9, .ref h2, .ref h10, .ref h3, .ref h4, .int 0, .int 0, .int 0, .int 0, .int (-1), .int (-1), .long 0, .long 0, .ref h11, .ref h12, .int 0, .int (-1), .int 0, .ref h13, .int 0, .ref h14, .ref h15, .int 0, .int 0, .ref h16, .int 0, .int 0, .int 0, .int 0])), (h6, .inl (w4, 373, .inl (upd (upd (fun _ => 0) 60 2) 62 2)))] s.heap.size = A at hD hE ⊢
  have hA : ∀ q : Nat, s.heap.size ≤ q → A q := fun q h => by rw [← hAe]; exact Or.inr h
  have hS : va_S A s.heap s.heap [] := va_S.rf
  have hl := lv_entry ([.ref h0, .int 1]) (n := 3) (Nat.le_of_ble_eq_true rfl)
  rw [lg_entry_eq]
  generalize (lg_sl ([.ref h0, .int 1]) ++ List.replicate (3 - (lg_sl ([.ref h0, .int 1])).length) Slot.unset).toArray = ls at hl ⊢
  have hl : lv_has ls 3 [(0, .ref h0), (1, .int 1)] := hl
  refine lv_aload_n hx hb dX12_image_0 rfl (lv_at hl 0 rfl) ?_
  refine lv_iconst (v := 0) hx hb dX12_image_1 (by decide) ?_
  refine va_put (D := (dC, dI)) (ci := 11) (v := .int 0) (ty := .int) (C := RX12) (T := TX12) (N := 47) hx hb hts ii_X12_image_X12 tyX12 tyX12_ok nmX12 hown hK hP hD hS 4 rfl rfl 0 (by decide) (hts _ mm_X12_image_1) (fun _ h9 => h9) rfl (by decide +kernel) rfl rfl (Nat.le_of_ble_eq_true rfl) dX12_image_2 (fun H locs hP hD hS => ?_)
  have hP : va_P (dC, dI) vwCl [(h1, .inl (w0, 746, .inl (fun _ => 0))), (h2, .inl (w1, 19, .inr (.inl (fun _ => 0)))), (h3, .inl (w2, 38, .inr (.inl (fun _ => 0)))), (h4, .inl (w3, 2, .inl (fun _ => 0))), (h0, .inr (11, [.int 0, .ref h5, .int 0, .int 0, .int 0, .int 0, .int 0, .int 0, .int 0, .int 0, .int 0, .int 0, .long 0, .int 0, .ref h6, .ref h7, .ref h1, .ref h8, .ref h9, .ref h2, .ref h10, .ref h3, .ref h4, .int 0, .int 0, .int 0, .int 0, .int (-1), .int (-1), .long 0, .long 0, .ref h11, .ref h12, .int 0, .int (-1), .int 0, .ref h13, .int 0, .ref h14, .ref h15, .int 0, .int 0, .ref h16, .int 0, .int 0, .int 0, .int 0])), (h6, .inl (w4, 373, .inl (upd (upd (fun _ => 0) 60 2) 62 2)))] H := hP
  have hD : va_D A [(h1, .inl (w0, 746, .inl (fun _ => 0))), (h2, .inl (w1, 19, .inr (.inl (fun _ => 0)))), (h3, .inl (w2, 38, .inr (.inl (fun _ => 0)))), (h4, .inl (w3, 2, .inl (fun _ => 0))), (h0, .inr (11, [.int 0, .ref h5, .int 0, .int 0, .int 0, .int 0, .int 0, .int 0, .int 0, .int 0, .int 0, .int 0, .long 0, .int 0, .ref h6, .ref h7, .ref h1, .ref h8, .ref h9, .ref h2, .ref h10, .ref h3, .ref h4, .int 0, .int 0, .int 0, .int 0, .int (-1), .int (-1), .long 0, .long 0, .ref h11, .ref h12, .int 0, .int (-1), .int 0, .ref h13, .int 0, .ref h14, .ref h15, .int 0, .int 0, .ref h16, .int 0, .int 0, .int 0, .int 0])), (h6, .inl (w4, 373, .inl (upd (upd (fun _ => 0) 60 2) 62 2)))] := hD
  refine lv_iload_n hx hb dX12_image_5 rfl (lv_at hl 1 rfl) ?_
  refine lv_iconst (v := 0) hx hb dX12_image_6 (by decide) ?_
  refine lv_iconst (v := 1) hx hb dX12_image_7 (by decide) ?_
  have hPc := hP.sub (ws' := []) [] rfl
  have hDc := hD.sub (ws' := []) [] (by decide) rfl
  have hKc := hK.sub (tys' := []) [] rfl
  have hFc := va_free (wc := []) hD hS hA [] rfl
  refine va_calli (va_runS (As := [.int 1, .int 0, .int 1]) (rest := []) ⟨hx, hb, hml, hown, hts⟩ (k_X12_isIn_10 l dC dI ad H.size) (cwS 3 hts gX12_image_X12_isIn rfl rfl rfl (by decide +kernel) ⟨Nat.le_of_ble_eq_true rfl, Nat.le_of_ble_eq_true rfl⟩) ⟨fun a U g mk q => ⟨q.1, CP.blind q.2⟩, fun U hU hW => ⟨rfl, CP.of hPc hKc hDc hE hS hFc hU hW⟩⟩ rfl rfl hl.1 rfl (lv_room (Nat.le_of_ble_eq_true rfl)) dX12_image_8 ⟨Nat.le_of_ble_eq_true rfl, Nat.le_of_ble_eq_true rfl⟩) hS (fun q _ h => hFc q h) hFc (fun r1 u t H1 locs ht hvm hw hB hz1 hk1 hS => ?_)
  obtain ⟨hP1, hK1, hD1⟩ := hB
  rw [ht] at hP1
  obtain ⟨hP, hD⟩ := va_join (wr := [(h1, .inl (w0, 746, .inl (fun _ => 0))), (h2, .inl (w1, 19, .inr (.inl (fun _ => 0)))), (h3, .inl (w2, 38, .inr (.inl (fun _ => 0)))), (h4, .inl (w3, 2, .inl (fun _ => 0))), (h0, .inr (11, [.int 0, .ref h5, .int 0, .int 0, .int 0, .int 0, .int 0, .int 0, .int 0, .int 0, .int 0, .int 0, .long 0, .int 0, .ref h6, .ref h7, .ref h1, .ref h8, .ref h9, .ref h2, .ref h10, .ref h3, .ref h4, .int 0, .int 0, .int 0, .int 0, .int (-1), .int (-1), .long 0, .long 0, .ref h11, .ref h12, .int 0, .int (-1), .int 0, .ref h13, .int 0, .ref h14, .ref h15, .int 0, .int 0, .ref h16, .int 0, .int 0, .int 0, .int 0])), (h6, .inl (w4, 373, .inl (upd (upd (fun _ => 0) 60 2) 62 2)))]) (w1 := []) hP hD [] [0, 1, 2, 3, 4, 5] rfl rfl (by decide) (by decide) hk1 hFc hP1 hD1
  generalize H1 = H at hP hS ⊢
  clear hPc hDc hKc hFc hP1 hD1 hK1 hk1 hz1
  have hP : va_P (dC, dI) vwCl [(h1, .inl (w0, 746, .inl (fun _ => 0))), (h2, .inl (w1, 19, .inr (.inl (fun _ => 0)))), (h3, .inl (w2, 38, .inr (.inl (fun _ => 0)))), (h4, .inl (w3, 2, .inl (fun _ => 0))), (h0, .inr (11, [.int 0, .ref h5, .int 0, .int 0, .int 0, .int 0, .int 0, .int 0, .int 0, .int 0, .int 0, .int 0, .long 0, .int 0, .ref h6, .ref h7, .ref h1, .ref h8, .ref h9, .ref h2, .ref h10, .ref h3, .ref h4, .int 0, .int 0, .int 0, .int 0, .int (-1), .int (-1), .long 0, .long 0, .ref h11, .ref h12, .int 0, .int (-1), .int 0, .ref h13, .int 0, .ref h14, .ref h15, .int 0, .int 0, .ref h16, .int 0, .int 0, .int 0, .int 0])), (h6, .inl (w4, 373, .inl (upd (upd (fun _ => 0) 60 2) 62 2)))] H := hP
  have hD : va_D A [(h1, .inl (w0, 746, .inl (fun _ => 0))), (h2, .inl (w1, 19, .inr (.inl (fun _ => 0)))), (h3, .inl (w2, 38, .inr (.inl (fun _ => 0)))), (h4, .inl (w3, 2, .inl (fun _ => 0))), (h0, .inr (11, [.int 0, .ref h5, .int 0, .int 0, .int 0, .int 0, .int 0, .int 0, .int 0, .int 0, .int 0, .int 0, .long 0, .int 0, .ref h6, .ref h7, .ref h1, .ref h8, .ref h9, .ref h2, .ref h10, .ref h3, .ref h4, .int 0, .int 0, .int 0, .int 0, .int (-1), .int (-1), .long 0, .long 0, .ref h11, .ref h12, .int 0, .int (-1), .int 0, .ref h13, .int 0, .ref h14, .ref h15, .int 0, .int 0, .ref h16, .int 0, .int 0, .int 0, .int 0])), (h6, .inl (w4, 373, .inl (upd (upd (fun _ => 0) 60 2) 62 2)))] := hD
  refine zz_top (v := 1) hw ?_
  refine lv_if_ne (tgt := 16) hx hb dX12_image_11 (by decide) (fun _ => ?_) (fun c2 => absurd (by decide) c2)
  refine lv_iconst (v := 0) hx hb dX12_image_16 (by decide) ?_
  refine lv_istore_n (lv' := [(2, .int 0), (0, .ref h0), (1, .int 1)]) hx hb dX12_image_17 rfl hl (by decide) rfl (fun ls hl => ?_)
  refine zz_loop (σ := (Nat → Int32)) (fun (k : Nat) (x : (Nat → Int32)) (H : Heap) (locs : List Loc) (ls : Array Slot) => 0 ≤ k ∧ va_P (dC, dI) vwCl [(h1, .inl (w0, 746, .inl x)), (h2, .inl (w1, 19, .inr (.inl (fun _ => 0)))), (h3, .inl (w2, 38, .inr (.inl (fun _ => 0)))), (h4, .inl (w3, 2, .inl (fun _ => 0))), (h0, .inr (11, [.int 0, .ref h5, .int 0, .int 0, .int 0, .int 0, .int 0, .int 0, .int 0, .int 0, .int 0, .int 0, .long 0, .int 0, .ref h6, .ref h7, .ref h1, .ref h8, .ref h9, .ref h2, .ref h10, .ref h3, .ref h4, .int 0, .int 0, .int 0, .int 0, .int (-1), .int (-1), .long 0, .long 0, .ref h11, .ref h12, .int 0, .int (-1), .int 0, .ref h13, .int 0, .ref h14, .ref h15, .int 0, .int 0, .ref h16, .int 0, .int 0, .int 0, .int 0])), (h6, .inl (w4, 373, .inl (upd (upd (fun _ => 0) 60 2) 62 2)))] H ∧ va_D A [(h1, .inl (w0, 746, .inl x)), (h2, .inl (w1, 19, .inr (.inl (fun _ => 0)))), (h3, .inl (w2, 38, .inr (.inl (fun _ => 0)))), (h4, .inl (w3, 2, .inl (fun _ => 0))), (h0, .inr (11, [.int 0, .ref h5, .int 0, .int 0, .int 0, .int 0, .int 0, .int 0, .int 0, .int 0, .int 0, .int 0, .long 0, .int 0, .ref h6, .ref h7, .ref h1, .ref h8, .ref h9, .ref h2, .ref h10, .ref h3, .ref h4, .int 0, .int 0, .int 0, .int 0, .int (-1), .int (-1), .long 0, .long 0, .ref h11, .ref h12, .int 0, .int (-1), .int 0, .ref h13, .int 0, .ref h14, .ref h15, .int 0, .int 0, .ref h16, .int 0, .int 0, .int 0, .int 0])), (h6, .inl (w4, 373, .inl (upd (upd (fun _ => 0) 60 2) 62 2)))] ∧ va_S A s.heap H locs ∧ lv_has ls 3 [(2, .int (nI k)), (0, .ref h0), (1, .int 1)]) 373 ?_ ?_ 0 (fun _ => 0) _ _ _ (by omega) ⟨by omega, hP, hD, hS, hl⟩
  · rintro k3 f4 H locs ls hkk3 ⟨hmk3, hP, hD, hS, hl⟩ ih
    have hP : va_P (dC, dI) vwCl [(h1, .inl (w0, 746, .inl f4)), (h2, .inl (w1, 19, .inr (.inl (fun _ => 0)))), (h3, .inl (w2, 38, .inr (.inl (fun _ => 0)))), (h4, .inl (w3, 2, .inl (fun _ => 0))), (h0, .inr (11, [.int 0, .ref h5, .int 0, .int 0, .int 0, .int 0, .int 0, .int 0, .int 0, .int 0, .int 0, .int 0, .long 0, .int 0, .ref h6, .ref h7, .ref h1, .ref h8, .ref h9, .ref h2, .ref h10, .ref h3, .ref h4, .int 0, .int 0, .int 0, .int 0, .int (-1), .int (-1), .long 0, .long 0, .ref h11, .ref h12, .int 0, .int (-1), .int 0, .ref h13, .int 0, .ref h14, .ref h15, .int 0, .int 0, .ref h16, .int 0, .int 0, .int 0, .int 0])), (h6, .inl (w4, 373, .inl (upd (upd (fun _ => 0) 60 2) 62 2)))] H := hP
    have hD : va_D A [(h1, .inl (w0, 746, .inl f4)), (h2, .inl (w1, 19, .inr (.inl (fun _ => 0)))), (h3, .inl (w2, 38, .inr (.inl (fun _ => 0)))), (h4, .inl (w3, 2, .inl (fun _ => 0))), (h0, .inr (11, [.int 0, .ref h5, .int 0, .int 0, .int 0, .int 0, .int 0, .int 0, .int 0, .int 0, .int 0, .int 0, .long 0, .int 0, .ref h6, .ref h7, .ref h1, .ref h8, .ref h9, .ref h2, .ref h10, .ref h3, .ref h4, .int 0, .int 0, .int 0, .int 0, .int (-1), .int (-1), .long 0, .long 0, .ref h11, .ref h12, .int 0, .int (-1), .int 0, .ref h13, .int 0, .ref h14, .ref h15, .int 0, .int 0, .ref h16, .int 0, .int 0, .int 0, .int 0])), (h6, .inl (w4, 373, .inl (upd (upd (fun _ => 0) 60 2) 62 2)))] := hD
    have hl : lv_has ls 3 [(2, .int (nI k3)), (0, .ref h0), (1, .int 1)] := hl
    refine lv_iload_n hx hb dX12_image_18 rfl (lv_at hl 0 rfl) ?_
    refine lv_sipush (v := 373) hx hb dX12_image_19 (by decide) ?_
    refine lv_icmp_ge (tgt := 49) hx hb dX12_image_22 (by decide) (fun c9 => absurd c9 (nI_ge (by omega) (by omega))) (fun _ => ?_)
    refine lv_aload_n hx hb dX12_image_25 rfl (lv_at hl 1 rfl) ?_
    refine va_get (D := (dC, dI)) (ci := 11) (v := .ref h1) (C := RX12) (T := TX12) (N := 47) hx hb hts ii_X12_image_X12 hown hK hP 4 rfl rfl 16 (by decide) (hts _ mm_X12_image_2) (fun _ h9 => h9) rfl dX12_image_26 ?_
    refine lv_sipush (v := 373) hx hb dX12_image_29 (by decide) ?_
    refine lv_iload_n hx hb dX12_image_32 rfl (lv_at hl 2 rfl) ?_
    refine lv_imul hx hb dX12_image_33 ?_
    refine zz_top (v := 373) (by decide) ?_
    refine lv_iload_n hx hb dX12_image_34 rfl (lv_at hl 0 rfl) ?_
    refine lv_iadd hx hb dX12_image_35 ?_
    refine zz_top (v := (nI (k3 + 373))) (zz_addl k3 373) ?_
    refine lv_aload_n hx hb dX12_image_36 rfl (lv_at hl 1 rfl) ?_
    refine va_get (D := (dC, dI)) (ci := 11) (v := .ref h6) (C := RX12) (T := TX12) (N := 47) hx hb hts ii_X12_image_X12 hown hK hP 4 rfl rfl 14 (by decide) (hts _ mm_X12_image_3) (fun _ h9 => h9) rfl dX12_image_37 ?_
    refine lv_iload_n hx hb dX12_image_40 rfl (lv_at hl 0 rfl) ?_
    refine va_iald hx hb hK hP 5 0 rfl rfl (i := (nI k3)) (vp_in_nI (by omega) (by decide)) dX12_image_41 ?_
    refine lv_topi (fun z5 ez5 => ?_)
    refine va_iast hx hb hK hP hD hS 0 1 rfl rfl (i := (nI (k3 + 373))) (vp_in_nI (by omega) (by decide)) dX12_image_42 (fun H locs hP hD hS => ?_)
    have hP : va_P (dC, dI) vwCl [(h1, .inl (w0, 746, .inl (upd f4 (nI (k3 + 373)).toNatClampNeg z5))), (h2, .inl (w1, 19, .inr (.inl (fun _ => 0)))), (h3, .inl (w2, 38, .inr (.inl (fun _ => 0)))), (h4, .inl (w3, 2, .inl (fun _ => 0))), (h0, .inr (11, [.int 0, .ref h5, .int 0, .int 0, .int 0, .int 0, .int 0, .int 0, .int 0, .int 0, .int 0, .int 0, .long 0, .int 0, .ref h6, .ref h7, .ref h1, .ref h8, .ref h9, .ref h2, .ref h10, .ref h3, .ref h4, .int 0, .int 0, .int 0, .int 0, .int (-1), .int (-1), .long 0, .long 0, .ref h11, .ref h12, .int 0, .int (-1), .int 0, .ref h13, .int 0, .ref h14, .ref h15, .int 0, .int 0, .ref h16, .int 0, .int 0, .int 0, .int 0])), (h6, .inl (w4, 373, .inl (upd (upd (fun _ => 0) 60 2) 62 2)))] H := hP
    have hD : va_D A [(h1, .inl (w0, 746, .inl (upd f4 (nI (k3 + 373)).toNatClampNeg z5))), (h2, .inl (w1, 19, .inr (.inl (fun _ => 0)))), (h3, .inl (w2, 38, .inr (.inl (fun _ => 0)))), (h4, .inl (w3, 2, .inl (fun _ => 0))), (h0, .inr (11, [.int 0, .ref h5, .int 0, .int 0, .int 0, .int 0, .int 0, .int 0, .int 0, .int 0, .int 0, .int 0, .long 0, .int 0, .ref h6, .ref h7, .ref h1, .ref h8, .ref h9, .ref h2, .ref h10, .ref h3, .ref h4, .int 0, .int 0, .int 0, .int 0, .int (-1), .int (-1), .long 0, .long 0, .ref h11, .ref h12, .int 0, .int (-1), .int 0, .ref h13, .int 0, .ref h14, .ref h15, .int 0, .int 0, .ref h16, .int 0, .int 0, .int 0, .int 0])), (h6, .inl (w4, 373, .inl (upd (upd (fun _ => 0) 60 2) 62 2)))] := hD
    refine lv_iinc (v := (nI (k3 + 1))) (lv' := [(2, .int (nI (k3 + 1))), (0, .ref h0), (1, .int 1)]) hx hb dX12_image_43 hl (k := 0) rfl (zz_addr k3 1) (by decide) rfl (fun ls hl => ?_)
    refine lv_goto (tgt := 18) hx hb dX12_image_46 (by decide) ?_
    exact ih ((upd f4 (nI (k3 + 373)).toNatClampNeg z5)) _ _ _ ⟨by omega, hP, hD, hS, lv_sub hl [0, 1, 2] rfl⟩
  rintro f4 H locs ls ⟨-, hP, hD, hS, hl⟩
  have hP : va_P (dC, dI) vwCl [(h1, .inl (w0, 746, .inl f4)), (h2, .inl (w1, 19, .inr (.inl (fun _ => 0)))), (h3, .inl (w2, 38, .inr (.inl (fun _ => 0)))), (h4, .inl (w3, 2, .inl (fun _ => 0))), (h0, .inr (11, [.int 0, .ref h5, .int 0, .int 0, .int 0, .int 0, .int 0, .int 0, .int 0, .int 0, .int 0, .int 0, .long 0, .int 0, .ref h6, .ref h7, .ref h1, .ref h8, .ref h9, .ref h2, .ref h10, .ref h3, .ref h4, .int 0, .int 0, .int 0, .int 0, .int (-1), .int (-1), .long 0, .long 0, .ref h11, .ref h12, .int 0, .int (-1), .int 0, .ref h13, .int 0, .ref h14, .ref h15, .int 0, .int 0, .ref h16, .int 0, .int 0, .int 0, .int 0])), (h6, .inl (w4, 373, .inl (upd (upd (fun _ => 0) 60 2) 62 2)))] H := hP
  have hD : va_D A [(h1, .inl (w0, 746, .inl f4)), (h2, .inl (w1, 19, .inr (.inl (fun _ => 0)))), (h3, .inl (w2, 38, .inr (.inl (fun _ => 0)))), (h4, .inl (w3, 2, .inl (fun _ => 0))), (h0, .inr (11, [.int 0, .ref h5, .int 0, .int 0, .int 0, .int 0, .int 0, .int 0, .int 0, .int 0, .int 0, .int 0, .long 0, .int 0, .ref h6, .ref h7, .ref h1, .ref h8, .ref h9, .ref h2, .ref h10, .ref h3, .ref h4, .int 0, .int 0, .int 0, .int 0, .int (-1), .int (-1), .long 0, .long 0, .ref h11, .ref h12, .int 0, .int (-1), .int 0, .ref h13, .int 0, .ref h14, .ref h15, .int 0, .int 0, .ref h16, .int 0, .int 0, .int 0, .int 0])), (h6, .inl (w4, 373, .inl (upd (upd (fun _ => 0) 60 2) 62 2)))] := hD
  have hl : lv_has ls 3 [(2, .int 373), (0, .ref h0), (1, .int 1)] := hl
  refine lv_iload_n hx hb dX12_image_18 rfl (lv_at hl 0 rfl) ?_
  refine lv_sipush (v := 373) hx hb dX12_image_19 (by decide) ?_
  refine lv_icmp_ge (tgt := 49) hx hb dX12_image_22 (by decide) (fun _ => ?_) (fun c6 => absurd (by decide) c6)
  refine lv_iconst (v := 0) hx hb dX12_image_49 (by decide) ?_
  refine lv_istore_n (lv' := [(2, .int 0), (0, .ref h0), (1, .int 1)]) hx hb dX12_image_50 rfl hl (by decide) rfl (fun ls hl => ?_)
  refine zz_loop (σ := (Nat → Int64)) (fun (k : Nat) (x : (Nat → Int64)) (H : Heap) (locs : List Loc) (ls : Array Slot) => 0 ≤ k ∧ va_P (dC, dI) vwCl [(h1, .inl (w0, 746, .inl f4)), (h2, .inl (w1, 19, .inr (.inl (fun _ => 0)))), (h3, .inl (w2, 38, .inr (.inl x))), (h4, .inl (w3, 2, .inl (fun _ => 0))), (h0, .inr (11, [.int 0, .ref h5, .int 0, .int 0, .int 0, .int 0, .int 0, .int 0, .int 0, .int 0, .int 0, .int 0, .long 0, .int 0, .ref h6, .ref h7, .ref h1, .ref h8, .ref h9, .ref h2, .ref h10, .ref h3, .ref h4, .int 0, .int 0, .int 0, .int 0, .int (-1), .int (-1), .long 0, .long 0, .ref h11, .ref h12, .int 0, .int (-1), .int 0, .ref h13, .int 0, .ref h14, .ref h15, .int 0, .int 0, .ref h16, .int 0, .int 0, .int 0, .int 0])), (h6, .inl (w4, 373, .inl (upd (upd (fun _ => 0) 60 2) 62 2)))] H ∧ va_D A [(h1, .inl (w0, 746, .inl f4)), (h2, .inl (w1, 19, .inr (.inl (fun _ => 0)))), (h3, .inl (w2, 38, .inr (.inl x))), (h4, .inl (w3, 2, .inl (fun _ => 0))), (h0, .inr (11, [.int 0, .ref h5, .int 0, .int 0, .int 0, .int 0, .int 0, .int 0, .int 0, .int 0, .int 0, .int 0, .long 0, .int 0, .ref h6, .ref h7, .ref h1, .ref h8, .ref h9, .ref h2, .ref h10, .ref h3, .ref h4, .int 0, .int 0, .int 0, .int 0, .int (-1), .int (-1), .long 0, .long 0, .ref h11, .ref h12, .int 0, .int (-1), .int 0, .ref h13, .int 0, .ref h14, .ref h15, .int 0, .int 0, .ref h16, .int 0, .int 0, .int 0, .int 0])), (h6, .inl (w4, 373, .inl (upd (upd (fun _ => 0) 60 2) 62 2)))] ∧ va_S A s.heap H locs ∧ lv_has ls 3 [(2, .int (nI k)), (0, .ref h0), (1, .int 1)]) 19 ?_ ?_ 0 (fun _ => 0) _ _ _ (by omega) ⟨by omega, hP, hD, hS, hl⟩
  · rintro k7 f8 H locs ls hkk7 ⟨hmk7, hP, hD, hS, hl⟩ ih
    have hP : va_P (dC, dI) vwCl [(h1, .inl (w0, 746, .inl f4)), (h2, .inl (w1, 19, .inr (.inl (fun _ => 0)))), (h3, .inl (w2, 38, .inr (.inl f8))), (h4, .inl (w3, 2, .inl (fun _ => 0))), (h0, .inr (11, [.int 0, .ref h5, .int 0, .int 0, .int 0, .int 0, .int 0, .int 0, .int 0, .int 0, .int 0, .int 0, .long 0, .int 0, .ref h6, .ref h7, .ref h1, .ref h8, .ref h9, .ref h2, .ref h10, .ref h3, .ref h4, .int 0, .int 0, .int 0, .int 0, .int (-1), .int (-1), .long 0, .long 0, .ref h11, .ref h12, .int 0, .int (-1), .int 0, .ref h13, .int 0, .ref h14, .ref h15, .int 0, .int 0, .ref h16, .int 0, .int 0, .int 0, .int 0])), (h6, .inl (w4, 373, .inl (upd (upd (fun _ => 0) 60 2) 62 2)))] H := hP
    have hD : va_D A [(h1, .inl (w0, 746, .inl f4)), (h2, .inl (w1, 19, .inr (.inl (fun _ => 0)))), (h3, .inl (w2, 38, .inr (.inl f8))), (h4, .inl (w3, 2, .inl (fun _ => 0))), (h0, .inr (11, [.int 0, .ref h5, .int 0, .int 0, .int 0, .int 0, .int 0, .int 0, .int 0, .int 0, .int 0, .int 0, .long 0, .int 0, .ref h6, .ref h7, .ref h1, .ref h8, .ref h9, .ref h2, .ref h10, .ref h3, .ref h4, .int 0, .int 0, .int 0, .int 0, .int (-1), .int (-1), .long 0, .long 0, .ref h11, .ref h12, .int 0, .int (-1), .int 0, .ref h13, .int 0, .ref h14, .ref h15, .int 0, .int 0, .ref h16, .int 0, .int 0, .int 0, .int 0])), (h6, .inl (w4, 373, .inl (upd (upd (fun _ => 0) 60 2) 62 2)))] := hD
    have hl : lv_has ls 3 [(2, .int (nI k7)), (0, .ref h0), (1, .int 1)] := hl
    refine lv_iload_n hx hb dX12_image_51 rfl (lv_at hl 0 rfl) ?_
    refine lv_bipush (v := 19) hx hb dX12_image_52 (by decide) ?_
    refine lv_icmp_ge (tgt := 80) hx hb dX12_image_54 (by decide) (fun c9 => absurd c9 (nI_ge (by omega) (by omega))) (fun _ => ?_)
    refine lv_aload_n hx hb dX12_image_57 rfl (lv_at hl 1 rfl) ?_
    refine va_get (D := (dC, dI)) (ci := 11) (v := .ref h3) (C := RX12) (T := TX12) (N := 47) hx hb hts ii_X12_image_X12 hown hK hP 4 rfl rfl 21 (by decide) (hts _ mm_X12_image_4) (fun _ h9 => h9) rfl dX12_image_58 ?_
    refine lv_bipush (v := 19) hx hb dX12_image_61 (by decide) ?_
    refine lv_iload_n hx hb dX12_image_63 rfl (lv_at hl 2 rfl) ?_
    refine lv_imul hx hb dX12_image_64 ?_
    refine zz_top (v := 19) (by decide) ?_
    refine lv_iload_n hx hb dX12_image_65 rfl (lv_at hl 0 rfl) ?_
    refine lv_iadd hx hb dX12_image_66 ?_
    refine zz_top (v := (nI (k7 + 19))) (zz_addl k7 19) ?_
    refine lv_aload_n hx hb dX12_image_67 rfl (lv_at hl 1 rfl) ?_
    refine va_get (D := (dC, dI)) (ci := 11) (v := .ref h2) (C := RX12) (T := TX12) (N := 47) hx hb hts ii_X12_image_X12 hown hK hP 4 rfl rfl 19 (by decide) (hts _ mm_X12_image_5) (fun _ h9 => h9) rfl dX12_image_68 ?_
    refine lv_iload_n hx hb dX12_image_71 rfl (lv_at hl 0 rfl) ?_
    refine va_lald hx hb hK hP 1 2 rfl rfl (i := (nI k7)) (vp_in_nI (by omega) (by decide)) dX12_image_72 ?_
    refine lv_topl (fun z9 ez9 => ?_)
    refine va_last hx hb hK hP hD hS 2 3 rfl rfl (i := (nI (k7 + 19))) (vp_in_nI (by omega) (by decide)) dX12_image_73 (fun H locs hP hD hS => ?_)
    have hP : va_P (dC, dI) vwCl [(h1, .inl (w0, 746, .inl f4)), (h2, .inl (w1, 19, .inr (.inl (fun _ => 0)))), (h3, .inl (w2, 38, .inr (.inl (vp_updL f8 (nI (k7 + 19)).toNatClampNeg z9)))), (h4, .inl (w3, 2, .inl (fun _ => 0))), (h0, .inr (11, [.int 0, .ref h5, .int 0, .int 0, .int 0, .int 0, .int 0, .int 0, .int 0, .int 0, .int 0, .int 0, .long 0, .int 0, .ref h6, .ref h7, .ref h1, .ref h8, .ref h9, .ref h2, .ref h10, .ref h3, .ref h4, .int 0, .int 0, .int 0, .int 0, .int (-1), .int (-1), .long 0, .long 0, .ref h11, .ref h12, .int 0, .int (-1), .int 0, .ref h13, .int 0, .ref h14, .ref h15, .int 0, .int 0, .ref h16, .int 0, .int 0, .int 0, .int 0])), (h6, .inl (w4, 373, .inl (upd (upd (fun _ => 0) 60 2) 62 2)))] H := hP
    have hD : va_D A [(h1, .inl (w0, 746, .inl f4)), (h2, .inl (w1, 19, .inr (.inl (fun _ => 0)))), (h3, .inl (w2, 38, .inr (.inl (vp_updL f8 (nI (k7 + 19)).toNatClampNeg z9)))), (h4, .inl (w3, 2, .inl (fun _ => 0))), (h0, .inr (11, [.int 0, .ref h5, .int 0, .int 0, .int 0, .int 0, .int 0, .int 0, .int 0, .int 0, .int 0, .int 0, .long 0, .int 0, .ref h6, .ref h7, .ref h1, .ref h8, .ref h9, .ref h2, .ref h10, .ref h3, .ref h4, .int 0, .int 0, .int 0, .int 0, .int (-1), .int (-1), .long 0, .long 0, .ref h11, .ref h12, .int 0, .int (-1), .int 0, .ref h13, .int 0, .ref h14, .ref h15, .int 0, .int 0, .ref h16, .int 0, .int 0, .int 0, .int 0])), (h6, .inl (w4, 373, .inl (upd (upd (fun _ => 0) 60 2) 62 2)))] := hD
    refine lv_iinc (v := (nI (k7 + 1))) (lv' := [(2, .int (nI (k7 + 1))), (0, .ref h0), (1, .int 1)]) hx hb dX12_image_74 hl (k := 0) rfl (zz_addr k7 1) (by decide) rfl (fun ls hl => ?_)
    refine lv_goto (tgt := 51) hx hb dX12_image_77 (by decide) ?_
    exact ih ((vp_updL f8 (nI (k7 + 19)).toNatClampNeg z9)) _ _ _ ⟨by omega, hP, hD, hS, lv_sub hl [0, 1, 2] rfl⟩
  rintro f8 H locs ls ⟨-, hP, hD, hS, hl⟩
  have hP : va_P (dC, dI) vwCl [(h1, .inl (w0, 746, .inl f4)), (h2, .inl (w1, 19, .inr (.inl (fun _ => 0)))), (h3, .inl (w2, 38, .inr (.inl f8))), (h4, .inl (w3, 2, .inl (fun _ => 0))), (h0, .inr (11, [.int 0, .ref h5, .int 0, .int 0, .int 0, .int 0, .int 0, .int 0, .int 0, .int 0, .int 0, .int 0, .long 0, .int 0, .ref h6, .ref h7, .ref h1, .ref h8, .ref h9, .ref h2, .ref h10, .ref h3, .ref h4, .int 0, .int 0, .int 0, .int 0, .int (-1), .int (-1), .long 0, .long 0, .ref h11, .ref h12, .int 0, .int (-1), .int 0, .ref h13, .int 0, .ref h14, .ref h15, .int 0, .int 0, .ref h16, .int 0, .int 0, .int 0, .int 0])), (h6, .inl (w4, 373, .inl (upd (upd (fun _ => 0) 60 2) 62 2)))] H := hP
  have hD : va_D A [(h1, .inl (w0, 746, .inl f4)), (h2, .inl (w1, 19, .inr (.inl (fun _ => 0)))), (h3, .inl (w2, 38, .inr (.inl f8))), (h4, .inl (w3, 2, .inl (fun _ => 0))), (h0, .inr (11, [.int 0, .ref h5, .int 0, .int 0, .int 0, .int 0, .int 0, .int 0, .int 0, .int 0, .int 0, .int 0, .long 0, .int 0, .ref h6, .ref h7, .ref h1, .ref h8, .ref h9, .ref h2, .ref h10, .ref h3, .ref h4, .int 0, .int 0, .int 0, .int 0, .int (-1), .int (-1), .long 0, .long 0, .ref h11, .ref h12, .int 0, .int (-1), .int 0, .ref h13, .int 0, .ref h14, .ref h15, .int 0, .int 0, .ref h16, .int 0, .int 0, .int 0, .int 0])), (h6, .inl (w4, 373, .inl (upd (upd (fun _ => 0) 60 2) 62 2)))] := hD
  have hl : lv_has ls 3 [(2, .int 19), (0, .ref h0), (1, .int 1)] := hl
  refine lv_iload_n hx hb dX12_image_51 rfl (lv_at hl 0 rfl) ?_
  refine lv_bipush (v := 19) hx hb dX12_image_52 (by decide) ?_
  refine lv_icmp_ge (tgt := 80) hx hb dX12_image_54 (by decide) (fun _ => ?_) (fun c10 => absurd (by decide) c10)
  refine lv_aload_n hx hb dX12_image_80 rfl (lv_at hl 1 rfl) ?_
  refine va_get (D := (dC, dI)) (ci := 11) (v := .ref h4) (C := RX12) (T := TX12) (N := 47) hx hb hts ii_X12_image_X12 hown hK hP 4 rfl rfl 22 (by decide) (hts _ mm_X12_image_6) (fun _ h9 => h9) rfl dX12_image_81 ?_
  refine lv_iload_n hx hb dX12_image_84 rfl (lv_at hl 2 rfl) ?_
  refine lv_iconst (v := 1) hx hb dX12_image_85 (by decide) ?_
  refine va_zast hx hb hK hP hD hS 3 4 rfl rfl (i := 1) (zz_in (by decide)) dX12_image_86 (fun H locs hP hD hS => ?_)
  have hP : va_P (dC, dI) vwCl [(h1, .inl (w0, 746, .inl f4)), (h2, .inl (w1, 19, .inr (.inl (fun _ => 0)))), (h3, .inl (w2, 38, .inr (.inl f8))), (h4, .inl (w3, 2, .inl (upd (fun _ => 0) 1 1))), (h0, .inr (11, [.int 0, .ref h5, .int 0, .int 0, .int 0, .int 0, .int 0, .int 0, .int 0, .int 0, .int 0, .int 0, .long 0, .int 0, .ref h6, .ref h7, .ref h1, .ref h8, .ref h9, .ref h2, .ref h10, .ref h3, .ref h4, .int 0, .int 0, .int 0, .int 0, .int (-1), .int (-1), .long 0, .long 0, .ref h11, .ref h12, .int 0, .int (-1), .int 0, .ref h13, .int 0, .ref h14, .ref h15, .int 0, .int 0, .ref h16, .int 0, .int 0, .int 0, .int 0])), (h6, .inl (w4, 373, .inl (upd (upd (fun _ => 0) 60 2) 62 2)))] H := hP
  have hD : va_D A [(h1, .inl (w0, 746, .inl f4)), (h2, .inl (w1, 19, .inr (.inl (fun _ => 0)))), (h3, .inl (w2, 38, .inr (.inl f8))), (h4, .inl (w3, 2, .inl (upd (fun _ => 0) 1 1))), (h0, .inr (11, [.int 0, .ref h5, .int 0, .int 0, .int 0, .int 0, .int 0, .int 0, .int 0, .int 0, .int 0, .int 0, .long 0, .int 0, .ref h6, .ref h7, .ref h1, .ref h8, .ref h9, .ref h2, .ref h10, .ref h3, .ref h4, .int 0, .int 0, .int 0, .int 0, .int (-1), .int (-1), .long 0, .long 0, .ref h11, .ref h12, .int 0, .int (-1), .int 0, .ref h13, .int 0, .ref h14, .ref h15, .int 0, .int 0, .ref h16, .int 0, .int 0, .int 0, .int 0])), (h6, .inl (w4, 373, .inl (upd (upd (fun _ => 0) 60 2) 62 2)))] := hD
  refine lv_iconst (v := 1) hx hb dX12_image_87 (by decide) ?_
  have hP9 := hP.sub (ws' := []) [] rfl
  have hD9 := hD.sub (ws' := []) [] (by decide) rfl
  have hK9 := hK.sub (tys' := []) [] rfl
  refine W.widen (k := 0) (n := 0) (Nat.le_of_ble_eq_true rfl) (Nat.le_of_ble_eq_true rfl) ?_
  exact W.zret (v := 1) hx hb hr rfl (fun t ht hW => ⟨⟨1, (), rfl, rfl, by rw [ht]; exact hP9, va_K.moved hW.alike hK9, hD9⟩, hS.F ht⟩) hS.2.2 dX12_image_88
set_option maxHeartbeats 4000000 in
set_option maxRecDepth 100000 in
theorem k_X12_isIn_12 (l : Launch) (dC : Nat → ClassId) (dI : Nat → Nat → Nat) (ad : Nat → Nat) (p0 : Int32) (sz : Nat) (e0_0 : p0 < 0) : Met l yX12_isIn wsX12_isIn ({ frames := 0, cells := 0, slots := 0, locals := 0 }) (va_Pc [.int p0, .int 0, .int 1] (CP (dC, dI) [] [] sz ad)) (va_Qi (fun (r : Int32) (_ : Unit) => r = 0) (fun (_ : Unit) (t : State) => CQ (dC, dI) [] [] (va_A [] sz) t) (va_A [] sz)) 0 0 (va_A [] sz) := by
  refine Met.ofW (cc := cX12_isIn) (maxL := 3) (ret := (some .boolean)) (by decide) rfl ?_
  intro p e s m args below meth c s₁ B hml hv
  obtain ⟨rfl, hsz, hP, hK, hD0, hE⟩ := hv
  have hx := B.exec
  have hb := B.bytes
  have hr := B.returns
  have hts := atoms_spec (ws := wsX12_isIn) B.pre
  have hown : s.vm.findClass RX12 = some m.cls := findClass_of_methodNamed B.named
  have hlocks := B.notSynchronized
  subst hsz
  have hD := hD0.self (sz := s.heap.size)
  generalize hAe : va_A [] s.heap.size = A at hD hE ⊢
  have hA : ∀ q : Nat, s.heap.size ≤ q → A q := fun q h => by rw [← hAe]; exact Or.inr h
  have hS : va_S A s.heap s.heap [] := va_S.rf
  have hl := lv_entry ([.int p0, .int 0, .int 1]) (n := 3) (Nat.le_of_ble_eq_true rfl)
  rw [lg_entry_eq]
  generalize (lg_sl ([.int p0, .int 0, .int 1]) ++ List.replicate (3 - (lg_sl ([.int p0, .int 0, .int 1])).length) Slot.unset).toArray = ls at hl ⊢
  have hl : lv_has ls 3 [(0, .int p0), (1, .int 0), (2, .int 1)] := hl
  refine lv_iload_n hx hb dX12_isIn_0 rfl (lv_at hl 0 rfl) ?_
  refine lv_iload_n hx hb dX12_isIn_1 rfl (lv_at hl 1 rfl) ?_
  refine lv_icmp_lt (tgt := 14) hx hb dX12_isIn_2 (by decide) (fun _ => ?_) (fun c1 => ?_)
  rotate_left
  · exfalso; clear hP hD hK hS hE; simp only [Int32.lt_iff_toInt_lt, Int32.le_iff_toInt_le, ← Int32.toInt_inj, Int32.reduceToInt] at e0_0 c1; omega
  refine lv_iconst (v := 0) hx hb dX12_isIn_14 (by decide) ?_
  have hP9 := hP.sub (ws' := []) [] rfl
  have hD9 := hD.sub (ws' := []) [] (by decide) rfl
  have hK9 := hK.sub (tys' := []) [] rfl
  refine W.widen (k := 0) (n := 0) (Nat.le_of_ble_eq_true rfl) (Nat.le_of_ble_eq_true rfl) ?_
  exact W.zret (v := 0) hx hb hr rfl (fun t ht hW => ⟨⟨0, (), rfl, rfl, by rw [ht]; exact hP9, va_K.moved hW.alike hK9, hD9⟩, hS.F ht⟩) hS.2.2 dX12_isIn_15
set_option maxHeartbeats 4000000 in
set_option maxRecDepth 100000 in
theorem k_X12_image_2 (l : Launch) (dC : Nat → ClassId) (dI : Nat → Nat → Nat) (ad : Nat → Nat) (h0 h1 h2 h3 h4 h5 h6 h7 h8 h9 h10 h11 h12 h13 h14 h15 h16 : Nat) (p0 : Int32) (sz : Nat) (e0_0 : p0 < 0) : Met l yX12_image wsX12_image ({ frames := 1, cells := 0, slots := 0, locals := 22 }) (va_Pc [.ref h0, .int p0] (CP (dC, dI) [(h0, .inr (11, [.int 0, .ref h1, .int 0, .int 0, .int 0, .int 0, .int 0, .int 0, .int 0, .int 0, .int 0, .int 0, .long 0, .int 0, .ref h2, .ref h3, .ref h4, .ref h5, .ref h6, .ref h7, .ref h8, .ref h9, .ref h10, .int 0, .int 0, .int 0, .int 0, .int (-1), .int (-1), .long 0, .long 0, .ref h11, .ref h12, .int 0, .int (-1), .int 0, .ref h13, .int 0, .ref h14, .ref h15, .int 0, .int 0, .ref h16, .int 0, .int 0, .int 0, .int 0]))] [] sz ad)) (va_Qi (fun (r : Int32) (_ : Unit) => r = 0) (fun (_ : Unit) (t : State) => CQ (dC, dI) [] [] (va_A [(h0, .inr (11, [.int 0, .ref h1, .int 0, .int 0, .int 0, .int 0, .int 0, .int 0, .int 0, .int 0, .int 0, .int 0, .long 0, .int 0, .ref h2, .ref h3, .ref h4, .ref h5, .ref h6, .ref h7, .ref h8, .ref h9, .ref h10, .int 0, .int 0, .int 0, .int 0, .int (-1), .int (-1), .long 0, .long 0, .ref h11, .ref h12, .int 0, .int (-1), .int 0, .ref h13, .int 0, .ref h14, .ref h15, .int 0, .int 0, .ref h16, .int 0, .int 0, .int 0, .int 0]))] sz) t) (va_A [(h0, .inr (11, [.int 0, .ref h1, .int 0, .int 0, .int 0, .int 0, .int 0, .int 0, .int 0, .int 0, .int 0, .int 0, .long 0, .int 0, .ref h2, .ref h3, .ref h4, .ref h5, .ref h6, .ref h7, .ref h8, .ref h9, .ref h10, .int 0, .int 0, .int 0, .int 0, .int (-1), .int (-1), .long 0, .long 0, .ref h11, .ref h12, .int 0, .int (-1), .int 0, .ref h13, .int 0, .ref h14, .ref h15, .int 0, .int 0, .ref h16, .int 0, .int 0, .int 0, .int 0]))] sz)) 0 0 (va_A [(h0, .inr (11, [.int 0, .ref h1, .int 0, .int 0, .int 0, .int 0, .int 0, .int 0, .int 0, .int 0, .int 0, .int 0, .long 0, .int 0, .ref h2, .ref h3, .ref h4, .ref h5, .ref h6, .ref h7, .ref h8, .ref h9, .ref h10, .int 0, .int 0, .int 0, .int 0, .int (-1), .int (-1), .long 0, .long 0, .ref h11, .ref h12, .int 0, .int (-1), .int 0, .ref h13, .int 0, .ref h14, .ref h15, .int 0, .int 0, .ref h16, .int 0, .int 0, .int 0, .int 0]))] sz) := by
  refine Met.ofW (cc := cX12_image) (maxL := 3) (ret := (some .boolean)) (by decide) rfl ?_
  intro p e s m args below meth c s₁ B hml hv
  obtain ⟨rfl, hsz, hP, hK, hD0, hE⟩ := hv
  have hx := B.exec
  have hb := B.bytes
  have hr := B.returns
  have hts := atoms_spec (ws := wsX12_image) B.pre
  have hown : s.vm.findClass RX12 = some m.cls := findClass_of_methodNamed B.named
  have hlocks := B.notSynchronized
  subst hsz
  have hD := hD0.self (sz := s.heap.size)
  generalize hAe : va_A [(h0, .inr (11, [.int 0, .ref h1, .int 0, .int 0, .int 0, .int 0, .int 0, .int 0, .int 0, .int 0, .int 0, .int 0, .long 0, .int 0, .ref h2, .ref h3, .ref h4, .ref h5, .ref h6, .ref h7, .ref h8, .ref h9, .ref h10, .int 0, .int 0, .int 0, .int 0, .int (-1), .int (-1), .long 0, .long 0, .ref h11, .ref h12, .int 0, .int (-1), .int 0, .ref h13, .int 0, .ref h14, .ref h15, .int 0, .int 0, .ref h16, .int 0, .int 0, .int 0, .int 0]))] s.heap.size = A at hD hE ⊢
  have hA : ∀ q : Nat, s.heap.size ≤ q → A q := fun q h => by rw [← hAe]; exact Or.inr h
  have hS : va_S A s.heap s.heap [] := va_S.rf
  have hl := lv_entry ([.ref h0, .int p0]) (n := 3) (Nat.le_of_ble_eq_true rfl)
  rw [lg_entry_eq]
  generalize (lg_sl ([.ref h0, .int p0]) ++ List.replicate (3 - (lg_sl ([.ref h0, .int p0])).length) Slot.unset).toArray = ls at hl ⊢
  have hl : lv_has ls 3 [(0, .ref h0), (1, .int p0)] := hl
  refine lv_aload_n hx hb dX12_image_0 rfl (lv_at hl 0 rfl) ?_
  refine lv_iconst (v := 0) hx hb dX12_image_1 (by decide) ?_
  refine va_put (D := (dC, dI)) (ci := 11) (v := .int 0) (ty := .int) (C := RX12) (T := TX12) (N := 47) hx hb hts ii_X12_image_X12 tyX12 tyX12_ok nmX12 hown hK hP hD hS 0 rfl rfl 0 (by decide) (hts _ mm_X12_image_1) (fun _ h9 => h9) rfl (by decide +kernel) rfl rfl (Nat.le_of_ble_eq_true rfl) dX12_image_2 (fun H locs hP hD hS => ?_)
  have hP : va_P (dC, dI) vwCl [(h0, .inr (11, [.int 0, .ref h1, .int 0, .int 0, .int 0, .int 0, .int 0, .int 0, .int 0, .int 0, .int 0, .int 0, .long 0, .int 0, .ref h2, .ref h3, .ref h4, .ref h5, .ref h6, .ref h7, .ref h8, .ref h9, .ref h10, .int 0, .int 0, .int 0, .int 0, .int (-1), .int (-1), .long 0, .long 0, .ref h11, .ref h12, .int 0, .int (-1), .int 0, .ref h13, .int 0, .ref h14, .ref h15, .int 0, .int 0, .ref h16, .int 0, .int 0, .int 0, .int 0]))] H := hP
  have hD : va_D A [(h0, .inr (11, [.int 0, .ref h1, .int 0, .int 0, .int 0, .int 0, .int 0, .int 0, .int 0, .int 0, .int 0, .int 0, .long 0, .int 0, .ref h2, .ref h3, .ref h4, .ref h5, .ref h6, .ref h7, .ref h8, .ref h9, .ref h10, .int 0, .int 0, .int 0, .int 0, .int (-1), .int (-1), .long 0, .long 0, .ref h11, .ref h12, .int 0, .int (-1), .int 0, .ref h13, .int 0, .ref h14, .ref h15, .int 0, .int 0, .ref h16, .int 0, .int 0, .int 0, .int 0]))] := hD
  refine lv_iload_n hx hb dX12_image_5 rfl (lv_at hl 1 rfl) ?_
  refine lv_iconst (v := 0) hx hb dX12_image_6 (by decide) ?_
  refine lv_iconst (v := 1) hx hb dX12_image_7 (by decide) ?_
  have hPc := hP.sub (ws' := []) [] rfl
  have hDc := hD.sub (ws' := []) [] (by decide) rfl
  have hKc := hK.sub (tys' := []) [] rfl
  have hFc := va_free (wc := []) hD hS hA [] rfl
  refine va_calli (va_runS (As := [.int p0, .int 0, .int 1]) (rest := []) ⟨hx, hb, hml, hown, hts⟩ (k_X12_isIn_12 l dC dI ad p0 H.size (by clear hP hD hK hS hE hPc hDc hKc hFc; simp only [Int32.lt_iff_toInt_lt, Int32.le_iff_toInt_le, ← Int32.toInt_inj, Int32.reduceToInt] at e0_0 ⊢; omega)) (cwS 3 hts gX12_image_X12_isIn rfl rfl rfl (by decide +kernel) ⟨Nat.le_of_ble_eq_true rfl, Nat.le_of_ble_eq_true rfl⟩) ⟨fun a U g mk q => ⟨q.1, CP.blind q.2⟩, fun U hU hW => ⟨rfl, CP.of hPc hKc hDc hE hS hFc hU hW⟩⟩ rfl rfl hl.1 rfl (lv_room (Nat.le_of_ble_eq_true rfl)) dX12_image_8 ⟨Nat.le_of_ble_eq_true rfl, Nat.le_of_ble_eq_true rfl⟩) hS (fun q _ h => hFc q h) hFc (fun r1 u t H1 locs ht hvm hw hB hz1 hk1 hS => ?_)
  obtain ⟨hP1, hK1, hD1⟩ := hB
  rw [ht] at hP1
  obtain ⟨hP, hD⟩ := va_join (wr := [(h0, .inr (11, [.int 0, .ref h1, .int 0, .int 0, .int 0, .int 0, .int 0, .int 0, .int 0, .int 0, .int 0, .int 0, .long 0, .int 0, .ref h2, .ref h3, .ref h4, .ref h5, .ref h6, .ref h7, .ref h8, .ref h9, .ref h10, .int 0, .int 0, .int 0, .int 0, .int (-1), .int (-1), .long 0, .long 0, .ref h11, .ref h12, .int 0, .int (-1), .int 0, .ref h13, .int 0, .ref h14, .ref h15, .int 0, .int 0, .ref h16, .int 0, .int 0, .int 0, .int 0]))]) (w1 := []) hP hD [] [0] rfl rfl (by decide) (by decide) hk1 hFc hP1 hD1
  generalize H1 = H at hP hS ⊢
  clear hPc hDc hKc hFc hP1 hD1 hK1 hk1 hz1
  have hP : va_P (dC, dI) vwCl [(h0, .inr (11, [.int 0, .ref h1, .int 0, .int 0, .int 0, .int 0, .int 0, .int 0, .int 0, .int 0, .int 0, .int 0, .long 0, .int 0, .ref h2, .ref h3, .ref h4, .ref h5, .ref h6, .ref h7, .ref h8, .ref h9, .ref h10, .int 0, .int 0, .int 0, .int 0, .int (-1), .int (-1), .long 0, .long 0, .ref h11, .ref h12, .int 0, .int (-1), .int 0, .ref h13, .int 0, .ref h14, .ref h15, .int 0, .int 0, .ref h16, .int 0, .int 0, .int 0, .int 0]))] H := hP
  have hD : va_D A [(h0, .inr (11, [.int 0, .ref h1, .int 0, .int 0, .int 0, .int 0, .int 0, .int 0, .int 0, .int 0, .int 0, .int 0, .long 0, .int 0, .ref h2, .ref h3, .ref h4, .ref h5, .ref h6, .ref h7, .ref h8, .ref h9, .ref h10, .int 0, .int 0, .int 0, .int 0, .int (-1), .int (-1), .long 0, .long 0, .ref h11, .ref h12, .int 0, .int (-1), .int 0, .ref h13, .int 0, .ref h14, .ref h15, .int 0, .int 0, .ref h16, .int 0, .int 0, .int 0, .int 0]))] := hD
  refine zz_top (v := 0) hw ?_
  refine lv_if_ne (tgt := 16) hx hb dX12_image_11 (by decide) (fun c2 => absurd c2 (by decide)) (fun _ => ?_)
  refine lv_iconst (v := 0) hx hb dX12_image_14 (by decide) ?_
  have hP9 := hP.sub (ws' := []) [] rfl
  have hD9 := hD.sub (ws' := []) [] (by decide) rfl
  have hK9 := hK.sub (tys' := []) [] rfl
  refine W.widen (k := 0) (n := 0) (Nat.le_of_ble_eq_true rfl) (Nat.le_of_ble_eq_true rfl) ?_
  exact W.zret (v := 0) hx hb hr rfl (fun t ht hW => ⟨⟨0, (), rfl, rfl, by rw [ht]; exact hP9, va_K.moved hW.alike hK9, hD9⟩, hS.F ht⟩) hS.2.2 dX12_image_15
set_option maxHeartbeats 4000000 in
set_option maxRecDepth 100000 in
theorem k_X12_isIn_13 (l : Launch) (dC : Nat → ClassId) (dI : Nat → Nat → Nat) (ad : Nat → Nat) (p0 : Int32) (sz : Nat) (e0_0 : 1 < p0) : Met l yX12_isIn wsX12_isIn ({ frames := 0, cells := 0, slots := 0, locals := 0 }) (va_Pc [.int p0, .int 0, .int 1] (CP (dC, dI) [] [] sz ad)) (va_Qi (fun (r : Int32) (_ : Unit) => r = 0) (fun (_ : Unit) (t : State) => CQ (dC, dI) [] [] (va_A [] sz) t) (va_A [] sz)) 0 0 (va_A [] sz) := by
  refine Met.ofW (cc := cX12_isIn) (maxL := 3) (ret := (some .boolean)) (by decide) rfl ?_
  intro p e s m args below meth c s₁ B hml hv
  obtain ⟨rfl, hsz, hP, hK, hD0, hE⟩ := hv
  have hx := B.exec
  have hb := B.bytes
  have hr := B.returns
  have hts := atoms_spec (ws := wsX12_isIn) B.pre
  have hown : s.vm.findClass RX12 = some m.cls := findClass_of_methodNamed B.named
  have hlocks := B.notSynchronized
  subst hsz
  have hD := hD0.self (sz := s.heap.size)
  generalize hAe : va_A [] s.heap.size = A at hD hE ⊢
  have hA : ∀ q : Nat, s.heap.size ≤ q → A q := fun q h => by rw [← hAe]; exact Or.inr h
  have hS : va_S A s.heap s.heap [] := va_S.rf
  have hl := lv_entry ([.int p0, .int 0, .int 1]) (n := 3) (Nat.le_of_ble_eq_true rfl)
  rw [lg_entry_eq]
  generalize (lg_sl ([.int p0, .int 0, .int 1]) ++ List.replicate (3 - (lg_sl ([.int p0, .int 0, .int 1])).length) Slot.unset).toArray = ls at hl ⊢
  have hl : lv_has ls 3 [(0, .int p0), (1, .int 0), (2, .int 1)] := hl
  refine lv_iload_n hx hb dX12_isIn_0 rfl (lv_at hl 0 rfl) ?_
  refine lv_iload_n hx hb dX12_isIn_1 rfl (lv_at hl 1 rfl) ?_
  refine lv_icmp_lt (tgt := 14) hx hb dX12_isIn_2 (by decide) (fun c1 => ?_) (fun _ => ?_)
  · exfalso; clear hP hD hK hS hE; simp only [Int32.lt_iff_toInt_lt, Int32.le_iff_toInt_le, ← Int32.toInt_inj, Int32.reduceToInt] at e0_0 c1; omega
  refine lv_iload_n hx hb dX12_isIn_5 rfl (lv_at hl 0 rfl) ?_
  refine lv_iload_n hx hb dX12_isIn_6 rfl (lv_at hl 2 rfl) ?_
  refine lv_icmp_gt (tgt := 14) hx hb dX12_isIn_7 (by decide) (fun _ => ?_) (fun c2 => ?_)
  rotate_left
  · exfalso; clear hP hD hK hS hE; simp only [Int32.lt_iff_toInt_lt, Int32.le_iff_toInt_le, ← Int32.toInt_inj, Int32.reduceToInt] at e0_0 c2; omega
  refine lv_iconst (v := 0) hx hb dX12_isIn_14 (by decide) ?_
  have hP9 := hP.sub (ws' := []) [] rfl
  have hD9 := hD.sub (ws' := []) [] (by decide) rfl
  have hK9 := hK.sub (tys' := []) [] rfl
  refine W.widen (k := 0) (n := 0) (Nat.le_of_ble_eq_true rfl) (Nat.le_of_ble_eq_true rfl) ?_
  exact W.zret (v := 0) hx hb hr rfl (fun t ht hW => ⟨⟨0, (), rfl, rfl, by rw [ht]; exact hP9, va_K.moved hW.alike hK9, hD9⟩, hS.F ht⟩) hS.2.2 dX12_isIn_15
set_option maxHeartbeats 4000000 in
set_option maxRecDepth 100000 in
theorem k_X12_image_3 (l : Launch) (dC : Nat → ClassId) (dI : Nat → Nat → Nat) (ad : Nat → Nat) (h0 h1 h2 h3 h4 h5 h6 h7 h8 h9 h10 h11 h12 h13 h14 h15 h16 : Nat) (p0 : Int32) (sz : Nat) (e0_0 : 1 < p0) : Met l yX12_image wsX12_image ({ frames := 1, cells := 0, slots := 0, locals := 22 }) (va_Pc [.ref h0, .int p0] (CP (dC, dI) [(h0, .inr (11, [.int 0, .ref h1, .int 0, .int 0, .int 0, .int 0, .int 0, .int 0, .int 0, .int 0, .int 0, .int 0, .long 0, .int 0, .ref h2, .ref h3, .ref h4, .ref h5, .ref h6, .ref h7, .ref h8, .ref h9, .ref h10, .int 0, .int 0, .int 0, .int 0, .int (-1), .int (-1), .long 0, .long 0, .ref h11, .ref h12, .int 0, .int (-1), .int 0, .ref h13, .int 0, .ref h14, .ref h15, .int 0, .int 0, .ref h16, .int 0, .int 0, .int 0, .int 0]))] [] sz ad)) (va_Qi (fun (r : Int32) (_ : Unit) => r = 0) (fun (_ : Unit) (t : State) => CQ (dC, dI) [] [] (va_A [(h0, .inr (11, [.int 0, .ref h1, .int 0, .int 0, .int 0, .int 0, .int 0, .int 0, .int 0, .int 0, .int 0, .int 0, .long 0, .int 0, .ref h2, .ref h3, .ref h4, .ref h5, .ref h6, .ref h7, .ref h8, .ref h9, .ref h10, .int 0, .int 0, .int 0, .int 0, .int (-1), .int (-1), .long 0, .long 0, .ref h11, .ref h12, .int 0, .int (-1), .int 0, .ref h13, .int 0, .ref h14, .ref h15, .int 0, .int 0, .ref h16, .int 0, .int 0, .int 0, .int 0]))] sz) t) (va_A [(h0, .inr (11, [.int 0, .ref h1, .int 0, .int 0, .int 0, .int 0, .int 0, .int 0, .int 0, .int 0, .int 0, .int 0, .long 0, .int 0, .ref h2, .ref h3, .ref h4, .ref h5, .ref h6, .ref h7, .ref h8, .ref h9, .ref h10, .int 0, .int 0, .int 0, .int 0, .int (-1), .int (-1), .long 0, .long 0, .ref h11, .ref h12, .int 0, .int (-1), .int 0, .ref h13, .int 0, .ref h14, .ref h15, .int 0, .int 0, .ref h16, .int 0, .int 0, .int 0, .int 0]))] sz)) 0 0 (va_A [(h0, .inr (11, [.int 0, .ref h1, .int 0, .int 0, .int 0, .int 0, .int 0, .int 0, .int 0, .int 0, .int 0, .int 0, .long 0, .int 0, .ref h2, .ref h3, .ref h4, .ref h5, .ref h6, .ref h7, .ref h8, .ref h9, .ref h10, .int 0, .int 0, .int 0, .int 0, .int (-1), .int (-1), .long 0, .long 0, .ref h11, .ref h12, .int 0, .int (-1), .int 0, .ref h13, .int 0, .ref h14, .ref h15, .int 0, .int 0, .ref h16, .int 0, .int 0, .int 0, .int 0]))] sz) := by
  refine Met.ofW (cc := cX12_image) (maxL := 3) (ret := (some .boolean)) (by decide) rfl ?_
  intro p e s m args below meth c s₁ B hml hv
  obtain ⟨rfl, hsz, hP, hK, hD0, hE⟩ := hv
  have hx := B.exec
  have hb := B.bytes
  have hr := B.returns
  have hts := atoms_spec (ws := wsX12_image) B.pre
  have hown : s.vm.findClass RX12 = some m.cls := findClass_of_methodNamed B.named
  have hlocks := B.notSynchronized
  subst hsz
  have hD := hD0.self (sz := s.heap.size)
  generalize hAe : va_A [(h0, .inr (11, [.int 0, .ref h1, .int 0, .int 0, .int 0, .int 0, .int 0, .int 0, .int 0, .int 0, .int 0, .int 0, .long 0, .int 0, .ref h2, .ref h3, .ref h4, .ref h5, .ref h6, .ref h7, .ref h8, .ref h9, .ref h10, .int 0, .int 0, .int 0, .int 0, .int (-1), .int (-1), .long 0, .long 0, .ref h11, .ref h12, .int 0, .int (-1), .int 0, .ref h13, .int 0, .ref h14, .ref h15, .int 0, .int 0, .ref h16, .int 0, .int 0, .int 0, .int 0]))] s.heap.size = A at hD hE ⊢
  have hA : ∀ q : Nat, s.heap.size ≤ q → A q := fun q h => by rw [← hAe]; exact Or.inr h
  have hS : va_S A s.heap s.heap [] := va_S.rf
  have hl := lv_entry ([.ref h0, .int p0]) (n := 3) (Nat.le_of_ble_eq_true rfl)
  rw [lg_entry_eq]
  generalize (lg_sl ([.ref h0, .int p0]) ++ List.replicate (3 - (lg_sl ([.ref h0, .int p0])).length) Slot.unset).toArray = ls at hl ⊢
  have hl : lv_has ls 3 [(0, .ref h0), (1, .int p0)] := hl
  refine lv_aload_n hx hb dX12_image_0 rfl (lv_at hl 0 rfl) ?_
  refine lv_iconst (v := 0) hx hb dX12_image_1 (by decide) ?_
  refine va_put (D := (dC, dI)) (ci := 11) (v := .int 0) (ty := .int) (C := RX12) (T := TX12) (N := 47) hx hb hts ii_X12_image_X12 tyX12 tyX12_ok nmX12 hown hK hP hD hS 0 rfl rfl 0 (by decide) (hts _ mm_X12_image_1) (fun _ h9 => h9) rfl (by decide +kernel) rfl rfl (Nat.le_of_ble_eq_true rfl) dX12_image_2 (fun H locs hP hD hS => ?_)
  have hP : va_P (dC, dI) vwCl [(h0, .inr (11, [.int 0, .ref h1, .int 0, .int 0, .int 0, .int 0, .int 0, .int 0, .int 0, .int 0, .int 0, .int 0, .long 0, .int 0, .ref h2, .ref h3, .ref h4, .ref h5, .ref h6, .ref h7, .ref h8, .ref h9, .ref h10, .int 0, .int 0, .int 0, .int 0, .int (-1), .int (-1), .long 0, .long 0, .ref h11, .ref h12, .int 0, .int (-1), .int 0, .ref h13, .int 0, .ref h14, .ref h15, .int 0, .int 0, .ref h16, .int 0, .int 0, .int 0, .int 0]))] H := hP
  have hD : va_D A [(h0, .inr (11, [.int 0, .ref h1, .int 0, .int 0, .int 0, .int 0, .int 0, .int 0, .int 0, .int 0, .int 0, .int 0, .long 0, .int 0, .ref h2, .ref h3, .ref h4, .ref h5, .ref h6, .ref h7, .ref h8, .ref h9, .ref h10, .int 0, .int 0, .int 0, .int 0, .int (-1), .int (-1), .long 0, .long 0, .ref h11, .ref h12, .int 0, .int (-1), .int 0, .ref h13, .int 0, .ref h14, .ref h15, .int 0, .int 0, .ref h16, .int 0, .int 0, .int 0, .int 0]))] := hD
  refine lv_iload_n hx hb dX12_image_5 rfl (lv_at hl 1 rfl) ?_
  refine lv_iconst (v := 0) hx hb dX12_image_6 (by decide) ?_
  refine lv_iconst (v := 1) hx hb dX12_image_7 (by decide) ?_
  have hPc := hP.sub (ws' := []) [] rfl
  have hDc := hD.sub (ws' := []) [] (by decide) rfl
  have hKc := hK.sub (tys' := []) [] rfl
  have hFc := va_free (wc := []) hD hS hA [] rfl
  refine va_calli (va_runS (As := [.int p0, .int 0, .int 1]) (rest := []) ⟨hx, hb, hml, hown, hts⟩ (k_X12_isIn_13 l dC dI ad p0 H.size (by clear hP hD hK hS hE hPc hDc hKc hFc; simp only [Int32.lt_iff_toInt_lt, Int32.le_iff_toInt_le, ← Int32.toInt_inj, Int32.reduceToInt] at e0_0 ⊢; omega)) (cwS 3 hts gX12_image_X12_isIn rfl rfl rfl (by decide +kernel) ⟨Nat.le_of_ble_eq_true rfl, Nat.le_of_ble_eq_true rfl⟩) ⟨fun a U g mk q => ⟨q.1, CP.blind q.2⟩, fun U hU hW => ⟨rfl, CP.of hPc hKc hDc hE hS hFc hU hW⟩⟩ rfl rfl hl.1 rfl (lv_room (Nat.le_of_ble_eq_true rfl)) dX12_image_8 ⟨Nat.le_of_ble_eq_true rfl, Nat.le_of_ble_eq_true rfl⟩) hS (fun q _ h => hFc q h) hFc (fun r1 u t H1 locs ht hvm hw hB hz1 hk1 hS => ?_)
  obtain ⟨hP1, hK1, hD1⟩ := hB
  rw [ht] at hP1
  obtain ⟨hP, hD⟩ := va_join (wr := [(h0, .inr (11, [.int 0, .ref h1, .int 0, .int 0, .int 0, .int 0, .int 0, .int 0, .int 0, .int 0, .int 0, .int 0, .long 0, .int 0, .ref h2, .ref h3, .ref h4, .ref h5, .ref h6, .ref h7, .ref h8, .ref h9, .ref h10, .int 0, .int 0, .int 0, .int 0, .int (-1), .int (-1), .long 0, .long 0, .ref h11, .ref h12, .int 0, .int (-1), .int 0, .ref h13, .int 0, .ref h14, .ref h15, .int 0, .int 0, .ref h16, .int 0, .int 0, .int 0, .int 0]))]) (w1 := []) hP hD [] [0] rfl rfl (by decide) (by decide) hk1 hFc hP1 hD1
  generalize H1 = H at hP hS ⊢
  clear hPc hDc hKc hFc hP1 hD1 hK1 hk1 hz1
  have hP : va_P (dC, dI) vwCl [(h0, .inr (11, [.int 0, .ref h1, .int 0, .int 0, .int 0, .int 0, .int 0, .int 0, .int 0, .int 0, .int 0, .int 0, .long 0, .int 0, .ref h2, .ref h3, .ref h4, .ref h5, .ref h6, .ref h7, .ref h8, .ref h9, .ref h10, .int 0, .int 0, .int 0, .int 0, .int (-1), .int (-1), .long 0, .long 0, .ref h11, .ref h12, .int 0, .int (-1), .int 0, .ref h13, .int 0, .ref h14, .ref h15, .int 0, .int 0, .ref h16, .int 0, .int 0, .int 0, .int 0]))] H := hP
  have hD : va_D A [(h0, .inr (11, [.int 0, .ref h1, .int 0, .int 0, .int 0, .int 0, .int 0, .int 0, .int 0, .int 0, .int 0, .int 0, .long 0, .int 0, .ref h2, .ref h3, .ref h4, .ref h5, .ref h6, .ref h7, .ref h8, .ref h9, .ref h10, .int 0, .int 0, .int 0, .int 0, .int (-1), .int (-1), .long 0, .long 0, .ref h11, .ref h12, .int 0, .int (-1), .int 0, .ref h13, .int 0, .ref h14, .ref h15, .int 0, .int 0, .ref h16, .int 0, .int 0, .int 0, .int 0]))] := hD
  refine zz_top (v := 0) hw ?_
  refine lv_if_ne (tgt := 16) hx hb dX12_image_11 (by decide) (fun c2 => absurd c2 (by decide)) (fun _ => ?_)
  refine lv_iconst (v := 0) hx hb dX12_image_14 (by decide) ?_
  have hP9 := hP.sub (ws' := []) [] rfl
  have hD9 := hD.sub (ws' := []) [] (by decide) rfl
  have hK9 := hK.sub (tys' := []) [] rfl
  refine W.widen (k := 0) (n := 0) (Nat.le_of_ble_eq_true rfl) (Nat.le_of_ble_eq_true rfl) ?_
  exact W.zret (v := 0) hx hb hr rfl (fun t ht hW => ⟨⟨0, (), rfl, rfl, by rw [ht]; exact hP9, va_K.moved hW.alike hK9, hD9⟩, hS.F ht⟩) hS.2.2 dX12_image_15
set_option maxHeartbeats 4000000 in
set_option maxRecDepth 100000 in
theorem k_X12_restore (l : Launch) (dC : Nat → ClassId) (dI : Nat → Nat → Nat) (ad : Nat → Nat) (h0 h1 h2 h3 h4 h5 h6 h7 h8 h9 h10 h11 h12 h13 h14 h15 h16 : Nat) (w0 : ClassId) (sz : Nat) : Met l yX12_restore wsX12_restore ({ frames := 1, cells := 0, slots := 0, locals := 22 }) (va_Pc [.ref h0, .int 0] (CP (dC, dI) [(h1, .inl (w0, 2, .inl (fun _ => 0))), (h0, .inr (11, [.int 0, .ref h2, .int 0, .int 0, .int 0, .int 0, .int 0, .int 0, .int 0, .int 0, .int 0, .int 0, .long 0, .int 0, .ref h3, .ref h4, .ref h5, .ref h6, .ref h7, .ref h8, .ref h9, .ref h10, .ref h1, .int 0, .int 0, .int 0, .int 0, .int (-1), .int (-1), .long 0, .long 0, .ref h11, .ref h12, .int 0, .int (-1), .int 0, .ref h13, .int 0, .ref h14, .ref h15, .int 0, .int 0, .ref h16, .int 0, .int 0, .int 0, .int 0]))] [(w0, .boolean)] sz ad)) (va_Qi (fun (r : Int32) (_ : Unit) => r = 0) (fun (_ : Unit) (t : State) => CQ (dC, dI) [] [] (va_A [(h1, .inl (w0, 2, .inl (fun _ => 0))), (h0, .inr (11, [.int 0, .ref h2, .int 0, .int 0, .int 0, .int 0, .int 0, .int 0, .int 0, .int 0, .int 0, .int 0, .long 0, .int 0, .ref h3, .ref h4, .ref h5, .ref h6, .ref h7, .ref h8, .ref h9, .ref h10, .ref h1, .int 0, .int 0, .int 0, .int 0, .int (-1), .int (-1), .long 0, .long 0, .ref h11, .ref h12, .int 0, .int (-1), .int 0, .ref h13, .int 0, .ref h14, .ref h15, .int 0, .int 0, .ref h16, .int 0, .int 0, .int 0, .int 0]))] sz) t) (va_A [(h1, .inl (w0, 2, .inl (fun _ => 0))), (h0, .inr (11, [.int 0, .ref h2, .int 0, .int 0, .int 0, .int 0, .int 0, .int 0, .int 0, .int 0, .int 0, .int 0, .long 0, .int 0, .ref h3, .ref h4, .ref h5, .ref h6, .ref h7, .ref h8, .ref h9, .ref h10, .ref h1, .int 0, .int 0, .int 0, .int 0, .int (-1), .int (-1), .long 0, .long 0, .ref h11, .ref h12, .int 0, .int (-1), .int 0, .ref h13, .int 0, .ref h14, .ref h15, .int 0, .int 0, .ref h16, .int 0, .int 0, .int 0, .int 0]))] sz)) 0 0 (va_A [(h1, .inl (w0, 2, .inl (fun _ => 0))), (h0, .inr (11, [.int 0, .ref h2, .int 0, .int 0, .int 0, .int 0, .int 0, .int 0, .int 0, .int 0, .int 0, .int 0, .long 0, .int 0, .ref h3, .ref h4, .ref h5, .ref h6, .ref h7, .ref h8, .ref h9, .ref h10, .ref h1, .int 0, .int 0, .int 0, .int 0, .int (-1), .int (-1), .long 0, .long 0, .ref h11, .ref h12, .int 0, .int (-1), .int 0, .ref h13, .int 0, .ref h14, .ref h15, .int 0, .int 0, .ref h16, .int 0, .int 0, .int 0, .int 0]))] sz) := by
  refine Met.ofW (cc := cX12_restore) (maxL := 3) (ret := (some .boolean)) (by decide) rfl ?_
  intro p e s m args below meth c s₁ B hml hv
  obtain ⟨rfl, hsz, hP, hK, hD0, hE⟩ := hv
  have hx := B.exec
  have hb := B.bytes
  have hr := B.returns
  have hts := atoms_spec (ws := wsX12_restore) B.pre
  have hown : s.vm.findClass RX12 = some m.cls := findClass_of_methodNamed B.named
  have hlocks := B.notSynchronized
  subst hsz
  have hD := hD0.self (sz := s.heap.size)
  generalize hAe : va_A [(h1, .inl (w0, 2, .inl (fun _ => 0))), (h0, .inr (11, [.int 0, .ref h2, .int 0, .int 0, .int 0, .int 0, .int 0, .int 0, .int 0, .int 0, .int 0, .int 0, .long 0, .int 0, .ref h3, .ref h4, .ref h5, .ref h6, .ref h7, .ref h8, .ref h9, .ref h10, .ref h1, .int 0, .int 0, .int 0, .int 0, .int (-1), .int (-1), .long 0, .long 0, .ref h11, .ref h12, .int 0, .int (-1), .int 0, .ref h13, .int 0, .ref h14, .ref h15, .int 0, .int 0, .ref h16, .int 0, .int 0, .int 0, .int 0]))] s.heap.size = A at hD hE ⊢
  have hA : ∀ q : Nat, s.heap.size ≤ q → A q := fun q h => by rw [← hAe]; exact Or.inr h
  have hS : va_S A s.heap s.heap [] := va_S.rf
  have hl := lv_entry ([.ref h0, .int 0]) (n := 3) (Nat.le_of_ble_eq_true rfl)
  rw [lg_entry_eq]
  generalize (lg_sl ([.ref h0, .int 0]) ++ List.replicate (3 - (lg_sl ([.ref h0, .int 0])).length) Slot.unset).toArray = ls at hl ⊢
  have hl : lv_has ls 3 [(0, .ref h0), (1, .int 0)] := hl
  refine lv_aload_n hx hb dX12_restore_0 rfl (lv_at hl 0 rfl) ?_
  refine lv_iconst (v := 0) hx hb dX12_restore_1 (by decide) ?_
  refine va_put (D := (dC, dI)) (ci := 11) (v := .int 0) (ty := .int) (C := RX12) (T := TX12) (N := 47) hx hb hts ii_X12_restore_X12 tyX12 tyX12_ok nmX12 hown hK hP hD hS 1 rfl rfl 0 (by decide) (hts _ mm_X12_restore_1) (fun _ h9 => h9) rfl (by decide +kernel) rfl rfl (Nat.le_of_ble_eq_true rfl) dX12_restore_2 (fun H locs hP hD hS => ?_)
  have hP : va_P (dC, dI) vwCl [(h1, .inl (w0, 2, .inl (fun _ => 0))), (h0, .inr (11, [.int 0, .ref h2, .int 0, .int 0, .int 0, .int 0, .int 0, .int 0, .int 0, .int 0, .int 0, .int 0, .long 0, .int 0, .ref h3, .ref h4, .ref h5, .ref h6, .ref h7, .ref h8, .ref h9, .ref h10, .ref h1, .int 0, .int 0, .int 0, .int 0, .int (-1), .int (-1), .long 0, .long 0, .ref h11, .ref h12, .int 0, .int (-1), .int 0, .ref h13, .int 0, .ref h14, .ref h15, .int 0, .int 0, .ref h16, .int 0, .int 0, .int 0, .int 0]))] H := hP
  have hD : va_D A [(h1, .inl (w0, 2, .inl (fun _ => 0))), (h0, .inr (11, [.int 0, .ref h2, .int 0, .int 0, .int 0, .int 0, .int 0, .int 0, .int 0, .int 0, .int 0, .int 0, .long 0, .int 0, .ref h3, .ref h4, .ref h5, .ref h6, .ref h7, .ref h8, .ref h9, .ref h10, .ref h1, .int 0, .int 0, .int 0, .int 0, .int (-1), .int (-1), .long 0, .long 0, .ref h11, .ref h12, .int 0, .int (-1), .int 0, .ref h13, .int 0, .ref h14, .ref h15, .int 0, .int 0, .ref h16, .int 0, .int 0, .int 0, .int 0]))] := hD
  refine lv_iload_n hx hb dX12_restore_5 rfl (lv_at hl 1 rfl) ?_
  refine lv_iconst (v := 0) hx hb dX12_restore_6 (by decide) ?_
  refine lv_iconst (v := 1) hx hb dX12_restore_7 (by decide) ?_
  have hPc := hP.sub (ws' := []) [] rfl
  have hDc := hD.sub (ws' := []) [] (by decide) rfl
  have hKc := hK.sub (tys' := []) [] rfl
  have hFc := va_free (wc := []) hD hS hA [] rfl
  refine va_calli (va_runS (As := [.int 0, .int 0, .int 1]) (rest := []) ⟨hx, hb, hml, hown, hts⟩ (k_X12_isIn_9 l dC dI ad H.size) (cwS 3 hts gX12_restore_X12_isIn rfl rfl rfl (by decide +kernel) ⟨Nat.le_of_ble_eq_true rfl, Nat.le_of_ble_eq_true rfl⟩) ⟨fun a U g mk q => ⟨q.1, CP.blind q.2⟩, fun U hU hW => ⟨rfl, CP.of hPc hKc hDc hE hS hFc hU hW⟩⟩ rfl rfl hl.1 rfl (lv_room (Nat.le_of_ble_eq_true rfl)) dX12_restore_8 ⟨Nat.le_of_ble_eq_true rfl, Nat.le_of_ble_eq_true rfl⟩) hS (fun q _ h => hFc q h) hFc (fun r1 u t H1 locs ht hvm hw hB hz1 hk1 hS => ?_)
  obtain ⟨hP1, hK1, hD1⟩ := hB
  rw [ht] at hP1
  obtain ⟨hP, hD⟩ := va_join (wr := [(h1, .inl (w0, 2, .inl (fun _ => 0))), (h0, .inr (11, [.int 0, .ref h2, .int 0, .int 0, .int 0, .int 0, .int 0, .int 0, .int 0, .int 0, .int 0, .int 0, .long 0, .int 0, .ref h3, .ref h4, .ref h5, .ref h6, .ref h7, .ref h8, .ref h9, .ref h10, .ref h1, .int 0, .int 0, .int 0, .int 0, .int (-1), .int (-1), .long 0, .long 0, .ref h11, .ref h12, .int 0, .int (-1), .int 0, .ref h13, .int 0, .ref h14, .ref h15, .int 0, .int 0, .ref h16, .int 0, .int 0, .int 0, .int 0]))]) (w1 := []) hP hD [] [0, 1] rfl rfl (by decide) (by decide) hk1 hFc hP1 hD1
  generalize H1 = H at hP hS ⊢
  clear hPc hDc hKc hFc hP1 hD1 hK1 hk1 hz1
  have hP : va_P (dC, dI) vwCl [(h1, .inl (w0, 2, .inl (fun _ => 0))), (h0, .inr (11, [.int 0, .ref h2, .int 0, .int 0, .int 0, .int 0, .int 0, .int 0, .int 0, .int 0, .int 0, .int 0, .long 0, .int 0, .ref h3, .ref h4, .ref h5, .ref h6, .ref h7, .ref h8, .ref h9, .ref h10, .ref h1, .int 0, .int 0, .int 0, .int 0, .int (-1), .int (-1), .long 0, .long 0, .ref h11, .ref h12, .int 0, .int (-1), .int 0, .ref h13, .int 0, .ref h14, .ref h15, .int 0, .int 0, .ref h16, .int 0, .int 0, .int 0, .int 0]))] H := hP
  have hD : va_D A [(h1, .inl (w0, 2, .inl (fun _ => 0))), (h0, .inr (11, [.int 0, .ref h2, .int 0, .int 0, .int 0, .int 0, .int 0, .int 0, .int 0, .int 0, .int 0, .int 0, .long 0, .int 0, .ref h3, .ref h4, .ref h5, .ref h6, .ref h7, .ref h8, .ref h9, .ref h10, .ref h1, .int 0, .int 0, .int 0, .int 0, .int (-1), .int (-1), .long 0, .long 0, .ref h11, .ref h12, .int 0, .int (-1), .int 0, .ref h13, .int 0, .ref h14, .ref h15, .int 0, .int 0, .ref h16, .int 0, .int 0, .int 0, .int 0]))] := hD
  refine zz_top (v := 1) hw ?_
  refine lv_if_eq (tgt := 23) hx hb dX12_restore_11 (by decide) (fun c2 => absurd c2 (by decide)) (fun _ => ?_)
  refine lv_aload_n hx hb dX12_restore_14 rfl (lv_at hl 0 rfl) ?_
  refine va_get (D := (dC, dI)) (ci := 11) (v := .ref h1) (C := RX12) (T := TX12) (N := 47) hx hb hts ii_X12_restore_X12 hown hK hP 1 rfl rfl 22 (by decide) (hts _ mm_X12_restore_2) (fun _ h9 => h9) rfl dX12_restore_15 ?_
  refine lv_iload_n hx hb dX12_restore_18 rfl (lv_at hl 1 rfl) ?_
  refine va_zald hx hb hK hP 0 0 rfl rfl (i := 0) (zz_in (by decide)) dX12_restore_19 ?_
  refine zz_top (v := 0) (by rfl) ?_
  refine lv_if_ne (tgt := 25) hx hb dX12_restore_20 (by decide) (fun c3 => absurd c3 (by decide)) (fun _ => ?_)
  refine lv_iconst (v := 0) hx hb dX12_restore_23 (by decide) ?_
  have hP9 := hP.sub (ws' := []) [] rfl
  have hD9 := hD.sub (ws' := []) [] (by decide) rfl
  have hK9 := hK.sub (tys' := []) [] rfl
  refine W.widen (k := 0) (n := 0) (Nat.le_of_ble_eq_true rfl) (Nat.le_of_ble_eq_true rfl) ?_
  exact W.zret (v := 0) hx hb hr rfl (fun t ht hW => ⟨⟨0, (), rfl, rfl, by rw [ht]; exact hP9, va_K.moved hW.alike hK9, hD9⟩, hS.F ht⟩) hS.2.2 dX12_restore_24
set_option maxHeartbeats 4000000 in
set_option maxRecDepth 100000 in
theorem k_X12_restore_1 (l : Launch) (dC : Nat → ClassId) (dI : Nat → Nat → Nat) (ad : Nat → Nat) (h0 h1 h2 h3 h4 h5 h6 h7 h8 h9 h10 h11 h12 h13 h14 h15 h16 : Nat) (w0 : ClassId) (sz : Nat) : Met l yX12_restore wsX12_restore ({ frames := 1, cells := 0, slots := 0, locals := 22 }) (va_Pc [.ref h0, .int 1] (CP (dC, dI) [(h1, .inl (w0, 2, .inl (fun _ => 0))), (h0, .inr (11, [.int 0, .ref h2, .int 0, .int 0, .int 0, .int 0, .int 0, .int 0, .int 0, .int 0, .int 0, .int 0, .long 0, .int 0, .ref h3, .ref h4, .ref h5, .ref h6, .ref h7, .ref h8, .ref h9, .ref h10, .ref h1, .int 0, .int 0, .int 0, .int 0, .int (-1), .int (-1), .long 0, .long 0, .ref h11, .ref h12, .int 0, .int (-1), .int 0, .ref h13, .int 0, .ref h14, .ref h15, .int 0, .int 0, .ref h16, .int 0, .int 0, .int 0, .int 0]))] [(w0, .boolean)] sz ad)) (va_Qi (fun (r : Int32) (_ : Unit) => r = 0) (fun (_ : Unit) (t : State) => CQ (dC, dI) [] [] (va_A [(h1, .inl (w0, 2, .inl (fun _ => 0))), (h0, .inr (11, [.int 0, .ref h2, .int 0, .int 0, .int 0, .int 0, .int 0, .int 0, .int 0, .int 0, .int 0, .int 0, .long 0, .int 0, .ref h3, .ref h4, .ref h5, .ref h6, .ref h7, .ref h8, .ref h9, .ref h10, .ref h1, .int 0, .int 0, .int 0, .int 0, .int (-1), .int (-1), .long 0, .long 0, .ref h11, .ref h12, .int 0, .int (-1), .int 0, .ref h13, .int 0, .ref h14, .ref h15, .int 0, .int 0, .ref h16, .int 0, .int 0, .int 0, .int 0]))] sz) t) (va_A [(h1, .inl (w0, 2, .inl (fun _ => 0))), (h0, .inr (11, [.int 0, .ref h2, .int 0, .int 0, .int 0, .int 0, .int 0, .int 0, .int 0, .int 0, .int 0, .int 0, .long 0, .int 0, .ref h3, .ref h4, .ref h5, .ref h6, .ref h7, .ref h8, .ref h9, .ref h10, .ref h1, .int 0, .int 0, .int 0, .int 0, .int (-1), .int (-1), .long 0, .long 0, .ref h11, .ref h12, .int 0, .int (-1), .int 0, .ref h13, .int 0, .ref h14, .ref h15, .int 0, .int 0, .ref h16, .int 0, .int 0, .int 0, .int 0]))] sz)) 0 0 (va_A [(h1, .inl (w0, 2, .inl (fun _ => 0))), (h0, .inr (11, [.int 0, .ref h2, .int 0, .int 0, .int 0, .int 0, .int 0, .int 0, .int 0, .int 0, .int 0, .int 0, .long 0, .int 0, .ref h3, .ref h4, .ref h5, .ref h6, .ref h7, .ref h8, .ref h9, .ref h10, .ref h1, .int 0, .int 0, .int 0, .int 0, .int (-1), .int (-1), .long 0, .long 0, .ref h11, .ref h12, .int 0, .int (-1), .int 0, .ref h13, .int 0, .ref h14, .ref h15, .int 0, .int 0, .ref h16, .int 0, .int 0, .int 0, .int 0]))] sz) := by
  refine Met.ofW (cc := cX12_restore) (maxL := 3) (ret := (some .boolean)) (by decide) rfl ?_
  intro p e s m args below meth c s₁ B hml hv
  obtain ⟨rfl, hsz, hP, hK, hD0, hE⟩ := hv
  have hx := B.exec
  have hb := B.bytes
  have hr := B.returns
  have hts := atoms_spec (ws := wsX12_restore) B.pre
  have hown : s.vm.findClass RX12 = some m.cls := findClass_of_methodNamed B.named
  have hlocks := B.notSynchronized
  subst hsz
  have hD := hD0.self (sz := s.heap.size)
  generalize hAe : va_A [(h1, .inl (w0, 2, .inl (fun _ => 0))), (h0, .inr (11, [.int 0, .ref h2, .int 0, .int 0, .int 0, .int 0, .int 0, .int 0, .int 0, .int 0, .int 0, .int 0, .long 0, .int 0, .ref h3, .ref h4, .ref h5, .ref h6, .ref h7, .ref h8, .ref h9, .ref h10, .ref h1, .int 0, .int 0, .int 0, .int 0, .int (-1), .int (-1), .long 0, .long 0, .ref h11, .ref h12, .int 0, .int (-1), .int 0, .ref h13, .int 0, .ref h14, .ref h15, .int 0, .int 0, .ref h16, .int 0, .int 0, .int 0, .int 0]))] s.heap.size = A at hD hE ⊢
  have hA : ∀ q : Nat, s.heap.size ≤ q → A q := fun q h => by rw [← hAe]; exact Or.inr h
  have hS : va_S A s.heap s.heap [] := va_S.rf
  have hl := lv_entry ([.ref h0, .int 1]) (n := 3) (Nat.le_of_ble_eq_true rfl)
  rw [lg_entry_eq]
  generalize (lg_sl ([.ref h0, .int 1]) ++ List.replicate (3 - (lg_sl ([.ref h0, .int 1])).length) Slot.unset).toArray = ls at hl ⊢
  have hl : lv_has ls 3 [(0, .ref h0), (1, .int 1)] := hl
  refine lv_aload_n hx hb dX12_restore_0 rfl (lv_at hl 0 rfl) ?_
  refine lv_iconst (v := 0) hx hb dX12_restore_1 (by decide) ?_
  refine va_put (D := (dC, dI)) (ci := 11) (v := .int 0) (ty := .int) (C := RX12) (T := TX12) (N := 47) hx hb hts ii_X12_restore_X12 tyX12 tyX12_ok nmX12 hown hK hP hD hS 1 rfl rfl 0 (by decide) (hts _ mm_X12_restore_1) (fun _ h9 => h9) rfl (by decide +kernel) rfl rfl (Nat.le_of_ble_eq_true rfl) dX12_restore_2 (fun H locs hP hD hS => ?_)
  have hP : va_P (dC, dI) vwCl [(h1, .inl (w0, 2, .inl (fun _ => 0))), (h0, .inr (11, [.int 0, .ref h2, .int 0, .int 0, .int 0, .int 0, .int 0, .int 0, .int 0, .int 0, .int 0, .int 0, .long 0, .int 0, .ref h3, .ref h4, .ref h5, .ref h6, .ref h7, .ref h8, .ref h9, .ref h10, .ref h1, .int 0, .int 0, .int 0, .int 0, .int (-1), .int (-1), .long 0, .long 0, .ref h11, .ref h12, .int 0, .int (-1), .int 0, .ref h13, .int 0, .ref h14, .ref h15, .int 0, .int 0, .ref h16, .int 0, .int 0, .int 0, .int 0]))] H := hP
  have hD : va_D A [(h1, .inl (w0, 2, .inl (fun _ => 0))), (h0, .inr (11, [.int 0, .ref h2, .int 0, .int 0, .int 0, .int 0, .int 0, .int 0, .int 0, .int 0, .int 0, .int 0, .long 0, .int 0, .ref h3, .ref h4, .ref h5, .ref h6, .ref h7, .ref h8, .ref h9, .ref h10, .ref h1, .int 0, .int 0, .int 0, .int 0, .int (-1), .int (-1), .long 0, .long 0, .ref h11, .ref h12, .int 0, .int (-1), .int 0, .ref h13, .int 0, .ref h14, .ref h15, .int 0, .int 0, .ref h16, .int 0, .int 0, .int 0, .int 0]))] := hD
  refine lv_iload_n hx hb dX12_restore_5 rfl (lv_at hl 1 rfl) ?_
  refine lv_iconst (v := 0) hx hb dX12_restore_6 (by decide) ?_
  refine lv_iconst (v := 1) hx hb dX12_restore_7 (by decide) ?_
  have hPc := hP.sub (ws' := []) [] rfl
  have hDc := hD.sub (ws' := []) [] (by decide) rfl
  have hKc := hK.sub (tys' := []) [] rfl
  have hFc := va_free (wc := []) hD hS hA [] rfl
  refine va_calli (va_runS (As := [.int 1, .int 0, .int 1]) (rest := []) ⟨hx, hb, hml, hown, hts⟩ (k_X12_isIn_10 l dC dI ad H.size) (cwS 3 hts gX12_restore_X12_isIn rfl rfl rfl (by decide +kernel) ⟨Nat.le_of_ble_eq_true rfl, Nat.le_of_ble_eq_true rfl⟩) ⟨fun a U g mk q => ⟨q.1, CP.blind q.2⟩, fun U hU hW => ⟨rfl, CP.of hPc hKc hDc hE hS hFc hU hW⟩⟩ rfl rfl hl.1 rfl (lv_room (Nat.le_of_ble_eq_true rfl)) dX12_restore_8 ⟨Nat.le_of_ble_eq_true rfl, Nat.le_of_ble_eq_true rfl⟩) hS (fun q _ h => hFc q h) hFc (fun r1 u t H1 locs ht hvm hw hB hz1 hk1 hS => ?_)
  obtain ⟨hP1, hK1, hD1⟩ := hB
  rw [ht] at hP1
  obtain ⟨hP, hD⟩ := va_join (wr := [(h1, .inl (w0, 2, .inl (fun _ => 0))), (h0, .inr (11, [.int 0, .ref h2, .int 0, .int 0, .int 0, .int 0, .int 0, .int 0, .int 0, .int 0, .int 0, .int 0, .long 0, .int 0, .ref h3, .ref h4, .ref h5, .ref h6, .ref h7, .ref h8, .ref h9, .ref h10, .ref h1, .int 0, .int 0, .int 0, .int 0, .int (-1), .int (-1), .long 0, .long 0, .ref h11, .ref h12, .int 0, .int (-1), .int 0, .ref h13, .int 0, .ref h14, .ref h15, .int 0, .int 0, .ref h16, .int 0, .int 0, .int 0, .int 0]))]) (w1 := []) hP hD [] [0, 1] rfl rfl (by decide) (by decide) hk1 hFc hP1 hD1
  generalize H1 = H at hP hS ⊢
  clear hPc hDc hKc hFc hP1 hD1 hK1 hk1 hz1
  have hP : va_P (dC, dI) vwCl [(h1, .inl (w0, 2, .inl (fun _ => 0))), (h0, .inr (11, [.int 0, .ref h2, .int 0, .int 0, .int 0, .int 0, .int 0, .int 0, .int 0, .int 0, .int 0, .int 0, .long 0, .int 0, .ref h3, .ref h4, .ref h5, .ref h6, .ref h7, .ref h8, .ref h9, .ref h10, .ref h1, .int 0, .int 0, .int 0, .int 0, .int (-1), .int (-1), .long 0, .long 0, .ref h11, .ref h12, .int 0, .int (-1), .int 0, .ref h13, .int 0, .ref h14, .ref h15, .int 0, .int 0, .ref h16, .int 0, .int 0, .int 0, .int 0]))] H := hP
  have hD : va_D A [(h1, .inl (w0, 2, .inl (fun _ => 0))), (h0, .inr (11, [.int 0, .ref h2, .int 0, .int 0, .int 0, .int 0, .int 0, .int 0, .int 0, .int 0, .int 0, .int 0, .long 0, .int 0, .ref h3, .ref h4, .ref h5, .ref h6, .ref h7, .ref h8, .ref h9, .ref h10, .ref h1, .int 0, .int 0, .int 0, .int 0, .int (-1), .int (-1), .long 0, .long 0, .ref h11, .ref h12, .int 0, .int (-1), .int 0, .ref h13, .int 0, .ref h14, .ref h15, .int 0, .int 0, .ref h16, .int 0, .int 0, .int 0, .int 0]))] := hD
  refine zz_top (v := 1) hw ?_
  refine lv_if_eq (tgt := 23) hx hb dX12_restore_11 (by decide) (fun c2 => absurd c2 (by decide)) (fun _ => ?_)
  refine lv_aload_n hx hb dX12_restore_14 rfl (lv_at hl 0 rfl) ?_
  refine va_get (D := (dC, dI)) (ci := 11) (v := .ref h1) (C := RX12) (T := TX12) (N := 47) hx hb hts ii_X12_restore_X12 hown hK hP 1 rfl rfl 22 (by decide) (hts _ mm_X12_restore_2) (fun _ h9 => h9) rfl dX12_restore_15 ?_
  refine lv_iload_n hx hb dX12_restore_18 rfl (lv_at hl 1 rfl) ?_
  refine va_zald hx hb hK hP 0 0 rfl rfl (i := 1) (zz_in (by decide)) dX12_restore_19 ?_
  refine zz_top (v := 0) (by rfl) ?_
  refine lv_if_ne (tgt := 25) hx hb dX12_restore_20 (by decide) (fun c3 => absurd c3 (by decide)) (fun _ => ?_)
  refine lv_iconst (v := 0) hx hb dX12_restore_23 (by decide) ?_
  have hP9 := hP.sub (ws' := []) [] rfl
  have hD9 := hD.sub (ws' := []) [] (by decide) rfl
  have hK9 := hK.sub (tys' := []) [] rfl
  refine W.widen (k := 0) (n := 0) (Nat.le_of_ble_eq_true rfl) (Nat.le_of_ble_eq_true rfl) ?_
  exact W.zret (v := 0) hx hb hr rfl (fun t ht hW => ⟨⟨0, (), rfl, rfl, by rw [ht]; exact hP9, va_K.moved hW.alike hK9, hD9⟩, hS.F ht⟩) hS.2.2 dX12_restore_24
set_option maxHeartbeats 4000000 in
set_option maxRecDepth 100000 in
theorem k_X12_restore_2 (l : Launch) (dC : Nat → ClassId) (dI : Nat → Nat → Nat) (ad : Nat → Nat) (h0 h1 h2 h3 h4 h5 h6 h7 h8 h9 h10 h11 h12 h13 h14 h15 h16 : Nat) (p0 : Int32) (sz : Nat) (e0_0 : p0 < 0) : Met l yX12_restore wsX12_restore ({ frames := 1, cells := 0, slots := 0, locals := 22 }) (va_Pc [.ref h0, .int p0] (CP (dC, dI) [(h0, .inr (11, [.int 0, .ref h1, .int 0, .int 0, .int 0, .int 0, .int 0, .int 0, .int 0, .int 0, .int 0, .int 0, .long 0, .int 0, .ref h2, .ref h3, .ref h4, .ref h5, .ref h6, .ref h7, .ref h8, .ref h9, .ref h10, .int 0, .int 0, .int 0, .int 0, .int (-1), .int (-1), .long 0, .long 0, .ref h11, .ref h12, .int 0, .int (-1), .int 0, .ref h13, .int 0, .ref h14, .ref h15, .int 0, .int 0, .ref h16, .int 0, .int 0, .int 0, .int 0]))] [] sz ad)) (va_Qi (fun (r : Int32) (_ : Unit) => r = 0) (fun (_ : Unit) (t : State) => CQ (dC, dI) [] [] (va_A [(h0, .inr (11, [.int 0, .ref h1, .int 0, .int 0, .int 0, .int 0, .int 0, .int 0, .int 0, .int 0, .int 0, .int 0, .long 0, .int 0, .ref h2, .ref h3, .ref h4, .ref h5, .ref h6, .ref h7, .ref h8, .ref h9, .ref h10, .int 0, .int 0, .int 0, .int 0, .int (-1), .int (-1), .long 0, .long 0, .ref h11, .ref h12, .int 0, .int (-1), .int 0, .ref h13, .int 0, .ref h14, .ref h15, .int 0, .int 0, .ref h16, .int 0, .int 0, .int 0, .int 0]))] sz) t) (va_A [(h0, .inr (11, [.int 0, .ref h1, .int 0, .int 0, .int 0, .int 0, .int 0, .int 0, .int 0, .int 0, .int 0, .int 0, .long 0, .int 0, .ref h2, .ref h3, .ref h4, .ref h5, .ref h6, .ref h7, .ref h8, .ref h9, .ref h10, .int 0, .int 0, .int 0, .int 0, .int (-1), .int (-1), .long 0, .long 0, .ref h11, .ref h12, .int 0, .int (-1), .int 0, .ref h13, .int 0, .ref h14, .ref h15, .int 0, .int 0, .ref h16, .int 0, .int 0, .int 0, .int 0]))] sz)) 0 0 (va_A [(h0, .inr (11, [.int 0, .ref h1, .int 0, .int 0, .int 0, .int 0, .int 0, .int 0, .int 0, .int 0, .int 0, .int 0, .long 0, .int 0, .ref h2, .ref h3, .ref h4, .ref h5, .ref h6, .ref h7, .ref h8, .ref h9, .ref h10, .int 0, .int 0, .int 0, .int 0, .int (-1), .int (-1), .long 0, .long 0, .ref h11, .ref h12, .int 0, .int (-1), .int 0, .ref h13, .int 0, .ref h14, .ref h15, .int 0, .int 0, .ref h16, .int 0, .int 0, .int 0, .int 0]))] sz) := by
  refine Met.ofW (cc := cX12_restore) (maxL := 3) (ret := (some .boolean)) (by decide) rfl ?_
  intro p e s m args below meth c s₁ B hml hv
  obtain ⟨rfl, hsz, hP, hK, hD0, hE⟩ := hv
  have hx := B.exec
  have hb := B.bytes
  have hr := B.returns
  have hts := atoms_spec (ws := wsX12_restore) B.pre
  have hown : s.vm.findClass RX12 = some m.cls := findClass_of_methodNamed B.named
  have hlocks := B.notSynchronized
  subst hsz
  have hD := hD0.self (sz := s.heap.size)
  generalize hAe : va_A [(h0, .inr (11, [.int 0, .ref h1, .int 0, .int 0, .int 0, .int 0, .int 0, .int 0, .int 0, .int 0, .int 0, .int 0, .long 0, .int 0, .ref h2, .ref h3, .ref h4, .ref h5, .ref h6, .ref h7, .ref h8, .ref h9, .ref h10, .int 0, .int 0, .int 0, .int 0, .int (-1), .int (-1), .long 0, .long 0, .ref h11, .ref h12, .int 0, .int (-1), .int 0, .ref h13, .int 0, .ref h14, .ref h15, .int 0, .int 0, .ref h16, .int 0, .int 0, .int 0, .int 0]))] s.heap.size = A at hD hE ⊢
  have hA : ∀ q : Nat, s.heap.size ≤ q → A q := fun q h => by rw [← hAe]; exact Or.inr h
  have hS : va_S A s.heap s.heap [] := va_S.rf
  have hl := lv_entry ([.ref h0, .int p0]) (n := 3) (Nat.le_of_ble_eq_true rfl)
  rw [lg_entry_eq]
  generalize (lg_sl ([.ref h0, .int p0]) ++ List.replicate (3 - (lg_sl ([.ref h0, .int p0])).length) Slot.unset).toArray = ls at hl ⊢
  have hl : lv_has ls 3 [(0, .ref h0), (1, .int p0)] := hl
  refine lv_aload_n hx hb dX12_restore_0 rfl (lv_at hl 0 rfl) ?_
  refine lv_iconst (v := 0) hx hb dX12_restore_1 (by decide) ?_
  refine va_put (D := (dC, dI)) (ci := 11) (v := .int 0) (ty := .int) (C := RX12) (T := TX12) (N := 47) hx hb hts ii_X12_restore_X12 tyX12 tyX12_ok nmX12 hown hK hP hD hS 0 rfl rfl 0 (by decide) (hts _ mm_X12_restore_1) (fun _ h9 => h9) rfl (by decide +kernel) rfl rfl (Nat.le_of_ble_eq_true rfl) dX12_restore_2 (fun H locs hP hD hS => ?_)
  have hP : va_P (dC, dI) vwCl [(h0, .inr (11, [.int 0, .ref h1, .int 0, .int 0, .int 0, .int 0, .int 0, .int 0, .int 0, .int 0, .int 0, .int 0, .long 0, .int 0, .ref h2, .ref h3, .ref h4, .ref h5, .ref h6, .ref h7, .ref h8, .ref h9, .ref h10, .int 0, .int 0, .int 0, .int 0, .int (-1), .int (-1), .long 0, .long 0, .ref h11, .ref h12, .int 0, .int (-1), .int 0, .ref h13, .int 0, .ref h14, .ref h15, .int 0, .int 0, .ref h16, .int 0, .int 0, .int 0, .int 0]))] H := hP
  have hD : va_D A [(h0, .inr (11, [.int 0, .ref h1, .int 0, .int 0, .int 0, .int 0, .int 0, .int 0, .int 0, .int 0, .int 0, .int 0, .long 0, .int 0, .ref h2, .ref h3, .ref h4, .ref h5, .ref h6, .ref h7, .ref h8, .ref h9, .ref h10, .int 0, .int 0, .int 0, .int 0, .int (-1), .int (-1), .long 0, .long 0, .ref h11, .ref h12, .int 0, .int (-1), .int 0, .ref h13, .int 0, .ref h14, .ref h15, .int 0, .int 0, .ref h16, .int 0, .int 0, .int 0, .int 0]))] := hD
  refine lv_iload_n hx hb dX12_restore_5 rfl (lv_at hl 1 rfl) ?_
  refine lv_iconst (v := 0) hx hb dX12_restore_6 (by decide) ?_
  refine lv_iconst (v := 1) hx hb dX12_restore_7 (by decide) ?_
  have hPc := hP.sub (ws' := []) [] rfl
  have hDc := hD.sub (ws' := []) [] (by decide) rfl
  have hKc := hK.sub (tys' := []) [] rfl
  have hFc := va_free (wc := []) hD hS hA [] rfl
  refine va_calli (va_runS (As := [.int p0, .int 0, .int 1]) (rest := []) ⟨hx, hb, hml, hown, hts⟩ (k_X12_isIn_12 l dC dI ad p0 H.size (by clear hP hD hK hS hE hPc hDc hKc hFc; simp only [Int32.lt_iff_toInt_lt, Int32.le_iff_toInt_le, ← Int32.toInt_inj, Int32.reduceToInt] at e0_0 ⊢; omega)) (cwS 3 hts gX12_restore_X12_isIn rfl rfl rfl (by decide +kernel) ⟨Nat.le_of_ble_eq_true rfl, Nat.le_of_ble_eq_true rfl⟩) ⟨fun a U g mk q => ⟨q.1, CP.blind q.2⟩, fun U hU hW => ⟨rfl, CP.of hPc hKc hDc hE hS hFc hU hW⟩⟩ rfl rfl hl.1 rfl (lv_room (Nat.le_of_ble_eq_true rfl)) dX12_restore_8 ⟨Nat.le_of_ble_eq_true rfl, Nat.le_of_ble_eq_true rfl⟩) hS (fun q _ h => hFc q h) hFc (fun r1 u t H1 locs ht hvm hw hB hz1 hk1 hS => ?_)
  obtain ⟨hP1, hK1, hD1⟩ := hB
  rw [ht] at hP1
  obtain ⟨hP, hD⟩ := va_join (wr := [(h0, .inr (11, [.int 0, .ref h1, .int 0, .int 0, .int 0, .int 0, .int 0, .int 0, .int 0, .int 0, .int 0, .int 0, .long 0, .int 0, .ref h2, .ref h3, .ref h4, .ref h5, .ref h6, .ref h7, .ref h8, .ref h9, .ref h10, .int 0, .int 0, .int 0, .int 0, .int (-1), .int (-1), .long 0, .long 0, .ref h11, .ref h12, .int 0, .int (-1), .int 0, .ref h13, .int 0, .ref h14, .ref h15, .int 0, .int 0, .ref h16, .int 0, .int 0, .int 0, .int 0]))]) (w1 := []) hP hD [] [0] rfl rfl (by decide) (by decide) hk1 hFc hP1 hD1
  generalize H1 = H at hP hS ⊢
  clear hPc hDc hKc hFc hP1 hD1 hK1 hk1 hz1
  have hP : va_P (dC, dI) vwCl [(h0, .inr (11, [.int 0, .ref h1, .int 0, .int 0, .int 0, .int 0, .int 0, .int 0, .int 0, .int 0, .int 0, .int 0, .long 0, .int 0, .ref h2, .ref h3, .ref h4, .ref h5, .ref h6, .ref h7, .ref h8, .ref h9, .ref h10, .int 0, .int 0, .int 0, .int 0, .int (-1), .int (-1), .long 0, .long 0, .ref h11, .ref h12, .int 0, .int (-1), .int 0, .ref h13, .int 0, .ref h14, .ref h15, .int 0, .int 0, .ref h16, .int 0, .int 0, .int 0, .int 0]))] H := hP
  have hD : va_D A [(h0, .inr (11, [.int 0, .ref h1, .int 0, .int 0, .int 0, .int 0, .int 0, .int 0, .int 0, .int 0, .int 0, .int 0, .long 0, .int 0, .ref h2, .ref h3, .ref h4, .ref h5, .ref h6, .ref h7, .ref h8, .ref h9, .ref h10, .int 0, .int 0, .int 0, .int 0, .int (-1), .int (-1), .long 0, .long 0, .ref h11, .ref h12, .int 0, .int (-1), .int 0, .ref h13, .int 0, .ref h14, .ref h15, .int 0, .int 0, .ref h16, .int 0, .int 0, .int 0, .int 0]))] := hD
  refine zz_top (v := 0) hw ?_
  refine lv_if_eq (tgt := 23) hx hb dX12_restore_11 (by decide) (fun _ => ?_) (fun c2 => absurd (by decide) c2)
  refine lv_iconst (v := 0) hx hb dX12_restore_23 (by decide) ?_
  have hP9 := hP.sub (ws' := []) [] rfl
  have hD9 := hD.sub (ws' := []) [] (by decide) rfl
  have hK9 := hK.sub (tys' := []) [] rfl
  refine W.widen (k := 0) (n := 0) (Nat.le_of_ble_eq_true rfl) (Nat.le_of_ble_eq_true rfl) ?_
  exact W.zret (v := 0) hx hb hr rfl (fun t ht hW => ⟨⟨0, (), rfl, rfl, by rw [ht]; exact hP9, va_K.moved hW.alike hK9, hD9⟩, hS.F ht⟩) hS.2.2 dX12_restore_24
set_option maxHeartbeats 4000000 in
set_option maxRecDepth 100000 in
theorem k_X12_restore_3 (l : Launch) (dC : Nat → ClassId) (dI : Nat → Nat → Nat) (ad : Nat → Nat) (h0 h1 h2 h3 h4 h5 h6 h7 h8 h9 h10 h11 h12 h13 h14 h15 h16 : Nat) (p0 : Int32) (sz : Nat) (e0_0 : 1 < p0) : Met l yX12_restore wsX12_restore ({ frames := 1, cells := 0, slots := 0, locals := 22 }) (va_Pc [.ref h0, .int p0] (CP (dC, dI) [(h0, .inr (11, [.int 0, .ref h1, .int 0, .int 0, .int 0, .int 0, .int 0, .int 0, .int 0, .int 0, .int 0, .int 0, .long 0, .int 0, .ref h2, .ref h3, .ref h4, .ref h5, .ref h6, .ref h7, .ref h8, .ref h9, .ref h10, .int 0, .int 0, .int 0, .int 0, .int (-1), .int (-1), .long 0, .long 0, .ref h11, .ref h12, .int 0, .int (-1), .int 0, .ref h13, .int 0, .ref h14, .ref h15, .int 0, .int 0, .ref h16, .int 0, .int 0, .int 0, .int 0]))] [] sz ad)) (va_Qi (fun (r : Int32) (_ : Unit) => r = 0) (fun (_ : Unit) (t : State) => CQ (dC, dI) [] [] (va_A [(h0, .inr (11, [.int 0, .ref h1, .int 0, .int 0, .int 0, .int 0, .int 0, .int 0, .int 0, .int 0, .int 0, .int 0, .long 0, .int 0, .ref h2, .ref h3, .ref h4, .ref h5, .ref h6, .ref h7, .ref h8, .ref h9, .ref h10, .int 0, .int 0, .int 0, .int 0, .int (-1), .int (-1), .long 0, .long 0, .ref h11, .ref h12, .int 0, .int (-1), .int 0, .ref h13, .int 0, .ref h14, .ref h15, .int 0, .int 0, .ref h16, .int 0, .int 0, .int 0, .int 0]))] sz) t) (va_A [(h0, .inr (11, [.int 0, .ref h1, .int 0, .int 0, .int 0, .int 0, .int 0, .int 0, .int 0, .int 0, .int 0, .int 0, .long 0, .int 0, .ref h2, .ref h3, .ref h4, .ref h5, .ref h6, .ref h7, .ref h8, .ref h9, .ref h10, .int 0, .int 0, .int 0, .int 0, .int (-1), .int (-1), .long 0, .long 0, .ref h11, .ref h12, .int 0, .int (-1), .int 0, .ref h13, .int 0, .ref h14, .ref h15, .int 0, .int 0, .ref h16, .int 0, .int 0, .int 0, .int 0]))] sz)) 0 0 (va_A [(h0, .inr (11, [.int 0, .ref h1, .int 0, .int 0, .int 0, .int 0, .int 0, .int 0, .int 0, .int 0, .int 0, .int 0, .long 0, .int 0, .ref h2, .ref h3, .ref h4, .ref h5, .ref h6, .ref h7, .ref h8, .ref h9, .ref h10, .int 0, .int 0, .int 0, .int 0, .int (-1), .int (-1), .long 0, .long 0, .ref h11, .ref h12, .int 0, .int (-1), .int 0, .ref h13, .int 0, .ref h14, .ref h15, .int 0, .int 0, .ref h16, .int 0, .int 0, .int 0, .int 0]))] sz) := by
  refine Met.ofW (cc := cX12_restore) (maxL := 3) (ret := (some .boolean)) (by decide) rfl ?_
  intro p e s m args below meth c s₁ B hml hv
  obtain ⟨rfl, hsz, hP, hK, hD0, hE⟩ := hv
  have hx := B.exec
  have hb := B.bytes
  have hr := B.returns
  have hts := atoms_spec (ws := wsX12_restore) B.pre
  have hown : s.vm.findClass RX12 = some m.cls := findClass_of_methodNamed B.named
  have hlocks := B.notSynchronized
  subst hsz
  have hD := hD0.self (sz := s.heap.size)
  generalize hAe : va_A [(h0, .inr (11, [.int 0, .ref h1, .int 0, .int 0, .int 0, .int 0, .int 0, .int 0, .int 0, .int 0, .int 0, .int 0, .long 0, .int 0, .ref h2, .ref h3, .ref h4, .ref h5, .ref h6, .ref h7, .ref h8, .ref h9, .ref h10, .int 0, .int 0, .int 0, .int 0, .int (-1), .int (-1), .long 0, .long 0, .ref h11, .ref h12, .int 0, .int (-1), .int 0, .ref h13, .int 0, .ref h14, .ref h15, .int 0, .int 0, .ref h16, .int 0, .int 0, .int 0, .int 0]))] s.heap.size = A at hD hE ⊢
  have hA : ∀ q : Nat, s.heap.size ≤ q → A q := fun q h => by rw [← hAe]; exact Or.inr h
  have hS : va_S A s.heap s.heap [] := va_S.rf
  have hl := lv_entry ([.ref h0, .int p0]) (n := 3) (Nat.le_of_ble_eq_true rfl)
  rw [lg_entry_eq]
  generalize (lg_sl ([.ref h0, .int p0]) ++ List.replicate (3 - (lg_sl ([.ref h0, .int p0])).length) Slot.unset).toArray = ls at hl ⊢
  have hl : lv_has ls 3 [(0, .ref h0), (1, .int p0)] := hl
  refine lv_aload_n hx hb dX12_restore_0 rfl (lv_at hl 0 rfl) ?_
  refine lv_iconst (v := 0) hx hb dX12_restore_1 (by decide) ?_
  refine va_put (D := (dC, dI)) (ci := 11) (v := .int 0) (ty := .int) (C := RX12) (T := TX12) (N := 47) hx hb hts ii_X12_restore_X12 tyX12 tyX12_ok nmX12 hown hK hP hD hS 0 rfl rfl 0 (by decide) (hts _ mm_X12_restore_1) (fun _ h9 => h9) rfl (by decide +kernel) rfl rfl (Nat.le_of_ble_eq_true rfl) dX12_restore_2 (fun H locs hP hD hS => ?_)
  have hP : va_P (dC, dI) vwCl [(h0, .inr (11, [.int 0, .ref h1, .int 0, .int 0, .int 0, .int 0, .int 0, .int 0, .int 0, .int 0, .int 0, .int 0, .long 0, .int 0, .ref h2, .ref h3, .ref h4, .ref h5, .ref h6, .ref h7, .ref h8, .ref h9, .ref h10, .int 0, .int 0, .int 0, .int 0, .int (-1), .int (-1), .long 0, .long 0, .ref h11, .ref h12, .int 0, .int (-1), .int 0, .ref h13, .int 0, .ref h14, .ref h15, .int 0, .int 0, .ref h16, .int 0, .int 0, .int 0, .int 0]))] H := hP
  have hD : va_D A [(h0, .inr (11, [.int 0, .ref h1, .int 0, .int 0, .int 0, .int 0, .int 0, .int 0, .int 0, .int 0, .int 0, .int 0, .long 0, .int 0, .ref h2, .ref h3, .ref h4, .ref h5, .ref h6, .ref h7, .ref h8, .ref h9, .ref h10, .int 0, .int 0, .int 0, .int 0, .int (-1), .int (-1), .long 0, .long 0, .ref h11, .ref h12, .int 0, .int (-1), .int 0, .ref h13, .int 0, .ref h14, .ref h15, .int 0, .int 0, .ref h16, .int 0, .int 0, .int 0, .int 0]))] := hD
  refine lv_iload_n hx hb dX12_restore_5 rfl (lv_at hl 1 rfl) ?_
  refine lv_iconst (v := 0) hx hb dX12_restore_6 (by decide) ?_
  refine lv_iconst (v := 1) hx hb dX12_restore_7 (by decide) ?_
  have hPc := hP.sub (ws' := []) [] rfl
  have hDc := hD.sub (ws' := []) [] (by decide) rfl
  have hKc := hK.sub (tys' := []) [] rfl
  have hFc := va_free (wc := []) hD hS hA [] rfl
  refine va_calli (va_runS (As := [.int p0, .int 0, .int 1]) (rest := []) ⟨hx, hb, hml, hown, hts⟩ (k_X12_isIn_13 l dC dI ad p0 H.size (by clear hP hD hK hS hE hPc hDc hKc hFc; simp only [Int32.lt_iff_toInt_lt, Int32.le_iff_toInt_le, ← Int32.toInt_inj, Int32.reduceToInt] at e0_0 ⊢; omega)) (cwS 3 hts gX12_restore_X12_isIn rfl rfl rfl (by decide +kernel) ⟨Nat.le_of_ble_eq_true rfl, Nat.le_of_ble_eq_true rfl⟩) ⟨fun a U g mk q => ⟨q.1, CP.blind q.2⟩, fun U hU hW => ⟨rfl, CP.of hPc hKc hDc hE hS hFc hU hW⟩⟩ rfl rfl hl.1 rfl (lv_room (Nat.le_of_ble_eq_true rfl)) dX12_restore_8 ⟨Nat.le_of_ble_eq_true rfl, Nat.le_of_ble_eq_true rfl⟩) hS (fun q _ h => hFc q h) hFc (fun r1 u t H1 locs ht hvm hw hB hz1 hk1 hS => ?_)
  obtain ⟨hP1, hK1, hD1⟩ := hB
  rw [ht] at hP1
  obtain ⟨hP, hD⟩ := va_join (wr := [(h0, .inr (11, [.int 0, .ref h1, .int 0, .int 0, .int 0, .int 0, .int 0, .int 0, .int 0, .int 0, .int 0, .int 0, .long 0, .int 0, .ref h2, .ref h3, .ref h4, .ref h5, .ref h6, .ref h7, .ref h8, .ref h9, .ref h10, .int 0, .int 0, .int 0, .int 0, .int (-1), .int (-1), .long 0, .long 0, .ref h11, .ref h12, .int 0, .int (-1), .int 0, .ref h13, .int 0, .ref h14, .ref h15, .int 0, .int 0, .ref h16, .int 0, .int 0, .int 0, .int 0]))]) (w1 := []) hP hD [] [0] rfl rfl (by decide) (by decide) hk1 hFc hP1 hD1
  generalize H1 = H at hP hS ⊢
  clear hPc hDc hKc hFc hP1 hD1 hK1 hk1 hz1
  have hP : va_P (dC, dI) vwCl [(h0, .inr (11, [.int 0, .ref h1, .int 0, .int 0, .int 0, .int 0, .int 0, .int 0, .int 0, .int 0, .int 0, .int 0, .long 0, .int 0, .ref h2, .ref h3, .ref h4, .ref h5, .ref h6, .ref h7, .ref h8, .ref h9, .ref h10, .int 0, .int 0, .int 0, .int 0, .int (-1), .int (-1), .long 0, .long 0, .ref h11, .ref h12, .int 0, .int (-1), .int 0, .ref h13, .int 0, .ref h14, .ref h15, .int 0, .int 0, .ref h16, .int 0, .int 0, .int 0, .int 0]))] H := hP
  have hD : va_D A [(h0, .inr (11, [.int 0, .ref h1, .int 0, .int 0, .int 0, .int 0, .int 0, .int 0, .int 0, .int 0, .int 0, .int 0, .long 0, .int 0, .ref h2, .ref h3, .ref h4, .ref h5, .ref h6, .ref h7, .ref h8, .ref h9, .ref h10, .int 0, .int 0, .int 0, .int 0, .int (-1), .int (-1), .long 0, .long 0, .ref h11, .ref h12, .int 0, .int (-1), .int 0, .ref h13, .int 0, .ref h14, .ref h15, .int 0, .int 0, .ref h16, .int 0, .int 0, .int 0, .int 0]))] := hD
  refine zz_top (v := 0) hw ?_
  refine lv_if_eq (tgt := 23) hx hb dX12_restore_11 (by decide) (fun _ => ?_) (fun c2 => absurd (by decide) c2)
  refine lv_iconst (v := 0) hx hb dX12_restore_23 (by decide) ?_
  have hP9 := hP.sub (ws' := []) [] rfl
  have hD9 := hD.sub (ws' := []) [] (by decide) rfl
  have hK9 := hK.sub (tys' := []) [] rfl
  refine W.widen (k := 0) (n := 0) (Nat.le_of_ble_eq_true rfl) (Nat.le_of_ble_eq_true rfl) ?_
  exact W.zret (v := 0) hx hb hr rfl (fun t ht hW => ⟨⟨0, (), rfl, rfl, by rw [ht]; exact hP9, va_K.moved hW.alike hK9, hD9⟩, hS.F ht⟩) hS.2.2 dX12_restore_24
set_option maxHeartbeats 4000000 in
set_option maxRecDepth 100000 in
theorem k_X12_count (l : Launch) (dC : Nat → ClassId) (dI : Nat → Nat → Nat) (ad : Nat → Nat) (h0 h1 h2 h3 h4 h5 h6 h7 h8 h9 h10 h11 h12 h13 h14 h15 h16 : Nat) (w0 : ClassId) (sz : Nat) : Met l yX12_count wsX12_count ({ frames := 0, cells := 0, slots := 0, locals := 0 }) (va_Pc [.ref h0, .int 0] (CP (dC, dI) [(h0, .inr (11, [.int 0, .ref h1, .int 0, .int 0, .int 0, .int 0, .int 0, .int 0, .int 0, .int 0, .int 0, .int 0, .long 0, .int 0, .ref h2, .ref h3, .ref h4, .ref h5, .ref h6, .ref h7, .ref h8, .ref h9, .ref h10, .int 0, .int 0, .int 0, .int 0, .int (-1), .int (-1), .long 0, .long 0, .ref h11, .ref h12, .int 0, .int (-1), .int 0, .ref h13, .int 0, .ref h14, .ref h15, .int 0, .int 0, .ref h16, .int 0, .int 0, .int 0, .int 0])), (h2, .inl (w0, 373, .inl (upd (upd (fun _ => 0) 60 2) 62 2)))] [(w0, .int)] sz ad)) (va_Qi (fun (r : Int32) (_ : Unit) => r = 0) (fun (_ : Unit) (t : State) => CQ (dC, dI) [] [] (va_A [(h0, .inr (11, [.int 0, .ref h1, .int 0, .int 0, .int 0, .int 0, .int 0, .int 0, .int 0, .int 0, .int 0, .int 0, .long 0, .int 0, .ref h2, .ref h3, .ref h4, .ref h5, .ref h6, .ref h7, .ref h8, .ref h9, .ref h10, .int 0, .int 0, .int 0, .int 0, .int (-1), .int (-1), .long 0, .long 0, .ref h11, .ref h12, .int 0, .int (-1), .int 0, .ref h13, .int 0, .ref h14, .ref h15, .int 0, .int 0, .ref h16, .int 0, .int 0, .int 0, .int 0])), (h2, .inl (w0, 373, .inl (upd (upd (fun _ => 0) 60 2) 62 2)))] sz) t) (va_A [(h0, .inr (11, [.int 0, .ref h1, .int 0, .int 0, .int 0, .int 0, .int 0, .int 0, .int 0, .int 0, .int 0, .int 0, .long 0, .int 0, .ref h2, .ref h3, .ref h4, .ref h5, .ref h6, .ref h7, .ref h8, .ref h9, .ref h10, .int 0, .int 0, .int 0, .int 0, .int (-1), .int (-1), .long 0, .long 0, .ref h11, .ref h12, .int 0, .int (-1), .int 0, .ref h13, .int 0, .ref h14, .ref h15, .int 0, .int 0, .ref h16, .int 0, .int 0, .int 0, .int 0])), (h2, .inl (w0, 373, .inl (upd (upd (fun _ => 0) 60 2) 62 2)))] sz)) 0 0 (va_A [(h0, .inr (11, [.int 0, .ref h1, .int 0, .int 0, .int 0, .int 0, .int 0, .int 0, .int 0, .int 0, .int 0, .int 0, .long 0, .int 0, .ref h2, .ref h3, .ref h4, .ref h5, .ref h6, .ref h7, .ref h8, .ref h9, .ref h10, .int 0, .int 0, .int 0, .int 0, .int (-1), .int (-1), .long 0, .long 0, .ref h11, .ref h12, .int 0, .int (-1), .int 0, .ref h13, .int 0, .ref h14, .ref h15, .int 0, .int 0, .ref h16, .int 0, .int 0, .int 0, .int 0])), (h2, .inl (w0, 373, .inl (upd (upd (fun _ => 0) 60 2) 62 2)))] sz) := by
  refine Met.ofW (cc := cX12_count) (maxL := 2) (ret := (some .int)) (by decide) rfl ?_
  intro p e s m args below meth c s₁ B hml hv
  obtain ⟨rfl, hsz, hP, hK, hD0, hE⟩ := hv
  have hx := B.exec
  have hb := B.bytes
  have hr := B.returns
  have hts := atoms_spec (ws := wsX12_count) B.pre
  have hown : s.vm.findClass RX12 = some m.cls := findClass_of_methodNamed B.named
  have hlocks := B.notSynchronized
  subst hsz
  have hD := hD0.self (sz := s.heap.size)
  generalize hAe : va_A [(h0, .inr (11, [.int 0, .ref h1, .int 0, .int 0, .int 0, .int 0, .int 0, .int 0, .int 0, .int 0, .int 0, .int 0, .long 0, .int 0, .ref h2, .ref h3, .ref h4, .ref h5, .ref h6, .ref h7, .ref h8, .ref h9, .ref h10, .int 0, .int 0, .int 0, .int 0, .int (-1), .int (-1), .long 0, .long 0, .ref h11, .ref h12, .int 0, .int (-1), .int 0, .ref h13, .int 0, .ref h14, .ref h15, .int 0, .int 0, .ref h16, .int 0, .int 0, .int 0, .int 0])), (h2, .inl (w0, 373, .inl (upd (upd (fun _ => 0) 60 2) 62 2)))] s.heap.size = A at hD hE ⊢
  have hA : ∀ q : Nat, s.heap.size ≤ q → A q := fun q h => by rw [← hAe]; exact Or.inr h
  have hS : va_S A s.heap s.heap [] := va_S.rf
  have hl := lv_entry ([.ref h0, .int 0]) (n := 2) (Nat.le_of_ble_eq_true rfl)
  rw [lg_entry_eq]
  generalize (lg_sl ([.ref h0, .int 0]) ++ List.replicate (2 - (lg_sl ([.ref h0, .int 0])).length) Slot.unset).toArray = ls at hl ⊢
  have hl : lv_has ls 2 [(0, .ref h0), (1, .int 0)] := hl
  refine lv_aload_n hx hb dX12_count_0 rfl (lv_at hl 0 rfl) ?_
  refine lv_iconst (v := 0) hx hb dX12_count_1 (by decide) ?_
  refine va_put (D := (dC, dI)) (ci := 11) (v := .int 0) (ty := .int) (C := RX12) (T := TX12) (N := 47) hx hb hts ii_X12_count_X12 tyX12 tyX12_ok nmX12 hown hK hP hD hS 0 rfl rfl 0 (by decide) (hts _ mm_X12_count_1) (fun _ h9 => h9) rfl (by decide +kernel) rfl rfl (Nat.le_of_ble_eq_true rfl) dX12_count_2 (fun H locs hP hD hS => ?_)
  have hP : va_P (dC, dI) vwCl [(h0, .inr (11, [.int 0, .ref h1, .int 0, .int 0, .int 0, .int 0, .int 0, .int 0, .int 0, .int 0, .int 0, .int 0, .long 0, .int 0, .ref h2, .ref h3, .ref h4, .ref h5, .ref h6, .ref h7, .ref h8, .ref h9, .ref h10, .int 0, .int 0, .int 0, .int 0, .int (-1), .int (-1), .long 0, .long 0, .ref h11, .ref h12, .int 0, .int (-1), .int 0, .ref h13, .int 0, .ref h14, .ref h15, .int 0, .int 0, .ref h16, .int 0, .int 0, .int 0, .int 0])), (h2, .inl (w0, 373, .inl (upd (upd (fun _ => 0) 60 2) 62 2)))] H := hP
  have hD : va_D A [(h0, .inr (11, [.int 0, .ref h1, .int 0, .int 0, .int 0, .int 0, .int 0, .int 0, .int 0, .int 0, .int 0, .int 0, .long 0, .int 0, .ref h2, .ref h3, .ref h4, .ref h5, .ref h6, .ref h7, .ref h8, .ref h9, .ref h10, .int 0, .int 0, .int 0, .int 0, .int (-1), .int (-1), .long 0, .long 0, .ref h11, .ref h12, .int 0, .int (-1), .int 0, .ref h13, .int 0, .ref h14, .ref h15, .int 0, .int 0, .ref h16, .int 0, .int 0, .int 0, .int 0])), (h2, .inl (w0, 373, .inl (upd (upd (fun _ => 0) 60 2) 62 2)))] := hD
  refine lv_iload_n hx hb dX12_count_5 rfl (lv_at hl 1 rfl) ?_
  refine lv_tableIn (tgt := 36) hx hb dX12_count_6 (by decide) (by decide) rfl (by decide) ?_
  refine lv_aload_n hx hb dX12_count_36 rfl (lv_at hl 0 rfl) ?_
  refine va_get (D := (dC, dI)) (ci := 11) (v := .ref h2) (C := RX12) (T := TX12) (N := 47) hx hb hts ii_X12_count_X12 hown hK hP 0 rfl rfl 14 (by decide) (hts _ mm_X12_count_2) (fun _ h9 => h9) rfl dX12_count_37 ?_
  refine lv_iconst (v := 0) hx hb dX12_count_40 (by decide) ?_
  refine va_iald hx hb hK hP 1 0 rfl rfl (i := 0) (zz_in (by decide)) dX12_count_41 ?_
  refine zz_top (v := 0) (by rfl) ?_
  have hP9 := hP.sub (ws' := []) [] rfl
  have hD9 := hD.sub (ws' := []) [] (by decide) rfl
  have hK9 := hK.sub (tys' := []) [] rfl
  refine W.widen (k := 0) (n := 0) (Nat.le_of_ble_eq_true rfl) (Nat.le_of_ble_eq_true rfl) ?_
  exact W.iret (v := 0) hx hb hr (fun t ht hW => ⟨⟨0, (), rfl, rfl, by rw [ht]; exact hP9, va_K.moved hW.alike hK9, hD9⟩, hS.F ht⟩) hS.2.2 dX12_count_42
set_option maxHeartbeats 4000000 in
set_option maxRecDepth 100000 in
theorem k_X12_count_1 (l : Launch) (dC : Nat → ClassId) (dI : Nat → Nat → Nat) (ad : Nat → Nat) (h0 h1 h2 h3 h4 h5 h6 h7 h8 h9 h10 h11 h12 h13 h14 h15 h16 : Nat) (w0 : ClassId) (sz : Nat) : Met l yX12_count wsX12_count ({ frames := 0, cells := 0, slots := 0, locals := 0 }) (va_Pc [.ref h0, .int 1] (CP (dC, dI) [(h0, .inr (11, [.int 0, .ref h1, .int 0, .int 0, .int 0, .int 0, .int 0, .int 0, .int 0, .int 0, .int 0, .int 0, .long 0, .int 0, .ref h2, .ref h3, .ref h4, .ref h5, .ref h6, .ref h7, .ref h8, .ref h9, .ref h10, .int 0, .int 0, .int 0, .int 0, .int (-1), .int (-1), .long 0, .long 0, .ref h11, .ref h12, .int 0, .int (-1), .int 0, .ref h13, .int 0, .ref h14, .ref h15, .int 0, .int 0, .ref h16, .int 0, .int 0, .int 0, .int 0])), (h2, .inl (w0, 373, .inl (upd (upd (fun _ => 0) 60 2) 62 2)))] [(w0, .int)] sz ad)) (va_Qi (fun (r : Int32) (_ : Unit) => r = 0) (fun (_ : Unit) (t : State) => CQ (dC, dI) [] [] (va_A [(h0, .inr (11, [.int 0, .ref h1, .int 0, .int 0, .int 0, .int 0, .int 0, .int 0, .int 0, .int 0, .int 0, .int 0, .long 0, .int 0, .ref h2, .ref h3, .ref h4, .ref h5, .ref h6, .ref h7, .ref h8, .ref h9, .ref h10, .int 0, .int 0, .int 0, .int 0, .int (-1), .int (-1), .long 0, .long 0, .ref h11, .ref h12, .int 0, .int (-1), .int 0, .ref h13, .int 0, .ref h14, .ref h15, .int 0, .int 0, .ref h16, .int 0, .int 0, .int 0, .int 0])), (h2, .inl (w0, 373, .inl (upd (upd (fun _ => 0) 60 2) 62 2)))] sz) t) (va_A [(h0, .inr (11, [.int 0, .ref h1, .int 0, .int 0, .int 0, .int 0, .int 0, .int 0, .int 0, .int 0, .int 0, .int 0, .long 0, .int 0, .ref h2, .ref h3, .ref h4, .ref h5, .ref h6, .ref h7, .ref h8, .ref h9, .ref h10, .int 0, .int 0, .int 0, .int 0, .int (-1), .int (-1), .long 0, .long 0, .ref h11, .ref h12, .int 0, .int (-1), .int 0, .ref h13, .int 0, .ref h14, .ref h15, .int 0, .int 0, .ref h16, .int 0, .int 0, .int 0, .int 0])), (h2, .inl (w0, 373, .inl (upd (upd (fun _ => 0) 60 2) 62 2)))] sz)) 0 0 (va_A [(h0, .inr (11, [.int 0, .ref h1, .int 0, .int 0, .int 0, .int 0, .int 0, .int 0, .int 0, .int 0, .int 0, .int 0, .long 0, .int 0, .ref h2, .ref h3, .ref h4, .ref h5, .ref h6, .ref h7, .ref h8, .ref h9, .ref h10, .int 0, .int 0, .int 0, .int 0, .int (-1), .int (-1), .long 0, .long 0, .ref h11, .ref h12, .int 0, .int (-1), .int 0, .ref h13, .int 0, .ref h14, .ref h15, .int 0, .int 0, .ref h16, .int 0, .int 0, .int 0, .int 0])), (h2, .inl (w0, 373, .inl (upd (upd (fun _ => 0) 60 2) 62 2)))] sz) := by
  refine Met.ofW (cc := cX12_count) (maxL := 2) (ret := (some .int)) (by decide) rfl ?_
  intro p e s m args below meth c s₁ B hml hv
  obtain ⟨rfl, hsz, hP, hK, hD0, hE⟩ := hv
  have hx := B.exec
  have hb := B.bytes
  have hr := B.returns
  have hts := atoms_spec (ws := wsX12_count) B.pre
  have hown : s.vm.findClass RX12 = some m.cls := findClass_of_methodNamed B.named
  have hlocks := B.notSynchronized
  subst hsz
  have hD := hD0.self (sz := s.heap.size)
  generalize hAe : va_A [(h0, .inr (11, [.int 0, .ref h1, .int 0, .int 0, .int 0, .int 0, .int 0, .int 0, .int 0, .int 0, .int 0, .int 0, .long 0, .int 0, .ref h2, .ref h3, .ref h4, .ref h5, .ref h6, .ref h7, .ref h8, .ref h9, .ref h10, .int 0, .int 0, .int 0, .int 0, .int (-1), .int (-1), .long 0, .long 0, .ref h11, .ref h12, .int 0, .int (-1), .int 0, .ref h13, .int 0, .ref h14, .ref h15, .int 0, .int 0, .ref h16, .int 0, .int 0, .int 0, .int 0])), (h2, .inl (w0, 373, .inl (upd (upd (fun _ => 0) 60 2) 62 2)))] s.heap.size = A at hD hE ⊢
  have hA : ∀ q : Nat, s.heap.size ≤ q → A q := fun q h => by rw [← hAe]; exact Or.inr h
  have hS : va_S A s.heap s.heap [] := va_S.rf
  have hl := lv_entry ([.ref h0, .int 1]) (n := 2) (Nat.le_of_ble_eq_true rfl)
  rw [lg_entry_eq]
  generalize (lg_sl ([.ref h0, .int 1]) ++ List.replicate (2 - (lg_sl ([.ref h0, .int 1])).length) Slot.unset).toArray = ls at hl ⊢
  have hl : lv_has ls 2 [(0, .ref h0), (1, .int 1)] := hl
  refine lv_aload_n hx hb dX12_count_0 rfl (lv_at hl 0 rfl) ?_
  refine lv_iconst (v := 0) hx hb dX12_count_1 (by decide) ?_
  refine va_put (D := (dC, dI)) (ci := 11) (v := .int 0) (ty := .int) (C := RX12) (T := TX12) (N := 47) hx hb hts ii_X12_count_X12 tyX12 tyX12_ok nmX12 hown hK hP hD hS 0 rfl rfl 0 (by decide) (hts _ mm_X12_count_1) (fun _ h9 => h9) rfl (by decide +kernel) rfl rfl (Nat.le_of_ble_eq_true rfl) dX12_count_2 (fun H locs hP hD hS => ?_)
  have hP : va_P (dC, dI) vwCl [(h0, .inr (11, [.int 0, .ref h1, .int 0, .int 0, .int 0, .int 0, .int 0, .int 0, .int 0, .int 0, .int 0, .int 0, .long 0, .int 0, .ref h2, .ref h3, .ref h4, .ref h5, .ref h6, .ref h7, .ref h8, .ref h9, .ref h10, .int 0, .int 0, .int 0, .int 0, .int (-1), .int (-1), .long 0, .long 0, .ref h11, .ref h12, .int 0, .int (-1), .int 0, .ref h13, .int 0, .ref h14, .ref h15, .int 0, .int 0, .ref h16, .int 0, .int 0, .int 0, .int 0])), (h2, .inl (w0, 373, .inl (upd (upd (fun _ => 0) 60 2) 62 2)))] H := hP
  have hD : va_D A [(h0, .inr (11, [.int 0, .ref h1, .int 0, .int 0, .int 0, .int 0, .int 0, .int 0, .int 0, .int 0, .int 0, .int 0, .long 0, .int 0, .ref h2, .ref h3, .ref h4, .ref h5, .ref h6, .ref h7, .ref h8, .ref h9, .ref h10, .int 0, .int 0, .int 0, .int 0, .int (-1), .int (-1), .long 0, .long 0, .ref h11, .ref h12, .int 0, .int (-1), .int 0, .ref h13, .int 0, .ref h14, .ref h15, .int 0, .int 0, .ref h16, .int 0, .int 0, .int 0, .int 0])), (h2, .inl (w0, 373, .inl (upd (upd (fun _ => 0) 60 2) 62 2)))] := hD
  refine lv_iload_n hx hb dX12_count_5 rfl (lv_at hl 1 rfl) ?_
  refine lv_tableIn (tgt := 43) hx hb dX12_count_6 (by decide) (by decide) rfl (by decide) ?_
  refine lv_aload_n hx hb dX12_count_43 rfl (lv_at hl 0 rfl) ?_
  refine va_get (D := (dC, dI)) (ci := 11) (v := .ref h2) (C := RX12) (T := TX12) (N := 47) hx hb hts ii_X12_count_X12 hown hK hP 0 rfl rfl 14 (by decide) (hts _ mm_X12_count_2) (fun _ h9 => h9) rfl dX12_count_44 ?_
  refine lv_iconst (v := 1) hx hb dX12_count_47 (by decide) ?_
  refine va_iald hx hb hK hP 1 0 rfl rfl (i := 1) (zz_in (by decide)) dX12_count_48 ?_
  refine zz_top (v := 0) (by rfl) ?_
  have hP9 := hP.sub (ws' := []) [] rfl
  have hD9 := hD.sub (ws' := []) [] (by decide) rfl
  have hK9 := hK.sub (tys' := []) [] rfl
  refine W.widen (k := 0) (n := 0) (Nat.le_of_ble_eq_true rfl) (Nat.le_of_ble_eq_true rfl) ?_
  exact W.iret (v := 0) hx hb hr (fun t ht hW => ⟨⟨0, (), rfl, rfl, by rw [ht]; exact hP9, va_K.moved hW.alike hK9, hD9⟩, hS.F ht⟩) hS.2.2 dX12_count_49
set_option maxHeartbeats 4000000 in
set_option maxRecDepth 100000 in
theorem k_X12_count_2 (l : Launch) (dC : Nat → ClassId) (dI : Nat → Nat → Nat) (ad : Nat → Nat) (h0 h1 h2 h3 h4 h5 h6 h7 h8 h9 h10 h11 h12 h13 h14 h15 h16 : Nat) (w0 : ClassId) (sz : Nat) : Met l yX12_count wsX12_count ({ frames := 0, cells := 0, slots := 0, locals := 0 }) (va_Pc [.ref h0, .int 2] (CP (dC, dI) [(h0, .inr (11, [.int 0, .ref h1, .int 0, .int 0, .int 0, .int 0, .int 0, .int 0, .int 0, .int 0, .int 0, .int 0, .long 0, .int 0, .ref h2, .ref h3, .ref h4, .ref h5, .ref h6, .ref h7, .ref h8, .ref h9, .ref h10, .int 0, .int 0, .int 0, .int 0, .int (-1), .int (-1), .long 0, .long 0, .ref h11, .ref h12, .int 0, .int (-1), .int 0, .ref h13, .int 0, .ref h14, .ref h15, .int 0, .int 0, .ref h16, .int 0, .int 0, .int 0, .int 0])), (h2, .inl (w0, 373, .inl (upd (upd (fun _ => 0) 60 2) 62 2)))] [(w0, .int)] sz ad)) (va_Qi (fun (r : Int32) (_ : Unit) => r = 0) (fun (_ : Unit) (t : State) => CQ (dC, dI) [] [] (va_A [(h0, .inr (11, [.int 0, .ref h1, .int 0, .int 0, .int 0, .int 0, .int 0, .int 0, .int 0, .int 0, .int 0, .int 0, .long 0, .int 0, .ref h2, .ref h3, .ref h4, .ref h5, .ref h6, .ref h7, .ref h8, .ref h9, .ref h10, .int 0, .int 0, .int 0, .int 0, .int (-1), .int (-1), .long 0, .long 0, .ref h11, .ref h12, .int 0, .int (-1), .int 0, .ref h13, .int 0, .ref h14, .ref h15, .int 0, .int 0, .ref h16, .int 0, .int 0, .int 0, .int 0])), (h2, .inl (w0, 373, .inl (upd (upd (fun _ => 0) 60 2) 62 2)))] sz) t) (va_A [(h0, .inr (11, [.int 0, .ref h1, .int 0, .int 0, .int 0, .int 0, .int 0, .int 0, .int 0, .int 0, .int 0, .int 0, .long 0, .int 0, .ref h2, .ref h3, .ref h4, .ref h5, .ref h6, .ref h7, .ref h8, .ref h9, .ref h10, .int 0, .int 0, .int 0, .int 0, .int (-1), .int (-1), .long 0, .long 0, .ref h11, .ref h12, .int 0, .int (-1), .int 0, .ref h13, .int 0, .ref h14, .ref h15, .int 0, .int 0, .ref h16, .int 0, .int 0, .int 0, .int 0])), (h2, .inl (w0, 373, .inl (upd (upd (fun _ => 0) 60 2) 62 2)))] sz)) 0 0 (va_A [(h0, .inr (11, [.int 0, .ref h1, .int 0, .int 0, .int 0, .int 0, .int 0, .int 0, .int 0, .int 0, .int 0, .int 0, .long 0, .int 0, .ref h2, .ref h3, .ref h4, .ref h5, .ref h6, .ref h7, .ref h8, .ref h9, .ref h10, .int 0, .int 0, .int 0, .int 0, .int (-1), .int (-1), .long 0, .long 0, .ref h11, .ref h12, .int 0, .int (-1), .int 0, .ref h13, .int 0, .ref h14, .ref h15, .int 0, .int 0, .ref h16, .int 0, .int 0, .int 0, .int 0])), (h2, .inl (w0, 373, .inl (upd (upd (fun _ => 0) 60 2) 62 2)))] sz) := by
  refine Met.ofW (cc := cX12_count) (maxL := 2) (ret := (some .int)) (by decide) rfl ?_
  intro p e s m args below meth c s₁ B hml hv
  obtain ⟨rfl, hsz, hP, hK, hD0, hE⟩ := hv
  have hx := B.exec
  have hb := B.bytes
  have hr := B.returns
  have hts := atoms_spec (ws := wsX12_count) B.pre
  have hown : s.vm.findClass RX12 = some m.cls := findClass_of_methodNamed B.named
  have hlocks := B.notSynchronized
  subst hsz
  have hD := hD0.self (sz := s.heap.size)
  generalize hAe : va_A [(h0, .inr (11, [.int 0, .ref h1, .int 0, .int 0, .int 0, .int 0, .int 0, .int 0, .int 0, .int 0, .int 0, .int 0, .long 0, .int 0, .ref h2, .ref h3, .ref h4, .ref h5, .ref h6, .ref h7, .ref h8, .ref h9, .ref h10, .int 0, .int 0, .int 0, .int 0, .int (-1), .int (-1), .long 0, .long 0, .ref h11, .ref h12, .int 0, .int (-1), .int 0, .ref h13, .int 0, .ref h14, .ref h15, .int 0, .int 0, .ref h16, .int 0, .int 0, .int 0, .int 0])), (h2, .inl (w0, 373, .inl (upd (upd (fun _ => 0) 60 2) 62 2)))] s.heap.size = A at hD hE ⊢
  have hA : ∀ q : Nat, s.heap.size ≤ q → A q := fun q h => by rw [← hAe]; exact Or.inr h
  have hS : va_S A s.heap s.heap [] := va_S.rf
  have hl := lv_entry ([.ref h0, .int 2]) (n := 2) (Nat.le_of_ble_eq_true rfl)
  rw [lg_entry_eq]
  generalize (lg_sl ([.ref h0, .int 2]) ++ List.replicate (2 - (lg_sl ([.ref h0, .int 2])).length) Slot.unset).toArray = ls at hl ⊢
  have hl : lv_has ls 2 [(0, .ref h0), (1, .int 2)] := hl
  refine lv_aload_n hx hb dX12_count_0 rfl (lv_at hl 0 rfl) ?_
  refine lv_iconst (v := 0) hx hb dX12_count_1 (by decide) ?_
  refine va_put (D := (dC, dI)) (ci := 11) (v := .int 0) (ty := .int) (C := RX12) (T := TX12) (N := 47) hx hb hts ii_X12_count_X12 tyX12 tyX12_ok nmX12 hown hK hP hD hS 0 rfl rfl 0 (by decide) (hts _ mm_X12_count_1) (fun _ h9 => h9) rfl (by decide +kernel) rfl rfl (Nat.le_of_ble_eq_true rfl) dX12_count_2 (fun H locs hP hD hS => ?_)
  have hP : va_P (dC, dI) vwCl [(h0, .inr (11, [.int 0, .ref h1, .int 0, .int 0, .int 0, .int 0, .int 0, .int 0, .int 0, .int 0, .int 0, .int 0, .long 0, .int 0, .ref h2, .ref h3, .ref h4, .ref h5, .ref h6, .ref h7, .ref h8, .ref h9, .ref h10, .int 0, .int 0, .int 0, .int 0, .int (-1), .int (-1), .long 0, .long 0, .ref h11, .ref h12, .int 0, .int (-1), .int 0, .ref h13, .int 0, .ref h14, .ref h15, .int 0, .int 0, .ref h16, .int 0, .int 0, .int 0, .int 0])), (h2, .inl (w0, 373, .inl (upd (upd (fun _ => 0) 60 2) 62 2)))] H := hP
  have hD : va_D A [(h0, .inr (11, [.int 0, .ref h1, .int 0, .int 0, .int 0, .int 0, .int 0, .int 0, .int 0, .int 0, .int 0, .int 0, .long 0, .int 0, .ref h2, .ref h3, .ref h4, .ref h5, .ref h6, .ref h7, .ref h8, .ref h9, .ref h10, .int 0, .int 0, .int 0, .int 0, .int (-1), .int (-1), .long 0, .long 0, .ref h11, .ref h12, .int 0, .int (-1), .int 0, .ref h13, .int 0, .ref h14, .ref h15, .int 0, .int 0, .ref h16, .int 0, .int 0, .int 0, .int 0])), (h2, .inl (w0, 373, .inl (upd (upd (fun _ => 0) 60 2) 62 2)))] := hD
  refine lv_iload_n hx hb dX12_count_5 rfl (lv_at hl 1 rfl) ?_
  refine lv_tableIn (tgt := 50) hx hb dX12_count_6 (by decide) (by decide) rfl (by decide) ?_
  refine lv_aload_n hx hb dX12_count_50 rfl (lv_at hl 0 rfl) ?_
  refine va_get (D := (dC, dI)) (ci := 11) (v := .ref h2) (C := RX12) (T := TX12) (N := 47) hx hb hts ii_X12_count_X12 hown hK hP 0 rfl rfl 14 (by decide) (hts _ mm_X12_count_2) (fun _ h9 => h9) rfl dX12_count_51 ?_
  refine lv_iconst (v := 2) hx hb dX12_count_54 (by decide) ?_
  refine va_iald hx hb hK hP 1 0 rfl rfl (i := 2) (zz_in (by decide)) dX12_count_55 ?_
  refine zz_top (v := 0) (by rfl) ?_
  have hP9 := hP.sub (ws' := []) [] rfl
  have hD9 := hD.sub (ws' := []) [] (by decide) rfl
  have hK9 := hK.sub (tys' := []) [] rfl
  refine W.widen (k := 0) (n := 0) (Nat.le_of_ble_eq_true rfl) (Nat.le_of_ble_eq_true rfl) ?_
  exact W.iret (v := 0) hx hb hr (fun t ht hW => ⟨⟨0, (), rfl, rfl, by rw [ht]; exact hP9, va_K.moved hW.alike hK9, hD9⟩, hS.F ht⟩) hS.2.2 dX12_count_56
