set_option maxHeartbeats 4000000 in
set_option maxRecDepth 100000 in
theorem k_X12_come_ (l : Launch) (dC : Nat → ClassId) (dI : Nat → Nat → Nat) (ad : Nat → Nat) (h0 h1 h2 h3 h4 h5 h6 h7 h8 h9 h10 h11 h12 h13 h14 h15 h16 : Nat) (p0 p1 p2 p3 : Int32) (w0 : ClassId) (sz : Nat) : Met l yX12_come_ wsX12_come_ ({ frames := 2, cells := 0, slots := 0, locals := 43 }) (va_Pc [.ref h0, .int p0, .int p1, .int p2, .int p3] (CP (dC, dI) [(h0, .inr (11, [.int 0, .ref h1, .int 0, .int 0, .int 0, .int 0, .int 0, .int 0, .int 0, .int 0, .int 0, .int 0, .long 0, .int 0, .ref h2, .ref h3, .ref h4, .ref h5, .ref h6, .ref h7, .ref h8, .ref h9, .ref h10, .int 0, .int 0, .int 0, .int 0, .int (-1), .int (-1), .long 0, .long 0, .ref h11, .ref h12, .int 0, .int (-1), .int 0, .ref h13, .int 0, .ref h14, .ref h15, .int 0, .int 0, .ref h16, .int 0, .int 0, .int 0, .int 0])), (h2, .inl (w0, 373, .inl (upd (upd (fun _ => 0) 60 2) 62 2)))] [(w0, .int)] sz ad)) (va_Qi (fun (r : Int32) (_ : Unit) => r = (-1)) (fun (_ : Unit) (t : State) => CQ (dC, dI) [] [] (va_A [(h0, .inr (11, [.int 0, .ref h1, .int 0, .int 0, .int 0, .int 0, .int 0, .int 0, .int 0, .int 0, .int 0, .int 0, .long 0, .int 0, .ref h2, .ref h3, .ref h4, .ref h5, .ref h6, .ref h7, .ref h8, .ref h9, .ref h10, .int 0, .int 0, .int 0, .int 0, .int (-1), .int (-1), .long 0, .long 0, .ref h11, .ref h12, .int 0, .int (-1), .int 0, .ref h13, .int 0, .ref h14, .ref h15, .int 0, .int 0, .ref h16, .int 0, .int 0, .int 0, .int 0])), (h2, .inl (w0, 373, .inl (upd (upd (fun _ => 0) 60 2) 62 2)))] sz) t) (va_A [(h0, .inr (11, [.int 0, .ref h1, .int 0, .int 0, .int 0, .int 0, .int 0, .int 0, .int 0, .int 0, .int 0, .int 0, .long 0, .int 0, .ref h2, .ref h3, .ref h4, .ref h5, .ref h6, .ref h7, .ref h8, .ref h9, .ref h10, .int 0, .int 0, .int 0, .int 0, .int (-1), .int (-1), .long 0, .long 0, .ref h11, .ref h12, .int 0, .int (-1), .int 0, .ref h13, .int 0, .ref h14, .ref h15, .int 0, .int 0, .ref h16, .int 0, .int 0, .int 0, .int 0])), (h2, .inl (w0, 373, .inl (upd (upd (fun _ => 0) 60 2) 62 2)))] sz)) 0 0 (va_A [(h0, .inr (11, [.int 0, .ref h1, .int 0, .int 0, .int 0, .int 0, .int 0, .int 0, .int 0, .int 0, .int 0, .int 0, .long 0, .int 0, .ref h2, .ref h3, .ref h4, .ref h5, .ref h6, .ref h7, .ref h8, .ref h9, .ref h10, .int 0, .int 0, .int 0, .int 0, .int (-1), .int (-1), .long 0, .long 0, .ref h11, .ref h12, .int 0, .int (-1), .int 0, .ref h13, .int 0, .ref h14, .ref h15, .int 0, .int 0, .ref h16, .int 0, .int 0, .int 0, .int 0])), (h2, .inl (w0, 373, .inl (upd (upd (fun _ => 0) 60 2) 62 2)))] sz) := by
  refine Met.ofW (cc := cX12_come_) (maxL := 5) (ret := (some .int)) (by decide) rfl ?_
  intro p e s m args below meth c s₁ B hml hv
  obtain ⟨rfl, hsz, hP, hK, hD0, hE⟩ := hv
  have hx := B.exec
  have hb := B.bytes
  have hr := B.returns
  have hts := atoms_spec (ws := wsX12_come_) B.pre
  have hown : s.vm.findClass RX12 = some m.cls := findClass_of_methodNamed B.named
  have hlocks := B.notSynchronized
  subst hsz
  have hD := hD0.self (sz := s.heap.size)
  generalize hAe : va_A [(h0, .inr (11, [.int 0, .ref h1, .int 0, .int 0, .int 0, .int 0, .int 0, .int 0, .int 0, .int 0, .int 0, .int 0, .long 0, .int 0, .ref h2, .ref h3, .ref h4, .ref h5, .ref h6, .ref h7, .ref h8, .ref h9, .ref h10, .int 0, .int 0, .int 0, .int 0, .int (-1), .int (-1), .long 0, .long 0, .ref h11, .ref h12, .int 0, .int (-1), .int 0, .ref h13, .int 0, .ref h14, .ref h15, .int 0, .int 0, .ref h16, .int 0, .int 0, .int 0, .int 0])), (h2, .inl (w0, 373, .inl (upd (upd (fun _ => 0) 60 2) 62 2)))] s.heap.size = A at hD hE ⊢
  have hA : ∀ q : Nat, s.heap.size ≤ q → A q := fun q h => by rw [← hAe]; exact Or.inr h
  have hS : va_S A s.heap s.heap [] := va_S.rf
  have hl := lv_entry ([.ref h0, .int p0, .int p1, .int p2, .int p3]) (n := 5) (Nat.le_of_ble_eq_true rfl)
  rw [lg_entry_eq]
  generalize (lg_sl ([.ref h0, .int p0, .int p1, .int p2, .int p3]) ++ List.replicate (5 - (lg_sl ([.ref h0, .int p0, .int p1, .int p2, .int p3])).length) Slot.unset).toArray = ls at hl ⊢
  have hl : lv_has ls 5 [(0, .ref h0), (1, .int p0), (2, .int p1), (3, .int p2), (4, .int p3)] := hl
  refine lv_aload_n hx hb dX12_come__0 rfl (lv_at hl 0 rfl) ?_
  refine lv_iconst (v := 0) hx hb dX12_come__1 (by decide) ?_
  refine va_put (D := (dC, dI)) (ci := 11) (v := .int 0) (ty := .int) (C := RX12) (T := TX12) (N := 47) hx hb hts ii_X12_come__X12 tyX12 tyX12_ok nmX12 hown hK hP hD hS 0 rfl rfl 0 (by decide) (hts _ mm_X12_come__1) (fun _ h9 => h9) rfl (by decide +kernel) rfl rfl (Nat.le_of_ble_eq_true rfl) dX12_come__2 (fun H locs hP hD hS => ?_)
  have hP : va_P (dC, dI) vwCl [(h0, .inr (11, [.int 0, .ref h1, .int 0, .int 0, .int 0, .int 0, .int 0, .int 0, .int 0, .int 0, .int 0, .int 0, .long 0, .int 0, .ref h2, .ref h3, .ref h4, .ref h5, .ref h6, .ref h7, .ref h8, .ref h9, .ref h10, .int 0, .int 0, .int 0, .int 0, .int (-1), .int (-1), .long 0, .long 0, .ref h11, .ref h12, .int 0, .int (-1), .int 0, .ref h13, .int 0, .ref h14, .ref h15, .int 0, .int 0, .ref h16, .int 0, .int 0, .int 0, .int 0])), (h2, .inl (w0, 373, .inl (upd (upd (fun _ => 0) 60 2) 62 2)))] H := hP
  have hD : va_D A [(h0, .inr (11, [.int 0, .ref h1, .int 0, .int 0, .int 0, .int 0, .int 0, .int 0, .int 0, .int 0, .int 0, .int 0, .long 0, .int 0, .ref h2, .ref h3, .ref h4, .ref h5, .ref h6, .ref h7, .ref h8, .ref h9, .ref h10, .int 0, .int 0, .int 0, .int 0, .int (-1), .int (-1), .long 0, .long 0, .ref h11, .ref h12, .int 0, .int (-1), .int 0, .ref h13, .int 0, .ref h14, .ref h15, .int 0, .int 0, .ref h16, .int 0, .int 0, .int 0, .int 0])), (h2, .inl (w0, 373, .inl (upd (upd (fun _ => 0) 60 2) 62 2)))] := hD
  refine lv_aload_n hx hb dX12_come__5 rfl (lv_at hl 0 rfl) ?_
  refine lv_iload_n hx hb dX12_come__6 rfl (lv_at hl 1 rfl) ?_
  have hPc := hP.sub (ws' := [(h0, .inr (11, [.int 0, .ref h1, .int 0, .int 0, .int 0, .int 0, .int 0, .int 0, .int 0, .int 0, .int 0, .int 0, .long 0, .int 0, .ref h2, .ref h3, .ref h4, .ref h5, .ref h6, .ref h7, .ref h8, .ref h9, .ref h10, .int 0, .int 0, .int 0, .int 0, .int (-1), .int (-1), .long 0, .long 0, .ref h11, .ref h12, .int 0, .int (-1), .int 0, .ref h13, .int 0, .ref h14, .ref h15, .int 0, .int 0, .ref h16, .int 0, .int 0, .int 0, .int 0])), (h2, .inl (w0, 373, .inl (upd (upd (fun _ => 0) 60 2) 62 2)))]) [0, 1] rfl
  have hDc := hD.sub (ws' := [(h0, .inr (11, [.int 0, .ref h1, .int 0, .int 0, .int 0, .int 0, .int 0, .int 0, .int 0, .int 0, .int 0, .int 0, .long 0, .int 0, .ref h2, .ref h3, .ref h4, .ref h5, .ref h6, .ref h7, .ref h8, .ref h9, .ref h10, .int 0, .int 0, .int 0, .int 0, .int (-1), .int (-1), .long 0, .long 0, .ref h11, .ref h12, .int 0, .int (-1), .int 0, .ref h13, .int 0, .ref h14, .ref h15, .int 0, .int 0, .ref h16, .int 0, .int 0, .int 0, .int 0])), (h2, .inl (w0, 373, .inl (upd (upd (fun _ => 0) 60 2) 62 2)))]) [0, 1] (by decide) rfl
  have hKc := hK.sub (tys' := [(w0, .int)]) [0] rfl
  have hFc := va_free (wc := [(h0, .inr (11, [.int 0, .ref h1, .int 0, .int 0, .int 0, .int 0, .int 0, .int 0, .int 0, .int 0, .int 0, .int 0, .long 0, .int 0, .ref h2, .ref h3, .ref h4, .ref h5, .ref h6, .ref h7, .ref h8, .ref h9, .ref h10, .int 0, .int 0, .int 0, .int 0, .int (-1), .int (-1), .long 0, .long 0, .ref h11, .ref h12, .int 0, .int (-1), .int 0, .ref h13, .int 0, .ref h14, .ref h15, .int 0, .int 0, .ref h16, .int 0, .int 0, .int 0, .int 0])), (h2, .inl (w0, 373, .inl (upd (upd (fun _ => 0) 60 2) 62 2)))]) hD hS hA [0, 1] rfl
  refine va_calli (va_runV (As := [.int p0]) (rest := []) ⟨hx, hb, hml, hown, hts⟩ (k_X12_isPerson l dC dI ad h0 h1 h2 h3 h4 h5 h6 h7 h8 h9 h10 h11 h12 h13 h14 h15 h16 p0 w0 H.size) (cwV 1 hts gX12_come__X12_isPerson rfl rfl rfl (by decide +kernel) ⟨Nat.le_of_ble_eq_true rfl, Nat.le_of_ble_eq_true rfl⟩) ⟨fun a U g mk q => ⟨q.1, CP.blind q.2⟩, va_recv hKc hPc (ci := 11) (q0 := 0) rfl rfl, fun U hU hW => ⟨rfl, CP.of hPc hKc hDc hE hS hFc hU hW⟩⟩ rfl rfl hl.1 rfl (lv_room (Nat.le_of_ble_eq_true rfl)) dX12_come__7 ⟨Nat.le_of_ble_eq_true rfl, Nat.le_of_ble_eq_true rfl⟩) hS (fun q _ h => hFc q h) hFc (fun r1 u t H1 locs ht hvm hw hB hz1 hk1 hS => ?_)
  obtain ⟨hP1, hK1, hD1⟩ := hB
  rw [ht] at hP1
  obtain ⟨hP, hD⟩ := va_join (wr := []) (w1 := [(h0, .inr (11, [.int 0, .ref h1, .int 0, .int 0, .int 0, .int 0, .int 0, .int 0, .int 0, .int 0, .int 0, .int 0, .long 0, .int 0, .ref h2, .ref h3, .ref h4, .ref h5, .ref h6, .ref h7, .ref h8, .ref h9, .ref h10, .int 0, .int 0, .int 0, .int 0, .int (-1), .int (-1), .long 0, .long 0, .ref h11, .ref h12, .int 0, .int (-1), .int 0, .ref h13, .int 0, .ref h14, .ref h15, .int 0, .int 0, .ref h16, .int 0, .int 0, .int 0, .int 0])), (h2, .inl (w0, 373, .inl (upd (upd (fun _ => 0) 60 2) 62 2)))]) hP hD [0, 1] [] rfl rfl (by decide) (by decide) hk1 hFc hP1 hD1
  generalize H1 = H at hP hS ⊢
  clear hPc hDc hKc hFc hP1 hD1 hK1 hk1 hz1
  have hP : va_P (dC, dI) vwCl [(h0, .inr (11, [.int 0, .ref h1, .int 0, .int 0, .int 0, .int 0, .int 0, .int 0, .int 0, .int 0, .int 0, .int 0, .long 0, .int 0, .ref h2, .ref h3, .ref h4, .ref h5, .ref h6, .ref h7, .ref h8, .ref h9, .ref h10, .int 0, .int 0, .int 0, .int 0, .int (-1), .int (-1), .long 0, .long 0, .ref h11, .ref h12, .int 0, .int (-1), .int 0, .ref h13, .int 0, .ref h14, .ref h15, .int 0, .int 0, .ref h16, .int 0, .int 0, .int 0, .int 0])), (h2, .inl (w0, 373, .inl (upd (upd (fun _ => 0) 60 2) 62 2)))] H := hP
  have hD : va_D A [(h0, .inr (11, [.int 0, .ref h1, .int 0, .int 0, .int 0, .int 0, .int 0, .int 0, .int 0, .int 0, .int 0, .int 0, .long 0, .int 0, .ref h2, .ref h3, .ref h4, .ref h5, .ref h6, .ref h7, .ref h8, .ref h9, .ref h10, .int 0, .int 0, .int 0, .int 0, .int (-1), .int (-1), .long 0, .long 0, .ref h11, .ref h12, .int 0, .int (-1), .int 0, .ref h13, .int 0, .ref h14, .ref h15, .int 0, .int 0, .ref h16, .int 0, .int 0, .int 0, .int 0])), (h2, .inl (w0, 373, .inl (upd (upd (fun _ => 0) 60 2) 62 2)))] := hD
  refine zz_top (v := 0) hw ?_
  refine lv_if_eq (tgt := 43) hx hb dX12_come__10 (by decide) (fun _ => ?_) (fun c2 => absurd (by decide) c2)
  refine lv_iconst (v := (-1)) hx hb dX12_come__43 (by decide) ?_
  have hP9 := hP.sub (ws' := []) [] rfl
  have hD9 := hD.sub (ws' := []) [] (by decide) rfl
  have hK9 := hK.sub (tys' := []) [] rfl
  refine W.widen (k := 0) (n := 0) (Nat.le_of_ble_eq_true rfl) (Nat.le_of_ble_eq_true rfl) ?_
  exact W.iret (v := (-1)) hx hb hr (fun t ht hW => ⟨⟨(-1), (), rfl, rfl, by rw [ht]; exact hP9, va_K.moved hW.alike hK9, hD9⟩, hS.F ht⟩) hS.2.2 dX12_come__44
set_option maxHeartbeats 4000000 in
set_option maxRecDepth 100000 in
theorem k_X12_isIn_5 (l : Launch) (dC : Nat → ClassId) (dI : Nat → Nat → Nat) (ad : Nat → Nat) (p0 : Int32) (sz : Nat) (e0_0 : p0 < 1) : Met l yX12_isIn wsX12_isIn ({ frames := 0, cells := 0, slots := 0, locals := 0 }) (va_Pc [.int p0, .int 1, .int 30] (CP (dC, dI) [] [] sz ad)) (va_Qi (fun (r : Int32) (_ : Unit) => r = 0) (fun (_ : Unit) (t : State) => CQ (dC, dI) [] [] (va_A [] sz) t) (va_A [] sz)) 0 0 (va_A [] sz) := by
  refine Met.ofW (cc := cX12_isIn) (maxL := 3) (ret := (some .boolean)) (by decide) rfl ?_
  intro p e s m args below meth c s₁ B hml hv
  obtain ⟨rfl, hsz, hP, hK, hD0, hE⟩ := hv
  have hx := B.exec
  have hb := B.bytes
  have hr := B.returns
  have hts := atoms_spec (ws := wsX12_isIn) B.pre
  have hown : s.vm.findClass RX12 = some m.cls := findClass_of_methodNamed B.named
  have hlocks := B.notSynchronized
  subst hsz
  have hD := hD0.self (sz := s.heap.size)
  generalize hAe : va_A [] s.heap.size = A at hD hE ⊢
  have hA : ∀ q : Nat, s.heap.size ≤ q → A q := fun q h => by rw [← hAe]; exact Or.inr h
  have hS : va_S A s.heap s.heap [] := va_S.rf
  have hl := lv_entry ([.int p0, .int 1, .int 30]) (n := 3) (Nat.le_of_ble_eq_true rfl)
  rw [lg_entry_eq]
  generalize (lg_sl ([.int p0, .int 1, .int 30]) ++ List.replicate (3 - (lg_sl ([.int p0, .int 1, .int 30])).length) Slot.unset).toArray = ls at hl ⊢
  have hl : lv_has ls 3 [(0, .int p0), (1, .int 1), (2, .int 30)] := hl
  refine lv_iload_n hx hb dX12_isIn_0 rfl (lv_at hl 0 rfl) ?_
  refine lv_iload_n hx hb dX12_isIn_1 rfl (lv_at hl 1 rfl) ?_
  refine lv_icmp_lt (tgt := 14) hx hb dX12_isIn_2 (by decide) (fun _ => ?_) (fun c1 => ?_)
  rotate_left
  · exfalso; clear hP hD hK hS hE; simp only [Int32.lt_iff_toInt_lt, Int32.le_iff_toInt_le, ← Int32.toInt_inj, Int32.reduceToInt] at e0_0 c1; omega
  refine lv_iconst (v := 0) hx hb dX12_isIn_14 (by decide) ?_
  have hP9 := hP.sub (ws' := []) [] rfl
  have hD9 := hD.sub (ws' := []) [] (by decide) rfl
  have hK9 := hK.sub (tys' := []) [] rfl
  refine W.widen (k := 0) (n := 0) (Nat.le_of_ble_eq_true rfl) (Nat.le_of_ble_eq_true rfl) ?_
  exact W.zret (v := 0) hx hb hr rfl (fun t ht hW => ⟨⟨0, (), rfl, rfl, by rw [ht]; exact hP9, va_K.moved hW.alike hK9, hD9⟩, hS.F ht⟩) hS.2.2 dX12_isIn_15
set_option maxHeartbeats 4000000 in
set_option maxRecDepth 100000 in
theorem k_X12_days (l : Launch) (dC : Nat → ClassId) (dI : Nat → Nat → Nat) (ad : Nat → Nat) (h0 h1 h2 h3 h4 h5 h6 h7 h8 h9 h10 h11 h12 h13 h14 h15 h16 : Nat) (p0 p1 : Int32) (sz : Nat) (e0_0 : p0 < 1) : Met l yX12_days wsX12_days ({ frames := 1, cells := 0, slots := 0, locals := 22 }) (va_Pc [.ref h0, .int p0, .int p1] (CP (dC, dI) [(h0, .inr (11, [.int 0, .ref h1, .int 0, .int 0, .int 0, .int 0, .int 0, .int 0, .int 0, .int 0, .int 0, .int 0, .long 0, .int 0, .ref h2, .ref h3, .ref h4, .ref h5, .ref h6, .ref h7, .ref h8, .ref h9, .ref h10, .int 0, .int 0, .int 0, .int 0, .int (-1), .int (-1), .long 0, .long 0, .ref h11, .ref h12, .int 0, .int (-1), .int 0, .ref h13, .int 0, .ref h14, .ref h15, .int 0, .int 0, .ref h16, .int 0, .int 0, .int 0, .int 0]))] [] sz ad)) (va_Qi (fun (r : Int32) (_ : Unit) => r = (-1)) (fun (_ : Unit) (t : State) => CQ (dC, dI) [] [] (va_A [(h0, .inr (11, [.int 0, .ref h1, .int 0, .int 0, .int 0, .int 0, .int 0, .int 0, .int 0, .int 0, .int 0, .int 0, .long 0, .int 0, .ref h2, .ref h3, .ref h4, .ref h5, .ref h6, .ref h7, .ref h8, .ref h9, .ref h10, .int 0, .int 0, .int 0, .int 0, .int (-1), .int (-1), .long 0, .long 0, .ref h11, .ref h12, .int 0, .int (-1), .int 0, .ref h13, .int 0, .ref h14, .ref h15, .int 0, .int 0, .ref h16, .int 0, .int 0, .int 0, .int 0]))] sz) t) (va_A [(h0, .inr (11, [.int 0, .ref h1, .int 0, .int 0, .int 0, .int 0, .int 0, .int 0, .int 0, .int 0, .int 0, .int 0, .long 0, .int 0, .ref h2, .ref h3, .ref h4, .ref h5, .ref h6, .ref h7, .ref h8, .ref h9, .ref h10, .int 0, .int 0, .int 0, .int 0, .int (-1), .int (-1), .long 0, .long 0, .ref h11, .ref h12, .int 0, .int (-1), .int 0, .ref h13, .int 0, .ref h14, .ref h15, .int 0, .int 0, .ref h16, .int 0, .int 0, .int 0, .int 0]))] sz)) 0 0 (va_A [(h0, .inr (11, [.int 0, .ref h1, .int 0, .int 0, .int 0, .int 0, .int 0, .int 0, .int 0, .int 0, .int 0, .int 0, .long 0, .int 0, .ref h2, .ref h3, .ref h4, .ref h5, .ref h6, .ref h7, .ref h8, .ref h9, .ref h10, .int 0, .int 0, .int 0, .int 0, .int (-1), .int (-1), .long 0, .long 0, .ref h11, .ref h12, .int 0, .int (-1), .int 0, .ref h13, .int 0, .ref h14, .ref h15, .int 0, .int 0, .ref h16, .int 0, .int 0, .int 0, .int 0]))] sz) := by
  refine Met.ofW (cc := cX12_days) (maxL := 3) (ret := (some .int)) (by decide) rfl ?_
  intro p e s m args below meth c s₁ B hml hv
  obtain ⟨rfl, hsz, hP, hK, hD0, hE⟩ := hv
  have hx := B.exec
  have hb := B.bytes
  have hr := B.returns
  have hts := atoms_spec (ws := wsX12_days) B.pre
  have hown : s.vm.findClass RX12 = some m.cls := findClass_of_methodNamed B.named
  have hlocks := B.notSynchronized
  subst hsz
  have hD := hD0.self (sz := s.heap.size)
  generalize hAe : va_A [(h0, .inr (11, [.int 0, .ref h1, .int 0, .int 0, .int 0, .int 0, .int 0, .int 0, .int 0, .int 0, .int 0, .int 0, .long 0, .int 0, .ref h2, .ref h3, .ref h4, .ref h5, .ref h6, .ref h7, .ref h8, .ref h9, .ref h10, .int 0, .int 0, .int 0, .int 0, .int (-1), .int (-1), .long 0, .long 0, .ref h11, .ref h12, .int 0, .int (-1), .int 0, .ref h13, .int 0, .ref h14, .ref h15, .int 0, .int 0, .ref h16, .int 0, .int 0, .int 0, .int 0]))] s.heap.size = A at hD hE ⊢
  have hA : ∀ q : Nat, s.heap.size ≤ q → A q := fun q h => by rw [← hAe]; exact Or.inr h
  have hS : va_S A s.heap s.heap [] := va_S.rf
  have hl := lv_entry ([.ref h0, .int p0, .int p1]) (n := 3) (Nat.le_of_ble_eq_true rfl)
  rw [lg_entry_eq]
  generalize (lg_sl ([.ref h0, .int p0, .int p1]) ++ List.replicate (3 - (lg_sl ([.ref h0, .int p0, .int p1])).length) Slot.unset).toArray = ls at hl ⊢
  have hl : lv_has ls 3 [(0, .ref h0), (1, .int p0), (2, .int p1)] := hl
  refine lv_aload_n hx hb dX12_days_0 rfl (lv_at hl 0 rfl) ?_
  refine lv_iconst (v := 0) hx hb dX12_days_1 (by decide) ?_
  refine va_put (D := (dC, dI)) (ci := 11) (v := .int 0) (ty := .int) (C := RX12) (T := TX12) (N := 47) hx hb hts ii_X12_days_X12 tyX12 tyX12_ok nmX12 hown hK hP hD hS 0 rfl rfl 0 (by decide) (hts _ mm_X12_days_1) (fun _ h9 => h9) rfl (by decide +kernel) rfl rfl (Nat.le_of_ble_eq_true rfl) dX12_days_2 (fun H locs hP hD hS => ?_)
  have hP : va_P (dC, dI) vwCl [(h0, .inr (11, [.int 0, .ref h1, .int 0, .int 0, .int 0, .int 0, .int 0, .int 0, .int 0, .int 0, .int 0, .int 0, .long 0, .int 0, .ref h2, .ref h3, .ref h4, .ref h5, .ref h6, .ref h7, .ref h8, .ref h9, .ref h10, .int 0, .int 0, .int 0, .int 0, .int (-1), .int (-1), .long 0, .long 0, .ref h11, .ref h12, .int 0, .int (-1), .int 0, .ref h13, .int 0, .ref h14, .ref h15, .int 0, .int 0, .ref h16, .int 0, .int 0, .int 0, .int 0]))] H := hP
  have hD : va_D A [(h0, .inr (11, [.int 0, .ref h1, .int 0, .int 0, .int 0, .int 0, .int 0, .int 0, .int 0, .int 0, .int 0, .int 0, .long 0, .int 0, .ref h2, .ref h3, .ref h4, .ref h5, .ref h6, .ref h7, .ref h8, .ref h9, .ref h10, .int 0, .int 0, .int 0, .int 0, .int (-1), .int (-1), .long 0, .long 0, .ref h11, .ref h12, .int 0, .int (-1), .int 0, .ref h13, .int 0, .ref h14, .ref h15, .int 0, .int 0, .ref h16, .int 0, .int 0, .int 0, .int 0]))] := hD
  refine lv_iload_n hx hb dX12_days_5 rfl (lv_at hl 1 rfl) ?_
  refine lv_iconst (v := 1) hx hb dX12_days_6 (by decide) ?_
  refine lv_bipush (v := 30) hx hb dX12_days_7 (by decide) ?_
  have hPc := hP.sub (ws' := []) [] rfl
  have hDc := hD.sub (ws' := []) [] (by decide) rfl
  have hKc := hK.sub (tys' := []) [] rfl
  have hFc := va_free (wc := []) hD hS hA [] rfl
  refine va_calli (va_runS (As := [.int p0, .int 1, .int 30]) (rest := []) ⟨hx, hb, hml, hown, hts⟩ (k_X12_isIn_5 l dC dI ad p0 H.size (by clear hP hD hK hS hE hPc hDc hKc hFc; simp only [Int32.lt_iff_toInt_lt, Int32.le_iff_toInt_le, ← Int32.toInt_inj, Int32.reduceToInt] at e0_0 ⊢; omega)) (va_cwS 3 hts gX12_days_X12_isIn rfl rfl rfl (by decide +kernel) ⟨Nat.le_of_ble_eq_true rfl, Nat.le_of_ble_eq_true rfl⟩) ⟨fun a U g mk q => ⟨q.1, CP.blind q.2⟩, fun U hU hW => ⟨rfl, CP.of hPc hKc hDc hE hS hFc hU hW⟩⟩ rfl rfl hl.1 rfl (lv_room (Nat.le_of_ble_eq_true rfl)) dX12_days_9 ⟨Nat.le_of_ble_eq_true rfl, Nat.le_of_ble_eq_true rfl⟩) hS (fun q _ h => hFc q h) hFc (fun r1 u t H1 locs ht hvm hw hB hz1 hk1 hS => ?_)
  obtain ⟨hP1, hK1, hD1⟩ := hB
  rw [ht] at hP1
  obtain ⟨hP, hD⟩ := va_join (wr := [(h0, .inr (11, [.int 0, .ref h1, .int 0, .int 0, .int 0, .int 0, .int 0, .int 0, .int 0, .int 0, .int 0, .int 0, .long 0, .int 0, .ref h2, .ref h3, .ref h4, .ref h5, .ref h6, .ref h7, .ref h8, .ref h9, .ref h10, .int 0, .int 0, .int 0, .int 0, .int (-1), .int (-1), .long 0, .long 0, .ref h11, .ref h12, .int 0, .int (-1), .int 0, .ref h13, .int 0, .ref h14, .ref h15, .int 0, .int 0, .ref h16, .int 0, .int 0, .int 0, .int 0]))]) (w1 := []) hP hD [] [0] rfl rfl (by decide) (by decide) hk1 hFc hP1 hD1
  generalize H1 = H at hP hS ⊢
  clear hPc hDc hKc hFc hP1 hD1 hK1 hk1 hz1
  have hP : va_P (dC, dI) vwCl [(h0, .inr (11, [.int 0, .ref h1, .int 0, .int 0, .int 0, .int 0, .int 0, .int 0, .int 0, .int 0, .int 0, .int 0, .long 0, .int 0, .ref h2, .ref h3, .ref h4, .ref h5, .ref h6, .ref h7, .ref h8, .ref h9, .ref h10, .int 0, .int 0, .int 0, .int 0, .int (-1), .int (-1), .long 0, .long 0, .ref h11, .ref h12, .int 0, .int (-1), .int 0, .ref h13, .int 0, .ref h14, .ref h15, .int 0, .int 0, .ref h16, .int 0, .int 0, .int 0, .int 0]))] H := hP
  have hD : va_D A [(h0, .inr (11, [.int 0, .ref h1, .int 0, .int 0, .int 0, .int 0, .int 0, .int 0, .int 0, .int 0, .int 0, .int 0, .long 0, .int 0, .ref h2, .ref h3, .ref h4, .ref h5, .ref h6, .ref h7, .ref h8, .ref h9, .ref h10, .int 0, .int 0, .int 0, .int 0, .int (-1), .int (-1), .long 0, .long 0, .ref h11, .ref h12, .int 0, .int (-1), .int 0, .ref h13, .int 0, .ref h14, .ref h15, .int 0, .int 0, .ref h16, .int 0, .int 0, .int 0, .int 0]))] := hD
  refine zz_top (v := 0) hw ?_
  refine lv_if_ne (tgt := 17) hx hb dX12_days_12 (by decide) (fun c2 => absurd (by decide) c2) (fun _ => ?_)
  refine lv_iconst (v := (-1)) hx hb dX12_days_15 (by decide) ?_
  have hP9 := hP.sub (ws' := []) [] rfl
  have hD9 := hD.sub (ws' := []) [] (by decide) rfl
  have hK9 := hK.sub (tys' := []) [] rfl
  refine W.widen (k := 0) (n := 0) (Nat.le_of_ble_eq_true rfl) (Nat.le_of_ble_eq_true rfl) ?_
  exact W.iret (v := (-1)) hx hb hr (fun t ht hW => ⟨⟨(-1), (), rfl, rfl, by rw [ht]; exact hP9, va_K.moved hW.alike hK9, hD9⟩, hS.F ht⟩) hS.2.2 dX12_days_16
set_option maxHeartbeats 4000000 in
set_option maxRecDepth 100000 in
theorem k_X12_isIn_6 (l : Launch) (dC : Nat → ClassId) (dI : Nat → Nat → Nat) (ad : Nat → Nat) (p0 : Int32) (sz : Nat) (e0_0 : 30 < p0) : Met l yX12_isIn wsX12_isIn ({ frames := 0, cells := 0, slots := 0, locals := 0 }) (va_Pc [.int p0, .int 1, .int 30] (CP (dC, dI) [] [] sz ad)) (va_Qi (fun (r : Int32) (_ : Unit) => r = 0) (fun (_ : Unit) (t : State) => CQ (dC, dI) [] [] (va_A [] sz) t) (va_A [] sz)) 0 0 (va_A [] sz) := by
  refine Met.ofW (cc := cX12_isIn) (maxL := 3) (ret := (some .boolean)) (by decide) rfl ?_
  intro p e s m args below meth c s₁ B hml hv
  obtain ⟨rfl, hsz, hP, hK, hD0, hE⟩ := hv
  have hx := B.exec
  have hb := B.bytes
  have hr := B.returns
  have hts := atoms_spec (ws := wsX12_isIn) B.pre
  have hown : s.vm.findClass RX12 = some m.cls := findClass_of_methodNamed B.named
  have hlocks := B.notSynchronized
  subst hsz
  have hD := hD0.self (sz := s.heap.size)
  generalize hAe : va_A [] s.heap.size = A at hD hE ⊢
  have hA : ∀ q : Nat, s.heap.size ≤ q → A q := fun q h => by rw [← hAe]; exact Or.inr h
  have hS : va_S A s.heap s.heap [] := va_S.rf
  have hl := lv_entry ([.int p0, .int 1, .int 30]) (n := 3) (Nat.le_of_ble_eq_true rfl)
  rw [lg_entry_eq]
  generalize (lg_sl ([.int p0, .int 1, .int 30]) ++ List.replicate (3 - (lg_sl ([.int p0, .int 1, .int 30])).length) Slot.unset).toArray = ls at hl ⊢
  have hl : lv_has ls 3 [(0, .int p0), (1, .int 1), (2, .int 30)] := hl
  refine lv_iload_n hx hb dX12_isIn_0 rfl (lv_at hl 0 rfl) ?_
  refine lv_iload_n hx hb dX12_isIn_1 rfl (lv_at hl 1 rfl) ?_
  refine lv_icmp_lt (tgt := 14) hx hb dX12_isIn_2 (by decide) (fun c1 => ?_) (fun _ => ?_)
  · exfalso; clear hP hD hK hS hE; simp only [Int32.lt_iff_toInt_lt, Int32.le_iff_toInt_le, ← Int32.toInt_inj, Int32.reduceToInt] at e0_0 c1; omega
  refine lv_iload_n hx hb dX12_isIn_5 rfl (lv_at hl 0 rfl) ?_
  refine lv_iload_n hx hb dX12_isIn_6 rfl (lv_at hl 2 rfl) ?_
  refine lv_icmp_gt (tgt := 14) hx hb dX12_isIn_7 (by decide) (fun _ => ?_) (fun c2 => ?_)
  rotate_left
  · exfalso; clear hP hD hK hS hE; simp only [Int32.lt_iff_toInt_lt, Int32.le_iff_toInt_le, ← Int32.toInt_inj, Int32.reduceToInt] at e0_0 c2; omega
  refine lv_iconst (v := 0) hx hb dX12_isIn_14 (by decide) ?_
  have hP9 := hP.sub (ws' := []) [] rfl
  have hD9 := hD.sub (ws' := []) [] (by decide) rfl
  have hK9 := hK.sub (tys' := []) [] rfl
  refine W.widen (k := 0) (n := 0) (Nat.le_of_ble_eq_true rfl) (Nat.le_of_ble_eq_true rfl) ?_
  exact W.zret (v := 0) hx hb hr rfl (fun t ht hW => ⟨⟨0, (), rfl, rfl, by rw [ht]; exact hP9, va_K.moved hW.alike hK9, hD9⟩, hS.F ht⟩) hS.2.2 dX12_isIn_15
set_option maxHeartbeats 4000000 in
set_option maxRecDepth 100000 in
theorem k_X12_days_1 (l : Launch) (dC : Nat → ClassId) (dI : Nat → Nat → Nat) (ad : Nat → Nat) (h0 h1 h2 h3 h4 h5 h6 h7 h8 h9 h10 h11 h12 h13 h14 h15 h16 : Nat) (p0 p1 : Int32) (sz : Nat) (e0_0 : 30 < p0) : Met l yX12_days wsX12_days ({ frames := 1, cells := 0, slots := 0, locals := 22 }) (va_Pc [.ref h0, .int p0, .int p1] (CP (dC, dI) [(h0, .inr (11, [.int 0, .ref h1, .int 0, .int 0, .int 0, .int 0, .int 0, .int 0, .int 0, .int 0, .int 0, .int 0, .long 0, .int 0, .ref h2, .ref h3, .ref h4, .ref h5, .ref h6, .ref h7, .ref h8, .ref h9, .ref h10, .int 0, .int 0, .int 0, .int 0, .int (-1), .int (-1), .long 0, .long 0, .ref h11, .ref h12, .int 0, .int (-1), .int 0, .ref h13, .int 0, .ref h14, .ref h15, .int 0, .int 0, .ref h16, .int 0, .int 0, .int 0, .int 0]))] [] sz ad)) (va_Qi (fun (r : Int32) (_ : Unit) => r = (-1)) (fun (_ : Unit) (t : State) => CQ (dC, dI) [] [] (va_A [(h0, .inr (11, [.int 0, .ref h1, .int 0, .int 0, .int 0, .int 0, .int 0, .int 0, .int 0, .int 0, .int 0, .int 0, .long 0, .int 0, .ref h2, .ref h3, .ref h4, .ref h5, .ref h6, .ref h7, .ref h8, .ref h9, .ref h10, .int 0, .int 0, .int 0, .int 0, .int (-1), .int (-1), .long 0, .long 0, .ref h11, .ref h12, .int 0, .int (-1), .int 0, .ref h13, .int 0, .ref h14, .ref h15, .int 0, .int 0, .ref h16, .int 0, .int 0, .int 0, .int 0]))] sz) t) (va_A [(h0, .inr (11, [.int 0, .ref h1, .int 0, .int 0, .int 0, .int 0, .int 0, .int 0, .int 0, .int 0, .int 0, .int 0, .long 0, .int 0, .ref h2, .ref h3, .ref h4, .ref h5, .ref h6, .ref h7, .ref h8, .ref h9, .ref h10, .int 0, .int 0, .int 0, .int 0, .int (-1), .int (-1), .long 0, .long 0, .ref h11, .ref h12, .int 0, .int (-1), .int 0, .ref h13, .int 0, .ref h14, .ref h15, .int 0, .int 0, .ref h16, .int 0, .int 0, .int 0, .int 0]))] sz)) 0 0 (va_A [(h0, .inr (11, [.int 0, .ref h1, .int 0, .int 0, .int 0, .int 0, .int 0, .int 0, .int 0, .int 0, .int 0, .int 0, .long 0, .int 0, .ref h2, .ref h3, .ref h4, .ref h5, .ref h6, .ref h7, .ref h8, .ref h9, .ref h10, .int 0, .int 0, .int 0, .int 0, .int (-1), .int (-1), .long 0, .long 0, .ref h11, .ref h12, .int 0, .int (-1), .int 0, .ref h13, .int 0, .ref h14, .ref h15, .int 0, .int 0, .ref h16, .int 0, .int 0, .int 0, .int 0]))] sz) := by
  refine Met.ofW (cc := cX12_days) (maxL := 3) (ret := (some .int)) (by decide) rfl ?_
  intro p e s m args below meth c s₁ B hml hv
  obtain ⟨rfl, hsz, hP, hK, hD0, hE⟩ := hv
  have hx := B.exec
  have hb := B.bytes
  have hr := B.returns
  have hts := atoms_spec (ws := wsX12_days) B.pre
  have hown : s.vm.findClass RX12 = some m.cls := findClass_of_methodNamed B.named
  have hlocks := B.notSynchronized
  subst hsz
  have hD := hD0.self (sz := s.heap.size)
  generalize hAe : va_A [(h0, .inr (11, [.int 0, .ref h1, .int 0, .int 0, .int 0, .int 0, .int 0, .int 0, .int 0, .int 0, .int 0, .int 0, .long 0, .int 0, .ref h2, .ref h3, .ref h4, .ref h5, .ref h6, .ref h7, .ref h8, .ref h9, .ref h10, .int 0, .int 0, .int 0, .int 0, .int (-1), .int (-1), .long 0, .long 0, .ref h11, .ref h12, .int 0, .int (-1), .int 0, .ref h13, .int 0, .ref h14, .ref h15, .int 0, .int 0, .ref h16, .int 0, .int 0, .int 0, .int 0]))] s.heap.size = A at hD hE ⊢
  have hA : ∀ q : Nat, s.heap.size ≤ q → A q := fun q h => by rw [← hAe]; exact Or.inr h
  have hS : va_S A s.heap s.heap [] := va_S.rf
  have hl := lv_entry ([.ref h0, .int p0, .int p1]) (n := 3) (Nat.le_of_ble_eq_true rfl)
  rw [lg_entry_eq]
  generalize (lg_sl ([.ref h0, .int p0, .int p1]) ++ List.replicate (3 - (lg_sl ([.ref h0, .int p0, .int p1])).length) Slot.unset).toArray = ls at hl ⊢
  have hl : lv_has ls 3 [(0, .ref h0), (1, .int p0), (2, .int p1)] := hl
  refine lv_aload_n hx hb dX12_days_0 rfl (lv_at hl 0 rfl) ?_
  refine lv_iconst (v := 0) hx hb dX12_days_1 (by decide) ?_
  refine va_put (D := (dC, dI)) (ci := 11) (v := .int 0) (ty := .int) (C := RX12) (T := TX12) (N := 47) hx hb hts ii_X12_days_X12 tyX12 tyX12_ok nmX12 hown hK hP hD hS 0 rfl rfl 0 (by decide) (hts _ mm_X12_days_1) (fun _ h9 => h9) rfl (by decide +kernel) rfl rfl (Nat.le_of_ble_eq_true rfl) dX12_days_2 (fun H locs hP hD hS => ?_)
  have hP : va_P (dC, dI) vwCl [(h0, .inr (11, [.int 0, .ref h1, .int 0, .int 0, .int 0, .int 0, .int 0, .int 0, .int 0, .int 0, .int 0, .int 0, .long 0, .int 0, .ref h2, .ref h3, .ref h4, .ref h5, .ref h6, .ref h7, .ref h8, .ref h9, .ref h10, .int 0, .int 0, .int 0, .int 0, .int (-1), .int (-1), .long 0, .long 0, .ref h11, .ref h12, .int 0, .int (-1), .int 0, .ref h13, .int 0, .ref h14, .ref h15, .int 0, .int 0, .ref h16, .int 0, .int 0, .int 0, .int 0]))] H := hP
  have hD : va_D A [(h0, .inr (11, [.int 0, .ref h1, .int 0, .int 0, .int 0, .int 0, .int 0, .int 0, .int 0, .int 0, .int 0, .int 0, .long 0, .int 0, .ref h2, .ref h3, .ref h4, .ref h5, .ref h6, .ref h7, .ref h8, .ref h9, .ref h10, .int 0, .int 0, .int 0, .int 0, .int (-1), .int (-1), .long 0, .long 0, .ref h11, .ref h12, .int 0, .int (-1), .int 0, .ref h13, .int 0, .ref h14, .ref h15, .int 0, .int 0, .ref h16, .int 0, .int 0, .int 0, .int 0]))] := hD
  refine lv_iload_n hx hb dX12_days_5 rfl (lv_at hl 1 rfl) ?_
  refine lv_iconst (v := 1) hx hb dX12_days_6 (by decide) ?_
  refine lv_bipush (v := 30) hx hb dX12_days_7 (by decide) ?_
  have hPc := hP.sub (ws' := []) [] rfl
  have hDc := hD.sub (ws' := []) [] (by decide) rfl
  have hKc := hK.sub (tys' := []) [] rfl
  have hFc := va_free (wc := []) hD hS hA [] rfl
  refine va_calli (va_runS (As := [.int p0, .int 1, .int 30]) (rest := []) ⟨hx, hb, hml, hown, hts⟩ (k_X12_isIn_6 l dC dI ad p0 H.size (by clear hP hD hK hS hE hPc hDc hKc hFc; simp only [Int32.lt_iff_toInt_lt, Int32.le_iff_toInt_le, ← Int32.toInt_inj, Int32.reduceToInt] at e0_0 ⊢; omega)) (va_cwS 3 hts gX12_days_X12_isIn rfl rfl rfl (by decide +kernel) ⟨Nat.le_of_ble_eq_true rfl, Nat.le_of_ble_eq_true rfl⟩) ⟨fun a U g mk q => ⟨q.1, CP.blind q.2⟩, fun U hU hW => ⟨rfl, CP.of hPc hKc hDc hE hS hFc hU hW⟩⟩ rfl rfl hl.1 rfl (lv_room (Nat.le_of_ble_eq_true rfl)) dX12_days_9 ⟨Nat.le_of_ble_eq_true rfl, Nat.le_of_ble_eq_true rfl⟩) hS (fun q _ h => hFc q h) hFc (fun r1 u t H1 locs ht hvm hw hB hz1 hk1 hS => ?_)
  obtain ⟨hP1, hK1, hD1⟩ := hB
  rw [ht] at hP1
  obtain ⟨hP, hD⟩ := va_join (wr := [(h0, .inr (11, [.int 0, .ref h1, .int 0, .int 0, .int 0, .int 0, .int 0, .int 0, .int 0, .int 0, .int 0, .int 0, .long 0, .int 0, .ref h2, .ref h3, .ref h4, .ref h5, .ref h6, .ref h7, .ref h8, .ref h9, .ref h10, .int 0, .int 0, .int 0, .int 0, .int (-1), .int (-1), .long 0, .long 0, .ref h11, .ref h12, .int 0, .int (-1), .int 0, .ref h13, .int 0, .ref h14, .ref h15, .int 0, .int 0, .ref h16, .int 0, .int 0, .int 0, .int 0]))]) (w1 := []) hP hD [] [0] rfl rfl (by decide) (by decide) hk1 hFc hP1 hD1
  generalize H1 = H at hP hS ⊢
  clear hPc hDc hKc hFc hP1 hD1 hK1 hk1 hz1
  have hP : va_P (dC, dI) vwCl [(h0, .inr (11, [.int 0, .ref h1, .int 0, .int 0, .int 0, .int 0, .int 0, .int 0, .int 0, .int 0, .int 0, .int 0, .long 0, .int 0, .ref h2, .ref h3, .ref h4, .ref h5, .ref h6, .ref h7, .ref h8, .ref h9, .ref h10, .int 0, .int 0, .int 0, .int 0, .int (-1), .int (-1), .long 0, .long 0, .ref h11, .ref h12, .int 0, .int (-1), .int 0, .ref h13, .int 0, .ref h14, .ref h15, .int 0, .int 0, .ref h16, .int 0, .int 0, .int 0, .int 0]))] H := hP
  have hD : va_D A [(h0, .inr (11, [.int 0, .ref h1, .int 0, .int 0, .int 0, .int 0, .int 0, .int 0, .int 0, .int 0, .int 0, .int 0, .long 0, .int 0, .ref h2, .ref h3, .ref h4, .ref h5, .ref h6, .ref h7, .ref h8, .ref h9, .ref h10, .int 0, .int 0, .int 0, .int 0, .int (-1), .int (-1), .long 0, .long 0, .ref h11, .ref h12, .int 0, .int (-1), .int 0, .ref h13, .int 0, .ref h14, .ref h15, .int 0, .int 0, .ref h16, .int 0, .int 0, .int 0, .int 0]))] := hD
  refine zz_top (v := 0) hw ?_
  refine lv_if_ne (tgt := 17) hx hb dX12_days_12 (by decide) (fun c2 => absurd (by decide) c2) (fun _ => ?_)
  refine lv_iconst (v := (-1)) hx hb dX12_days_15 (by decide) ?_
  have hP9 := hP.sub (ws' := []) [] rfl
  have hD9 := hD.sub (ws' := []) [] (by decide) rfl
  have hK9 := hK.sub (tys' := []) [] rfl
  refine W.widen (k := 0) (n := 0) (Nat.le_of_ble_eq_true rfl) (Nat.le_of_ble_eq_true rfl) ?_
  exact W.iret (v := (-1)) hx hb hr (fun t ht hW => ⟨⟨(-1), (), rfl, rfl, by rw [ht]; exact hP9, va_K.moved hW.alike hK9, hD9⟩, hS.F ht⟩) hS.2.2 dX12_days_16
set_option maxHeartbeats 4000000 in
set_option maxRecDepth 100000 in
theorem k_X12_isIn_7 (l : Launch) (dC : Nat → ClassId) (dI : Nat → Nat → Nat) (ad : Nat → Nat) (N0 : Nat) (sz : Nat) (hN0a : 1 ≤ N0) (hN0b : N0 < 31) : Met l yX12_isIn wsX12_isIn ({ frames := 0, cells := 0, slots := 0, locals := 0 }) (va_Pc [.int (nI N0), .int 1, .int 30] (CP (dC, dI) [] [] sz ad)) (va_Qi (fun (r : Int32) (_ : Unit) => r = 1) (fun (_ : Unit) (t : State) => CQ (dC, dI) [] [] (va_A [] sz) t) (va_A [] sz)) 0 0 (va_A [] sz) := by
  refine Met.ofW (cc := cX12_isIn) (maxL := 3) (ret := (some .boolean)) (by decide) rfl ?_
  intro p e s m args below meth c s₁ B hml hv
  obtain ⟨rfl, hsz, hP, hK, hD0, hE⟩ := hv
  have hx := B.exec
  have hb := B.bytes
  have hr := B.returns
  have hts := atoms_spec (ws := wsX12_isIn) B.pre
  have hown : s.vm.findClass RX12 = some m.cls := findClass_of_methodNamed B.named
  have hlocks := B.notSynchronized
  subst hsz
  have hD := hD0.self (sz := s.heap.size)
  generalize hAe : va_A [] s.heap.size = A at hD hE ⊢
  have hA : ∀ q : Nat, s.heap.size ≤ q → A q := fun q h => by rw [← hAe]; exact Or.inr h
  have hS : va_S A s.heap s.heap [] := va_S.rf
  have hl := lv_entry ([.int (nI N0), .int 1, .int 30]) (n := 3) (Nat.le_of_ble_eq_true rfl)
  rw [lg_entry_eq]
  generalize (lg_sl ([.int (nI N0), .int 1, .int 30]) ++ List.replicate (3 - (lg_sl ([.int (nI N0), .int 1, .int 30])).length) Slot.unset).toArray = ls at hl ⊢
  have hl : lv_has ls 3 [(0, .int (nI N0)), (1, .int 1), (2, .int 30)] := hl
  refine lv_iload_n hx hb dX12_isIn_0 rfl (lv_at hl 0 rfl) ?_
  refine lv_iload_n hx hb dX12_isIn_1 rfl (lv_at hl 1 rfl) ?_
  refine lv_icmp_lt (tgt := 14) hx hb dX12_isIn_2 (by decide) (fun c9 => absurd c9 (nI_nlt (a := N0) (b := 1) (by omega) (by omega))) (fun _ => ?_)
  refine lv_iload_n hx hb dX12_isIn_5 rfl (lv_at hl 0 rfl) ?_
  refine lv_iload_n hx hb dX12_isIn_6 rfl (lv_at hl 2 rfl) ?_
  refine lv_icmp_gt (tgt := 14) hx hb dX12_isIn_7 (by decide) (fun c9 => absurd c9 (nI_nlt (a := 30) (b := N0) (by omega) (by omega))) (fun _ => ?_)
  refine lv_iconst (v := 1) hx hb dX12_isIn_10 (by decide) ?_
  refine lv_goto (tgt := 15) hx hb dX12_isIn_11 (by decide) ?_
  have hP9 := hP.sub (ws' := []) [] rfl
  have hD9 := hD.sub (ws' := []) [] (by decide) rfl
  have hK9 := hK.sub (tys' := []) [] rfl
  refine W.widen (k := 0) (n := 0) (Nat.le_of_ble_eq_true rfl) (Nat.le_of_ble_eq_true rfl) ?_
  exact W.zret (v := 1) hx hb hr rfl (fun t ht hW => ⟨⟨1, (), rfl, rfl, by rw [ht]; exact hP9, va_K.moved hW.alike hK9, hD9⟩, hS.F ht⟩) hS.2.2 dX12_isIn_15
set_option maxHeartbeats 4000000 in
set_option maxRecDepth 100000 in
theorem k_X12_least (l : Launch) (dC : Nat → ClassId) (dI : Nat → Nat → Nat) (ad : Nat → Nat) (N0 : Nat) (sz : Nat) (hN0a : 1 ≤ N0) (hN0b : N0 < 31) : Met l yX12_least wsX12_least ({ frames := 0, cells := 0, slots := 0, locals := 0 }) (va_Pc [.int (nI N0), .int 400] (CP (dC, dI) [] [] sz ad)) (va_Qi (fun (r : Int32) (_ : Unit) => r = (nI N0)) (fun (_ : Unit) (t : State) => CQ (dC, dI) [] [] (va_A [] sz) t) (va_A [] sz)) 0 0 (va_A [] sz) := by
  refine Met.ofW (cc := cX12_least) (maxL := 2) (ret := (some .int)) (by decide) rfl ?_
  intro p e s m args below meth c s₁ B hml hv
  obtain ⟨rfl, hsz, hP, hK, hD0, hE⟩ := hv
  have hx := B.exec
  have hb := B.bytes
  have hr := B.returns
  have hts := atoms_spec (ws := wsX12_least) B.pre
  have hown : s.vm.findClass RX12 = some m.cls := findClass_of_methodNamed B.named
  have hlocks := B.notSynchronized
  subst hsz
  have hD := hD0.self (sz := s.heap.size)
  generalize hAe : va_A [] s.heap.size = A at hD hE ⊢
  have hA : ∀ q : Nat, s.heap.size ≤ q → A q := fun q h => by rw [← hAe]; exact Or.inr h
  have hS : va_S A s.heap s.heap [] := va_S.rf
  have hl := lv_entry ([.int (nI N0), .int 400]) (n := 2) (Nat.le_of_ble_eq_true rfl)
  rw [lg_entry_eq]
  generalize (lg_sl ([.int (nI N0), .int 400]) ++ List.replicate (2 - (lg_sl ([.int (nI N0), .int 400])).length) Slot.unset).toArray = ls at hl ⊢
  have hl : lv_has ls 2 [(0, .int (nI N0)), (1, .int 400)] := hl
  refine lv_iload_n hx hb dX12_least_0 rfl (lv_at hl 0 rfl) ?_
  refine lv_iload_n hx hb dX12_least_1 rfl (lv_at hl 1 rfl) ?_
  refine lv_icmp_ge (tgt := 9) hx hb dX12_least_2 (by decide) (fun c9 => absurd c9 (nI_ge (a := N0) (b := 400) (by omega) (by omega))) (fun _ => ?_)
  refine lv_iload_n hx hb dX12_least_5 rfl (lv_at hl 0 rfl) ?_
  refine lv_goto (tgt := 10) hx hb dX12_least_6 (by decide) ?_
  have hP9 := hP.sub (ws' := []) [] rfl
  have hD9 := hD.sub (ws' := []) [] (by decide) rfl
  have hK9 := hK.sub (tys' := []) [] rfl
  refine W.widen (k := 0) (n := 0) (Nat.le_of_ble_eq_true rfl) (Nat.le_of_ble_eq_true rfl) ?_
  exact W.iret (v := (nI N0)) hx hb hr (fun t ht hW => ⟨⟨(nI N0), (), rfl, rfl, by rw [ht]; exact hP9, va_K.moved hW.alike hK9, hD9⟩, hS.F ht⟩) hS.2.2 dX12_least_10
set_option maxHeartbeats 4000000 in
set_option maxRecDepth 100000 in
theorem k_X12_oneDay (l : Launch) (dC : Nat → ClassId) (dI : Nat → Nat → Nat) (ad : Nat → Nat) (h0 h1 h2 h3 h4 h5 h6 h7 h8 h9 h10 h11 h12 h13 h14 h15 h16 : Nat) (p0 : Int32) (w0 : ClassId) (N0 : Nat) (sz : Nat) (hN0a : 0 ≤ N0) (hN0b : N0 < 30) : Met l yX12_oneDay wsX12_oneDay ({ frames := 0, cells := 0, slots := 0, locals := 0 }) (va_Pc [.ref h0] (CP (dC, dI) [(h0, .inr (11, [.int 0, .ref h1, .int 0, .int 0, .int 0, .int 0, .int 0, .int 0, .int 0, .int 0, .int 0, .int 0, .long 0, .int 0, .ref h2, .ref h3, .ref h4, .ref h5, .ref h6, .ref h7, .ref h8, .ref h9, .ref h10, .int 1, .int 0, .int p0, .int 0, .int (-1), .int (-1), .long 0, .long 0, .ref h11, .ref h12, .int 0, .int (-1), .int 0, .ref h13, .int 0, .ref h14, .ref h15, .int 0, .int 0, .ref h16, .int 0, .int 0, .int 0, .int 0])), (h2, .inl (w0, 373, .inl (upd (upd (upd (fun _ => 0) 60 2) 62 2) 61 (nI N0))))] [(w0, .int)] sz ad)) (va_Qv (fun _ : Unit => True) (fun (_ : Unit) (t : State) => CQ (dC, dI) [(h0, .inr (11, [.int 0, .ref h1, .int 0, .int 0, .int 0, .int 0, .int 0, .int 0, .int 0, .int 0, .int 0, .int 0, .long 0, .int 0, .ref h2, .ref h3, .ref h4, .ref h5, .ref h6, .ref h7, .ref h8, .ref h9, .ref h10, .int 1, .int 0, .int p0, .int 0, .int (-1), .int (-1), .long 0, .long 0, .ref h11, .ref h12, .int 0, .int (-1), .int 0, .ref h13, .int 0, .ref h14, .ref h15, .int 0, .int 0, .ref h16, .int 0, .int 0, .int 0, .int 0])), (h2, .inl (w0, 373, .inl (upd (upd (upd (fun _ => 0) 60 2) 62 2) 61 (nI (N0 + 1)))))] [] (va_A [(h0, .inr (11, [.int 0, .ref h1, .int 0, .int 0, .int 0, .int 0, .int 0, .int 0, .int 0, .int 0, .int 0, .int 0, .long 0, .int 0, .ref h2, .ref h3, .ref h4, .ref h5, .ref h6, .ref h7, .ref h8, .ref h9, .ref h10, .int 1, .int 0, .int p0, .int 0, .int (-1), .int (-1), .long 0, .long 0, .ref h11, .ref h12, .int 0, .int (-1), .int 0, .ref h13, .int 0, .ref h14, .ref h15, .int 0, .int 0, .ref h16, .int 0, .int 0, .int 0, .int 0])), (h2, .inl (w0, 373, .inl (upd (upd (upd (fun _ => 0) 60 2) 62 2) 61 (nI N0))))] sz) t) (va_A [(h0, .inr (11, [.int 0, .ref h1, .int 0, .int 0, .int 0, .int 0, .int 0, .int 0, .int 0, .int 0, .int 0, .int 0, .long 0, .int 0, .ref h2, .ref h3, .ref h4, .ref h5, .ref h6, .ref h7, .ref h8, .ref h9, .ref h10, .int 1, .int 0, .int p0, .int 0, .int (-1), .int (-1), .long 0, .long 0, .ref h11, .ref h12, .int 0, .int (-1), .int 0, .ref h13, .int 0, .ref h14, .ref h15, .int 0, .int 0, .ref h16, .int 0, .int 0, .int 0, .int 0])), (h2, .inl (w0, 373, .inl (upd (upd (upd (fun _ => 0) 60 2) 62 2) 61 (nI N0))))] sz)) 0 0 (va_A [(h0, .inr (11, [.int 0, .ref h1, .int 0, .int 0, .int 0, .int 0, .int 0, .int 0, .int 0, .int 0, .int 0, .int 0, .long 0, .int 0, .ref h2, .ref h3, .ref h4, .ref h5, .ref h6, .ref h7, .ref h8, .ref h9, .ref h10, .int 1, .int 0, .int p0, .int 0, .int (-1), .int (-1), .long 0, .long 0, .ref h11, .ref h12, .int 0, .int (-1), .int 0, .ref h13, .int 0, .ref h14, .ref h15, .int 0, .int 0, .ref h16, .int 0, .int 0, .int 0, .int 0])), (h2, .inl (w0, 373, .inl (upd (upd (upd (fun _ => 0) 60 2) 62 2) 61 (nI N0))))] sz) := by
  refine Met.ofW (cc := cX12_oneDay) (maxL := 3) (ret := none) (by decide) rfl ?_
  intro p e s m args below meth c s₁ B hml hv
  obtain ⟨rfl, hsz, hP, hK, hD0, hE⟩ := hv
  have hx := B.exec
  have hb := B.bytes
  have hr := B.returns
  have hts := atoms_spec (ws := wsX12_oneDay) B.pre
  have hown : s.vm.findClass RX12 = some m.cls := findClass_of_methodNamed B.named
  have hlocks := B.notSynchronized
  subst hsz
  have hD := hD0.self (sz := s.heap.size)
  generalize hAe : va_A [(h0, .inr (11, [.int 0, .ref h1, .int 0, .int 0, .int 0, .int 0, .int 0, .int 0, .int 0, .int 0, .int 0, .int 0, .long 0, .int 0, .ref h2, .ref h3, .ref h4, .ref h5, .ref h6, .ref h7, .ref h8, .ref h9, .ref h10, .int 1, .int 0, .int p0, .int 0, .int (-1), .int (-1), .long 0, .long 0, .ref h11, .ref h12, .int 0, .int (-1), .int 0, .ref h13, .int 0, .ref h14, .ref h15, .int 0, .int 0, .ref h16, .int 0, .int 0, .int 0, .int 0])), (h2, .inl (w0, 373, .inl (upd (upd (upd (fun _ => 0) 60 2) 62 2) 61 (nI N0))))] s.heap.size = A at hD hE ⊢
  have hA : ∀ q : Nat, s.heap.size ≤ q → A q := fun q h => by rw [← hAe]; exact Or.inr h
  have hS : va_S A s.heap s.heap [] := va_S.rf
  have hl := lv_entry ([.ref h0]) (n := 3) (Nat.le_of_ble_eq_true rfl)
  rw [lg_entry_eq]
  generalize (lg_sl ([.ref h0]) ++ List.replicate (3 - (lg_sl ([.ref h0])).length) Slot.unset).toArray = ls at hl ⊢
  have hl : lv_has ls 3 [(0, .ref h0)] := hl
  refine lv_aload_n hx hb dX12_oneDay_0 rfl (lv_at hl 0 rfl) ?_
  refine lv_iconst (v := 0) hx hb dX12_oneDay_1 (by decide) ?_
  refine va_put (D := (dC, dI)) (ci := 11) (v := .int 0) (ty := .int) (C := RX12) (T := TX12) (N := 47) hx hb hts ii_X12_oneDay_X12 tyX12 tyX12_ok nmX12 hown hK hP hD hS 0 rfl rfl 26 (by decide) (hts _ mm_X12_oneDay_1) (fun _ h9 => h9) rfl (by decide +kernel) rfl rfl (Nat.le_of_ble_eq_true rfl) dX12_oneDay_2 (fun H locs hP hD hS => ?_)
  have hP : va_P (dC, dI) vwCl [(h0, .inr (11, [.int 0, .ref h1, .int 0, .int 0, .int 0, .int 0, .int 0, .int 0, .int 0, .int 0, .int 0, .int 0, .long 0, .int 0, .ref h2, .ref h3, .ref h4, .ref h5, .ref h6, .ref h7, .ref h8, .ref h9, .ref h10, .int 1, .int 0, .int p0, .int 0, .int (-1), .int (-1), .long 0, .long 0, .ref h11, .ref h12, .int 0, .int (-1), .int 0, .ref h13, .int 0, .ref h14, .ref h15, .int 0, .int 0, .ref h16, .int 0, .int 0, .int 0, .int 0])), (h2, .inl (w0, 373, .inl (upd (upd (upd (fun _ => 0) 60 2) 62 2) 61 (nI N0))))] H := hP
  have hD : va_D A [(h0, .inr (11, [.int 0, .ref h1, .int 0, .int 0, .int 0, .int 0, .int 0, .int 0, .int 0, .int 0, .int 0, .int 0, .long 0, .int 0, .ref h2, .ref h3, .ref h4, .ref h5, .ref h6, .ref h7, .ref h8, .ref h9, .ref h10, .int 1, .int 0, .int p0, .int 0, .int (-1), .int (-1), .long 0, .long 0, .ref h11, .ref h12, .int 0, .int (-1), .int 0, .ref h13, .int 0, .ref h14, .ref h15, .int 0, .int 0, .ref h16, .int 0, .int 0, .int 0, .int 0])), (h2, .inl (w0, 373, .inl (upd (upd (upd (fun _ => 0) 60 2) 62 2) 61 (nI N0))))] := hD
  refine lv_iconst (v := 0) hx hb dX12_oneDay_5 (by decide) ?_
  refine lv_istore_n (lv' := [(1, .int 0), (0, .ref h0)]) hx hb dX12_oneDay_6 rfl hl (by decide) rfl (fun ls hl => ?_)
  refine lv_iload_n hx hb dX12_oneDay_7 rfl (lv_at hl 0 rfl) ?_
  refine lv_bipush (v := 24) hx hb dX12_oneDay_8 (by decide) ?_
  refine lv_icmp_ge (tgt := 43) hx hb dX12_oneDay_10 (by decide) (fun c1 => absurd c1 (by decide)) (fun _ => ?_)
  refine lv_iconst (v := 0) hx hb dX12_oneDay_13 (by decide) ?_
  refine lv_istore_n (lv' := [(2, .int 0), (1, .int 0), (0, .ref h0)]) hx hb dX12_oneDay_14 rfl hl (by decide) rfl (fun ls hl => ?_)
  refine lv_iload_n hx hb dX12_oneDay_15 rfl (lv_at hl 0 rfl) ?_
  refine lv_aload_n hx hb dX12_oneDay_16 rfl (lv_at hl 2 rfl) ?_
  refine va_get (D := (dC, dI)) (ci := 11) (v := .ref h2) (C := RX12) (T := TX12) (N := 47) hx hb hts ii_X12_oneDay_X12 hown hK hP 0 rfl rfl 14 (by decide) (hts _ mm_X12_oneDay_2) (fun _ h9 => h9) rfl dX12_oneDay_17 ?_
  refine lv_iconst (v := 2) hx hb dX12_oneDay_20 (by decide) ?_
  refine va_iald hx hb hK hP 1 0 rfl rfl (i := 2) (zz_in (by decide)) dX12_oneDay_21 ?_
  refine zz_top (v := 0) (by rfl) ?_
  refine lv_icmp_ge (tgt := 37) hx hb dX12_oneDay_22 (by decide) (fun _ => ?_) (fun c2 => absurd (by decide) c2)
  refine lv_iinc (v := 1) (lv' := [(1, .int 1), (2, .int 0), (0, .ref h0)]) hx hb dX12_oneDay_37 hl (k := 1) rfl (by decide) (by decide) rfl (fun ls hl => ?_)
  refine lv_goto (tgt := 7) hx hb dX12_oneDay_40 (by decide) ?_
  refine lv_iload_n hx hb dX12_oneDay_7 rfl (lv_at hl 0 rfl) ?_
  refine lv_bipush (v := 24) hx hb dX12_oneDay_8 (by decide) ?_
  refine lv_icmp_ge (tgt := 43) hx hb dX12_oneDay_10 (by decide) (fun c3 => absurd c3 (by decide)) (fun _ => ?_)
  refine lv_iconst (v := 0) hx hb dX12_oneDay_13 (by decide) ?_
  refine lv_istore_n (lv' := [(2, .int 0), (1, .int 1), (0, .ref h0)]) hx hb dX12_oneDay_14 rfl hl (by decide) rfl (fun ls hl => ?_)
  refine lv_iload_n hx hb dX12_oneDay_15 rfl (lv_at hl 0 rfl) ?_
  refine lv_aload_n hx hb dX12_oneDay_16 rfl (lv_at hl 2 rfl) ?_
  refine va_get (D := (dC, dI)) (ci := 11) (v := .ref h2) (C := RX12) (T := TX12) (N := 47) hx hb hts ii_X12_oneDay_X12 hown hK hP 0 rfl rfl 14 (by decide) (hts _ mm_X12_oneDay_2) (fun _ h9 => h9) rfl dX12_oneDay_17 ?_
  refine lv_iconst (v := 2) hx hb dX12_oneDay_20 (by decide) ?_
  refine va_iald hx hb hK hP 1 0 rfl rfl (i := 2) (zz_in (by decide)) dX12_oneDay_21 ?_
  refine zz_top (v := 0) (by rfl) ?_
  refine lv_icmp_ge (tgt := 37) hx hb dX12_oneDay_22 (by decide) (fun _ => ?_) (fun c4 => absurd (by decide) c4)
  refine lv_iinc (v := 2) (lv' := [(1, .int 2), (2, .int 0), (0, .ref h0)]) hx hb dX12_oneDay_37 hl (k := 1) rfl (by decide) (by decide) rfl (fun ls hl => ?_)
  refine lv_goto (tgt := 7) hx hb dX12_oneDay_40 (by decide) ?_
  refine lv_iload_n hx hb dX12_oneDay_7 rfl (lv_at hl 0 rfl) ?_
  refine lv_bipush (v := 24) hx hb dX12_oneDay_8 (by decide) ?_
  refine lv_icmp_ge (tgt := 43) hx hb dX12_oneDay_10 (by decide) (fun c5 => absurd c5 (by decide)) (fun _ => ?_)
  refine lv_iconst (v := 0) hx hb dX12_oneDay_13 (by decide) ?_
  refine lv_istore_n (lv' := [(2, .int 0), (1, .int 2), (0, .ref h0)]) hx hb dX12_oneDay_14 rfl hl (by decide) rfl (fun ls hl => ?_)
  refine lv_iload_n hx hb dX12_oneDay_15 rfl (lv_at hl 0 rfl) ?_
  refine lv_aload_n hx hb dX12_oneDay_16 rfl (lv_at hl 2 rfl) ?_
  refine va_get (D := (dC, dI)) (ci := 11) (v := .ref h2) (C := RX12) (T := TX12) (N := 47) hx hb hts ii_X12_oneDay_X12 hown hK hP 0 rfl rfl 14 (by decide) (hts _ mm_X12_oneDay_2) (fun _ h9 => h9) rfl dX12_oneDay_17 ?_
  refine lv_iconst (v := 2) hx hb dX12_oneDay_20 (by decide) ?_
  refine va_iald hx hb hK hP 1 0 rfl rfl (i := 2) (zz_in (by decide)) dX12_oneDay_21 ?_
  refine zz_top (v := 0) (by rfl) ?_
  refine lv_icmp_ge (tgt := 37) hx hb dX12_oneDay_22 (by decide) (fun _ => ?_) (fun c6 => absurd (by decide) c6)
  refine lv_iinc (v := 3) (lv' := [(1, .int 3), (2, .int 0), (0, .ref h0)]) hx hb dX12_oneDay_37 hl (k := 1) rfl (by decide) (by decide) rfl (fun ls hl => ?_)
  refine lv_goto (tgt := 7) hx hb dX12_oneDay_40 (by decide) ?_
  refine lv_iload_n hx hb dX12_oneDay_7 rfl (lv_at hl 0 rfl) ?_
  refine lv_bipush (v := 24) hx hb dX12_oneDay_8 (by decide) ?_
  refine lv_icmp_ge (tgt := 43) hx hb dX12_oneDay_10 (by decide) (fun c7 => absurd c7 (by decide)) (fun _ => ?_)
  refine lv_iconst (v := 0) hx hb dX12_oneDay_13 (by decide) ?_
  refine lv_istore_n (lv' := [(2, .int 0), (1, .int 3), (0, .ref h0)]) hx hb dX12_oneDay_14 rfl hl (by decide) rfl (fun ls hl => ?_)
  refine lv_iload_n hx hb dX12_oneDay_15 rfl (lv_at hl 0 rfl) ?_
  refine lv_aload_n hx hb dX12_oneDay_16 rfl (lv_at hl 2 rfl) ?_
  refine va_get (D := (dC, dI)) (ci := 11) (v := .ref h2) (C := RX12) (T := TX12) (N := 47) hx hb hts ii_X12_oneDay_X12 hown hK hP 0 rfl rfl 14 (by decide) (hts _ mm_X12_oneDay_2) (fun _ h9 => h9) rfl dX12_oneDay_17 ?_
  refine lv_iconst (v := 2) hx hb dX12_oneDay_20 (by decide) ?_
  refine va_iald hx hb hK hP 1 0 rfl rfl (i := 2) (zz_in (by decide)) dX12_oneDay_21 ?_
  refine zz_top (v := 0) (by rfl) ?_
  refine lv_icmp_ge (tgt := 37) hx hb dX12_oneDay_22 (by decide) (fun _ => ?_) (fun c8 => absurd (by decide) c8)
  refine lv_iinc (v := 4) (lv' := [(1, .int 4), (2, .int 0), (0, .ref h0)]) hx hb dX12_oneDay_37 hl (k := 1) rfl (by decide) (by decide) rfl (fun ls hl => ?_)
  refine lv_goto (tgt := 7) hx hb dX12_oneDay_40 (by decide) ?_
  refine lv_iload_n hx hb dX12_oneDay_7 rfl (lv_at hl 0 rfl) ?_
  refine lv_bipush (v := 24) hx hb dX12_oneDay_8 (by decide) ?_
  refine lv_icmp_ge (tgt := 43) hx hb dX12_oneDay_10 (by decide) (fun c9 => absurd c9 (by decide)) (fun _ => ?_)
  refine lv_iconst (v := 0) hx hb dX12_oneDay_13 (by decide) ?_
  refine lv_istore_n (lv' := [(2, .int 0), (1, .int 4), (0, .ref h0)]) hx hb dX12_oneDay_14 rfl hl (by decide) rfl (fun ls hl => ?_)
  refine lv_iload_n hx hb dX12_oneDay_15 rfl (lv_at hl 0 rfl) ?_
  refine lv_aload_n hx hb dX12_oneDay_16 rfl (lv_at hl 2 rfl) ?_
  refine va_get (D := (dC, dI)) (ci := 11) (v := .ref h2) (C := RX12) (T := TX12) (N := 47) hx hb hts ii_X12_oneDay_X12 hown hK hP 0 rfl rfl 14 (by decide) (hts _ mm_X12_oneDay_2) (fun _ h9 => h9) rfl dX12_oneDay_17 ?_
  refine lv_iconst (v := 2) hx hb dX12_oneDay_20 (by decide) ?_
  refine va_iald hx hb hK hP 1 0 rfl rfl (i := 2) (zz_in (by decide)) dX12_oneDay_21 ?_
  refine zz_top (v := 0) (by rfl) ?_
  refine lv_icmp_ge (tgt := 37) hx hb dX12_oneDay_22 (by decide) (fun _ => ?_) (fun c10 => absurd (by decide) c10)
  refine lv_iinc (v := 5) (lv' := [(1, .int 5), (2, .int 0), (0, .ref h0)]) hx hb dX12_oneDay_37 hl (k := 1) rfl (by decide) (by decide) rfl (fun ls hl => ?_)
  refine lv_goto (tgt := 7) hx hb dX12_oneDay_40 (by decide) ?_
  refine lv_iload_n hx hb dX12_oneDay_7 rfl (lv_at hl 0 rfl) ?_
  refine lv_bipush (v := 24) hx hb dX12_oneDay_8 (by decide) ?_
  refine lv_icmp_ge (tgt := 43) hx hb dX12_oneDay_10 (by decide) (fun c11 => absurd c11 (by decide)) (fun _ => ?_)
  refine lv_iconst (v := 0) hx hb dX12_oneDay_13 (by decide) ?_
  refine lv_istore_n (lv' := [(2, .int 0), (1, .int 5), (0, .ref h0)]) hx hb dX12_oneDay_14 rfl hl (by decide) rfl (fun ls hl => ?_)
  refine lv_iload_n hx hb dX12_oneDay_15 rfl (lv_at hl 0 rfl) ?_
  refine lv_aload_n hx hb dX12_oneDay_16 rfl (lv_at hl 2 rfl) ?_
  refine va_get (D := (dC, dI)) (ci := 11) (v := .ref h2) (C := RX12) (T := TX12) (N := 47) hx hb hts ii_X12_oneDay_X12 hown hK hP 0 rfl rfl 14 (by decide) (hts _ mm_X12_oneDay_2) (fun _ h9 => h9) rfl dX12_oneDay_17 ?_
  refine lv_iconst (v := 2) hx hb dX12_oneDay_20 (by decide) ?_
  refine va_iald hx hb hK hP 1 0 rfl rfl (i := 2) (zz_in (by decide)) dX12_oneDay_21 ?_
  refine zz_top (v := 0) (by rfl) ?_
  refine lv_icmp_ge (tgt := 37) hx hb dX12_oneDay_22 (by decide) (fun _ => ?_) (fun c12 => absurd (by decide) c12)
  refine lv_iinc (v := 6) (lv' := [(1, .int 6), (2, .int 0), (0, .ref h0)]) hx hb dX12_oneDay_37 hl (k := 1) rfl (by decide) (by decide) rfl (fun ls hl => ?_)
  refine lv_goto (tgt := 7) hx hb dX12_oneDay_40 (by decide) ?_
  refine lv_iload_n hx hb dX12_oneDay_7 rfl (lv_at hl 0 rfl) ?_
  refine lv_bipush (v := 24) hx hb dX12_oneDay_8 (by decide) ?_
  refine lv_icmp_ge (tgt := 43) hx hb dX12_oneDay_10 (by decide) (fun c13 => absurd c13 (by decide)) (fun _ => ?_)
  refine lv_iconst (v := 0) hx hb dX12_oneDay_13 (by decide) ?_
  refine lv_istore_n (lv' := [(2, .int 0), (1, .int 6), (0, .ref h0)]) hx hb dX12_oneDay_14 rfl hl (by decide) rfl (fun ls hl => ?_)
  refine lv_iload_n hx hb dX12_oneDay_15 rfl (lv_at hl 0 rfl) ?_
  refine lv_aload_n hx hb dX12_oneDay_16 rfl (lv_at hl 2 rfl) ?_
  refine va_get (D := (dC, dI)) (ci := 11) (v := .ref h2) (C := RX12) (T := TX12) (N := 47) hx hb hts ii_X12_oneDay_X12 hown hK hP 0 rfl rfl 14 (by decide) (hts _ mm_X12_oneDay_2) (fun _ h9 => h9) rfl dX12_oneDay_17 ?_
  refine lv_iconst (v := 2) hx hb dX12_oneDay_20 (by decide) ?_
  refine va_iald hx hb hK hP 1 0 rfl rfl (i := 2) (zz_in (by decide)) dX12_oneDay_21 ?_
  refine zz_top (v := 0) (by rfl) ?_
  refine lv_icmp_ge (tgt := 37) hx hb dX12_oneDay_22 (by decide) (fun _ => ?_) (fun c14 => absurd (by decide) c14)
  refine lv_iinc (v := 7) (lv' := [(1, .int 7), (2, .int 0), (0, .ref h0)]) hx hb dX12_oneDay_37 hl (k := 1) rfl (by decide) (by decide) rfl (fun ls hl => ?_)
  refine lv_goto (tgt := 7) hx hb dX12_oneDay_40 (by decide) ?_
  refine lv_iload_n hx hb dX12_oneDay_7 rfl (lv_at hl 0 rfl) ?_
  refine lv_bipush (v := 24) hx hb dX12_oneDay_8 (by decide) ?_
  refine lv_icmp_ge (tgt := 43) hx hb dX12_oneDay_10 (by decide) (fun c15 => absurd c15 (by decide)) (fun _ => ?_)
  refine lv_iconst (v := 0) hx hb dX12_oneDay_13 (by decide) ?_
  refine lv_istore_n (lv' := [(2, .int 0), (1, .int 7), (0, .ref h0)]) hx hb dX12_oneDay_14 rfl hl (by decide) rfl (fun ls hl => ?_)
  refine lv_iload_n hx hb dX12_oneDay_15 rfl (lv_at hl 0 rfl) ?_
  refine lv_aload_n hx hb dX12_oneDay_16 rfl (lv_at hl 2 rfl) ?_
  refine va_get (D := (dC, dI)) (ci := 11) (v := .ref h2) (C := RX12) (T := TX12) (N := 47) hx hb hts ii_X12_oneDay_X12 hown hK hP 0 rfl rfl 14 (by decide) (hts _ mm_X12_oneDay_2) (fun _ h9 => h9) rfl dX12_oneDay_17 ?_
  refine lv_iconst (v := 2) hx hb dX12_oneDay_20 (by decide) ?_
  refine va_iald hx hb hK hP 1 0 rfl rfl (i := 2) (zz_in (by decide)) dX12_oneDay_21 ?_
  refine zz_top (v := 0) (by rfl) ?_
  refine lv_icmp_ge (tgt := 37) hx hb dX12_oneDay_22 (by decide) (fun _ => ?_) (fun c16 => absurd (by decide) c16)
  refine lv_iinc (v := 8) (lv' := [(1, .int 8), (2, .int 0), (0, .ref h0)]) hx hb dX12_oneDay_37 hl (k := 1) rfl (by decide) (by decide) rfl (fun ls hl => ?_)
  refine lv_goto (tgt := 7) hx hb dX12_oneDay_40 (by decide) ?_
  refine lv_iload_n hx hb dX12_oneDay_7 rfl (lv_at hl 0 rfl) ?_
  refine lv_bipush (v := 24) hx hb dX12_oneDay_8 (by decide) ?_
  refine lv_icmp_ge (tgt := 43) hx hb dX12_oneDay_10 (by decide) (fun c17 => absurd c17 (by decide)) (fun _ => ?_)
  refine lv_iconst (v := 0) hx hb dX12_oneDay_13 (by decide) ?_
  refine lv_istore_n (lv' := [(2, .int 0), (1, .int 8), (0, .ref h0)]) hx hb dX12_oneDay_14 rfl hl (by decide) rfl (fun ls hl => ?_)
  refine lv_iload_n hx hb dX12_oneDay_15 rfl (lv_at hl 0 rfl) ?_
  refine lv_aload_n hx hb dX12_oneDay_16 rfl (lv_at hl 2 rfl) ?_
  refine va_get (D := (dC, dI)) (ci := 11) (v := .ref h2) (C := RX12) (T := TX12) (N := 47) hx hb hts ii_X12_oneDay_X12 hown hK hP 0 rfl rfl 14 (by decide) (hts _ mm_X12_oneDay_2) (fun _ h9 => h9) rfl dX12_oneDay_17 ?_
  refine lv_iconst (v := 2) hx hb dX12_oneDay_20 (by decide) ?_
  refine va_iald hx hb hK hP 1 0 rfl rfl (i := 2) (zz_in (by decide)) dX12_oneDay_21 ?_
  refine zz_top (v := 0) (by rfl) ?_
  refine lv_icmp_ge (tgt := 37) hx hb dX12_oneDay_22 (by decide) (fun _ => ?_) (fun c18 => absurd (by decide) c18)
  refine lv_iinc (v := 9) (lv' := [(1, .int 9), (2, .int 0), (0, .ref h0)]) hx hb dX12_oneDay_37 hl (k := 1) rfl (by decide) (by decide) rfl (fun ls hl => ?_)
  refine lv_goto (tgt := 7) hx hb dX12_oneDay_40 (by decide) ?_
  refine lv_iload_n hx hb dX12_oneDay_7 rfl (lv_at hl 0 rfl) ?_
  refine lv_bipush (v := 24) hx hb dX12_oneDay_8 (by decide) ?_
  refine lv_icmp_ge (tgt := 43) hx hb dX12_oneDay_10 (by decide) (fun c19 => absurd c19 (by decide)) (fun _ => ?_)
  refine lv_iconst (v := 0) hx hb dX12_oneDay_13 (by decide) ?_
  refine lv_istore_n (lv' := [(2, .int 0), (1, .int 9), (0, .ref h0)]) hx hb dX12_oneDay_14 rfl hl (by decide) rfl (fun ls hl => ?_)
  refine lv_iload_n hx hb dX12_oneDay_15 rfl (lv_at hl 0 rfl) ?_
  refine lv_aload_n hx hb dX12_oneDay_16 rfl (lv_at hl 2 rfl) ?_
  refine va_get (D := (dC, dI)) (ci := 11) (v := .ref h2) (C := RX12) (T := TX12) (N := 47) hx hb hts ii_X12_oneDay_X12 hown hK hP 0 rfl rfl 14 (by decide) (hts _ mm_X12_oneDay_2) (fun _ h9 => h9) rfl dX12_oneDay_17 ?_
  refine lv_iconst (v := 2) hx hb dX12_oneDay_20 (by decide) ?_
  refine va_iald hx hb hK hP 1 0 rfl rfl (i := 2) (zz_in (by decide)) dX12_oneDay_21 ?_
  refine zz_top (v := 0) (by rfl) ?_
  refine lv_icmp_ge (tgt := 37) hx hb dX12_oneDay_22 (by decide) (fun _ => ?_) (fun c20 => absurd (by decide) c20)
  refine lv_iinc (v := 10) (lv' := [(1, .int 10), (2, .int 0), (0, .ref h0)]) hx hb dX12_oneDay_37 hl (k := 1) rfl (by decide) (by decide) rfl (fun ls hl => ?_)
  refine lv_goto (tgt := 7) hx hb dX12_oneDay_40 (by decide) ?_
  refine lv_iload_n hx hb dX12_oneDay_7 rfl (lv_at hl 0 rfl) ?_
  refine lv_bipush (v := 24) hx hb dX12_oneDay_8 (by decide) ?_
  refine lv_icmp_ge (tgt := 43) hx hb dX12_oneDay_10 (by decide) (fun c21 => absurd c21 (by decide)) (fun _ => ?_)
  refine lv_iconst (v := 0) hx hb dX12_oneDay_13 (by decide) ?_
  refine lv_istore_n (lv' := [(2, .int 0), (1, .int 10), (0, .ref h0)]) hx hb dX12_oneDay_14 rfl hl (by decide) rfl (fun ls hl => ?_)
  refine lv_iload_n hx hb dX12_oneDay_15 rfl (lv_at hl 0 rfl) ?_
  refine lv_aload_n hx hb dX12_oneDay_16 rfl (lv_at hl 2 rfl) ?_
  refine va_get (D := (dC, dI)) (ci := 11) (v := .ref h2) (C := RX12) (T := TX12) (N := 47) hx hb hts ii_X12_oneDay_X12 hown hK hP 0 rfl rfl 14 (by decide) (hts _ mm_X12_oneDay_2) (fun _ h9 => h9) rfl dX12_oneDay_17 ?_
  refine lv_iconst (v := 2) hx hb dX12_oneDay_20 (by decide) ?_
  refine va_iald hx hb hK hP 1 0 rfl rfl (i := 2) (zz_in (by decide)) dX12_oneDay_21 ?_
  refine zz_top (v := 0) (by rfl) ?_
  refine lv_icmp_ge (tgt := 37) hx hb dX12_oneDay_22 (by decide) (fun _ => ?_) (fun c22 => absurd (by decide) c22)
  refine lv_iinc (v := 11) (lv' := [(1, .int 11), (2, .int 0), (0, .ref h0)]) hx hb dX12_oneDay_37 hl (k := 1) rfl (by decide) (by decide) rfl (fun ls hl => ?_)
  refine lv_goto (tgt := 7) hx hb dX12_oneDay_40 (by decide) ?_
  refine lv_iload_n hx hb dX12_oneDay_7 rfl (lv_at hl 0 rfl) ?_
  refine lv_bipush (v := 24) hx hb dX12_oneDay_8 (by decide) ?_
  refine lv_icmp_ge (tgt := 43) hx hb dX12_oneDay_10 (by decide) (fun c23 => absurd c23 (by decide)) (fun _ => ?_)
  refine lv_iconst (v := 0) hx hb dX12_oneDay_13 (by decide) ?_
  refine lv_istore_n (lv' := [(2, .int 0), (1, .int 11), (0, .ref h0)]) hx hb dX12_oneDay_14 rfl hl (by decide) rfl (fun ls hl => ?_)
  refine lv_iload_n hx hb dX12_oneDay_15 rfl (lv_at hl 0 rfl) ?_
  refine lv_aload_n hx hb dX12_oneDay_16 rfl (lv_at hl 2 rfl) ?_
  refine va_get (D := (dC, dI)) (ci := 11) (v := .ref h2) (C := RX12) (T := TX12) (N := 47) hx hb hts ii_X12_oneDay_X12 hown hK hP 0 rfl rfl 14 (by decide) (hts _ mm_X12_oneDay_2) (fun _ h9 => h9) rfl dX12_oneDay_17 ?_
  refine lv_iconst (v := 2) hx hb dX12_oneDay_20 (by decide) ?_
  refine va_iald hx hb hK hP 1 0 rfl rfl (i := 2) (zz_in (by decide)) dX12_oneDay_21 ?_
  refine zz_top (v := 0) (by rfl) ?_
  refine lv_icmp_ge (tgt := 37) hx hb dX12_oneDay_22 (by decide) (fun _ => ?_) (fun c24 => absurd (by decide) c24)
  refine lv_iinc (v := 12) (lv' := [(1, .int 12), (2, .int 0), (0, .ref h0)]) hx hb dX12_oneDay_37 hl (k := 1) rfl (by decide) (by decide) rfl (fun ls hl => ?_)
  refine lv_goto (tgt := 7) hx hb dX12_oneDay_40 (by decide) ?_
  refine lv_iload_n hx hb dX12_oneDay_7 rfl (lv_at hl 0 rfl) ?_
  refine lv_bipush (v := 24) hx hb dX12_oneDay_8 (by decide) ?_
  refine lv_icmp_ge (tgt := 43) hx hb dX12_oneDay_10 (by decide) (fun c25 => absurd c25 (by decide)) (fun _ => ?_)
  refine lv_iconst (v := 0) hx hb dX12_oneDay_13 (by decide) ?_
  refine lv_istore_n (lv' := [(2, .int 0), (1, .int 12), (0, .ref h0)]) hx hb dX12_oneDay_14 rfl hl (by decide) rfl (fun ls hl => ?_)
  refine lv_iload_n hx hb dX12_oneDay_15 rfl (lv_at hl 0 rfl) ?_
  refine lv_aload_n hx hb dX12_oneDay_16 rfl (lv_at hl 2 rfl) ?_
  refine va_get (D := (dC, dI)) (ci := 11) (v := .ref h2) (C := RX12) (T := TX12) (N := 47) hx hb hts ii_X12_oneDay_X12 hown hK hP 0 rfl rfl 14 (by decide) (hts _ mm_X12_oneDay_2) (fun _ h9 => h9) rfl dX12_oneDay_17 ?_
  refine lv_iconst (v := 2) hx hb dX12_oneDay_20 (by decide) ?_
  refine va_iald hx hb hK hP 1 0 rfl rfl (i := 2) (zz_in (by decide)) dX12_oneDay_21 ?_
  refine zz_top (v := 0) (by rfl) ?_
  refine lv_icmp_ge (tgt := 37) hx hb dX12_oneDay_22 (by decide) (fun _ => ?_) (fun c26 => absurd (by decide) c26)
  refine lv_iinc (v := 13) (lv' := [(1, .int 13), (2, .int 0), (0, .ref h0)]) hx hb dX12_oneDay_37 hl (k := 1) rfl (by decide) (by decide) rfl (fun ls hl => ?_)
  refine lv_goto (tgt := 7) hx hb dX12_oneDay_40 (by decide) ?_
  refine lv_iload_n hx hb dX12_oneDay_7 rfl (lv_at hl 0 rfl) ?_
  refine lv_bipush (v := 24) hx hb dX12_oneDay_8 (by decide) ?_
  refine lv_icmp_ge (tgt := 43) hx hb dX12_oneDay_10 (by decide) (fun c27 => absurd c27 (by decide)) (fun _ => ?_)
  refine lv_iconst (v := 0) hx hb dX12_oneDay_13 (by decide) ?_
  refine lv_istore_n (lv' := [(2, .int 0), (1, .int 13), (0, .ref h0)]) hx hb dX12_oneDay_14 rfl hl (by decide) rfl (fun ls hl => ?_)
  refine lv_iload_n hx hb dX12_oneDay_15 rfl (lv_at hl 0 rfl) ?_
  refine lv_aload_n hx hb dX12_oneDay_16 rfl (lv_at hl 2 rfl) ?_
  refine va_get (D := (dC, dI)) (ci := 11) (v := .ref h2) (C := RX12) (T := TX12) (N := 47) hx hb hts ii_X12_oneDay_X12 hown hK hP 0 rfl rfl 14 (by decide) (hts _ mm_X12_oneDay_2) (fun _ h9 => h9) rfl dX12_oneDay_17 ?_
  refine lv_iconst (v := 2) hx hb dX12_oneDay_20 (by decide) ?_
  refine va_iald hx hb hK hP 1 0 rfl rfl (i := 2) (zz_in (by decide)) dX12_oneDay_21 ?_
  refine zz_top (v := 0) (by rfl) ?_
  refine lv_icmp_ge (tgt := 37) hx hb dX12_oneDay_22 (by decide) (fun _ => ?_) (fun c28 => absurd (by decide) c28)
  refine lv_iinc (v := 14) (lv' := [(1, .int 14), (2, .int 0), (0, .ref h0)]) hx hb dX12_oneDay_37 hl (k := 1) rfl (by decide) (by decide) rfl (fun ls hl => ?_)
  refine lv_goto (tgt := 7) hx hb dX12_oneDay_40 (by decide) ?_
  refine lv_iload_n hx hb dX12_oneDay_7 rfl (lv_at hl 0 rfl) ?_
  refine lv_bipush (v := 24) hx hb dX12_oneDay_8 (by decide) ?_
  refine lv_icmp_ge (tgt := 43) hx hb dX12_oneDay_10 (by decide) (fun c29 => absurd c29 (by decide)) (fun _ => ?_)
  refine lv_iconst (v := 0) hx hb dX12_oneDay_13 (by decide) ?_
  refine lv_istore_n (lv' := [(2, .int 0), (1, .int 14), (0, .ref h0)]) hx hb dX12_oneDay_14 rfl hl (by decide) rfl (fun ls hl => ?_)
  refine lv_iload_n hx hb dX12_oneDay_15 rfl (lv_at hl 0 rfl) ?_
  refine lv_aload_n hx hb dX12_oneDay_16 rfl (lv_at hl 2 rfl) ?_
  refine va_get (D := (dC, dI)) (ci := 11) (v := .ref h2) (C := RX12) (T := TX12) (N := 47) hx hb hts ii_X12_oneDay_X12 hown hK hP 0 rfl rfl 14 (by decide) (hts _ mm_X12_oneDay_2) (fun _ h9 => h9) rfl dX12_oneDay_17 ?_
  refine lv_iconst (v := 2) hx hb dX12_oneDay_20 (by decide) ?_
  refine va_iald hx hb hK hP 1 0 rfl rfl (i := 2) (zz_in (by decide)) dX12_oneDay_21 ?_
  refine zz_top (v := 0) (by rfl) ?_
  refine lv_icmp_ge (tgt := 37) hx hb dX12_oneDay_22 (by decide) (fun _ => ?_) (fun c30 => absurd (by decide) c30)
  refine lv_iinc (v := 15) (lv' := [(1, .int 15), (2, .int 0), (0, .ref h0)]) hx hb dX12_oneDay_37 hl (k := 1) rfl (by decide) (by decide) rfl (fun ls hl => ?_)
  refine lv_goto (tgt := 7) hx hb dX12_oneDay_40 (by decide) ?_
  refine lv_iload_n hx hb dX12_oneDay_7 rfl (lv_at hl 0 rfl) ?_
  refine lv_bipush (v := 24) hx hb dX12_oneDay_8 (by decide) ?_
  refine lv_icmp_ge (tgt := 43) hx hb dX12_oneDay_10 (by decide) (fun c31 => absurd c31 (by decide)) (fun _ => ?_)
  refine lv_iconst (v := 0) hx hb dX12_oneDay_13 (by decide) ?_
  refine lv_istore_n (lv' := [(2, .int 0), (1, .int 15), (0, .ref h0)]) hx hb dX12_oneDay_14 rfl hl (by decide) rfl (fun ls hl => ?_)
  refine lv_iload_n hx hb dX12_oneDay_15 rfl (lv_at hl 0 rfl) ?_
  refine lv_aload_n hx hb dX12_oneDay_16 rfl (lv_at hl 2 rfl) ?_
  refine va_get (D := (dC, dI)) (ci := 11) (v := .ref h2) (C := RX12) (T := TX12) (N := 47) hx hb hts ii_X12_oneDay_X12 hown hK hP 0 rfl rfl 14 (by decide) (hts _ mm_X12_oneDay_2) (fun _ h9 => h9) rfl dX12_oneDay_17 ?_
  refine lv_iconst (v := 2) hx hb dX12_oneDay_20 (by decide) ?_
  refine va_iald hx hb hK hP 1 0 rfl rfl (i := 2) (zz_in (by decide)) dX12_oneDay_21 ?_
  refine zz_top (v := 0) (by rfl) ?_
  refine lv_icmp_ge (tgt := 37) hx hb dX12_oneDay_22 (by decide) (fun _ => ?_) (fun c32 => absurd (by decide) c32)
  refine lv_iinc (v := 16) (lv' := [(1, .int 16), (2, .int 0), (0, .ref h0)]) hx hb dX12_oneDay_37 hl (k := 1) rfl (by decide) (by decide) rfl (fun ls hl => ?_)
  refine lv_goto (tgt := 7) hx hb dX12_oneDay_40 (by decide) ?_
  refine lv_iload_n hx hb dX12_oneDay_7 rfl (lv_at hl 0 rfl) ?_
  refine lv_bipush (v := 24) hx hb dX12_oneDay_8 (by decide) ?_
  refine lv_icmp_ge (tgt := 43) hx hb dX12_oneDay_10 (by decide) (fun c33 => absurd c33 (by decide)) (fun _ => ?_)
  refine lv_iconst (v := 0) hx hb dX12_oneDay_13 (by decide) ?_
  refine lv_istore_n (lv' := [(2, .int 0), (1, .int 16), (0, .ref h0)]) hx hb dX12_oneDay_14 rfl hl (by decide) rfl (fun ls hl => ?_)
  refine lv_iload_n hx hb dX12_oneDay_15 rfl (lv_at hl 0 rfl) ?_
  refine lv_aload_n hx hb dX12_oneDay_16 rfl (lv_at hl 2 rfl) ?_
  refine va_get (D := (dC, dI)) (ci := 11) (v := .ref h2) (C := RX12) (T := TX12) (N := 47) hx hb hts ii_X12_oneDay_X12 hown hK hP 0 rfl rfl 14 (by decide) (hts _ mm_X12_oneDay_2) (fun _ h9 => h9) rfl dX12_oneDay_17 ?_
  refine lv_iconst (v := 2) hx hb dX12_oneDay_20 (by decide) ?_
  refine va_iald hx hb hK hP 1 0 rfl rfl (i := 2) (zz_in (by decide)) dX12_oneDay_21 ?_
  refine zz_top (v := 0) (by rfl) ?_
  refine lv_icmp_ge (tgt := 37) hx hb dX12_oneDay_22 (by decide) (fun _ => ?_) (fun c34 => absurd (by decide) c34)
  refine lv_iinc (v := 17) (lv' := [(1, .int 17), (2, .int 0), (0, .ref h0)]) hx hb dX12_oneDay_37 hl (k := 1) rfl (by decide) (by decide) rfl (fun ls hl => ?_)
  refine lv_goto (tgt := 7) hx hb dX12_oneDay_40 (by decide) ?_
  refine lv_iload_n hx hb dX12_oneDay_7 rfl (lv_at hl 0 rfl) ?_
  refine lv_bipush (v := 24) hx hb dX12_oneDay_8 (by decide) ?_
  refine lv_icmp_ge (tgt := 43) hx hb dX12_oneDay_10 (by decide) (fun c35 => absurd c35 (by decide)) (fun _ => ?_)
  refine lv_iconst (v := 0) hx hb dX12_oneDay_13 (by decide) ?_
  refine lv_istore_n (lv' := [(2, .int 0), (1, .int 17), (0, .ref h0)]) hx hb dX12_oneDay_14 rfl hl (by decide) rfl (fun ls hl => ?_)
  refine lv_iload_n hx hb dX12_oneDay_15 rfl (lv_at hl 0 rfl) ?_
  refine lv_aload_n hx hb dX12_oneDay_16 rfl (lv_at hl 2 rfl) ?_
  refine va_get (D := (dC, dI)) (ci := 11) (v := .ref h2) (C := RX12) (T := TX12) (N := 47) hx hb hts ii_X12_oneDay_X12 hown hK hP 0 rfl rfl 14 (by decide) (hts _ mm_X12_oneDay_2) (fun _ h9 => h9) rfl dX12_oneDay_17 ?_
  refine lv_iconst (v := 2) hx hb dX12_oneDay_20 (by decide) ?_
  refine va_iald hx hb hK hP 1 0 rfl rfl (i := 2) (zz_in (by decide)) dX12_oneDay_21 ?_
  refine zz_top (v := 0) (by rfl) ?_
  refine lv_icmp_ge (tgt := 37) hx hb dX12_oneDay_22 (by decide) (fun _ => ?_) (fun c36 => absurd (by decide) c36)
  refine lv_iinc (v := 18) (lv' := [(1, .int 18), (2, .int 0), (0, .ref h0)]) hx hb dX12_oneDay_37 hl (k := 1) rfl (by decide) (by decide) rfl (fun ls hl => ?_)
  refine lv_goto (tgt := 7) hx hb dX12_oneDay_40 (by decide) ?_
  refine lv_iload_n hx hb dX12_oneDay_7 rfl (lv_at hl 0 rfl) ?_
  refine lv_bipush (v := 24) hx hb dX12_oneDay_8 (by decide) ?_
  refine lv_icmp_ge (tgt := 43) hx hb dX12_oneDay_10 (by decide) (fun c37 => absurd c37 (by decide)) (fun _ => ?_)
  refine lv_iconst (v := 0) hx hb dX12_oneDay_13 (by decide) ?_
  refine lv_istore_n (lv' := [(2, .int 0), (1, .int 18), (0, .ref h0)]) hx hb dX12_oneDay_14 rfl hl (by decide) rfl (fun ls hl => ?_)
  refine lv_iload_n hx hb dX12_oneDay_15 rfl (lv_at hl 0 rfl) ?_
  refine lv_aload_n hx hb dX12_oneDay_16 rfl (lv_at hl 2 rfl) ?_
  refine va_get (D := (dC, dI)) (ci := 11) (v := .ref h2) (C := RX12) (T := TX12) (N := 47) hx hb hts ii_X12_oneDay_X12 hown hK hP 0 rfl rfl 14 (by decide) (hts _ mm_X12_oneDay_2) (fun _ h9 => h9) rfl dX12_oneDay_17 ?_
  refine lv_iconst (v := 2) hx hb dX12_oneDay_20 (by decide) ?_
  refine va_iald hx hb hK hP 1 0 rfl rfl (i := 2) (zz_in (by decide)) dX12_oneDay_21 ?_
  refine zz_top (v := 0) (by rfl) ?_
  refine lv_icmp_ge (tgt := 37) hx hb dX12_oneDay_22 (by decide) (fun _ => ?_) (fun c38 => absurd (by decide) c38)
  refine lv_iinc (v := 19) (lv' := [(1, .int 19), (2, .int 0), (0, .ref h0)]) hx hb dX12_oneDay_37 hl (k := 1) rfl (by decide) (by decide) rfl (fun ls hl => ?_)
  refine lv_goto (tgt := 7) hx hb dX12_oneDay_40 (by decide) ?_
  refine lv_iload_n hx hb dX12_oneDay_7 rfl (lv_at hl 0 rfl) ?_
  refine lv_bipush (v := 24) hx hb dX12_oneDay_8 (by decide) ?_
  refine lv_icmp_ge (tgt := 43) hx hb dX12_oneDay_10 (by decide) (fun c39 => absurd c39 (by decide)) (fun _ => ?_)
  refine lv_iconst (v := 0) hx hb dX12_oneDay_13 (by decide) ?_
  refine lv_istore_n (lv' := [(2, .int 0), (1, .int 19), (0, .ref h0)]) hx hb dX12_oneDay_14 rfl hl (by decide) rfl (fun ls hl => ?_)
  refine lv_iload_n hx hb dX12_oneDay_15 rfl (lv_at hl 0 rfl) ?_
  refine lv_aload_n hx hb dX12_oneDay_16 rfl (lv_at hl 2 rfl) ?_
  refine va_get (D := (dC, dI)) (ci := 11) (v := .ref h2) (C := RX12) (T := TX12) (N := 47) hx hb hts ii_X12_oneDay_X12 hown hK hP 0 rfl rfl 14 (by decide) (hts _ mm_X12_oneDay_2) (fun _ h9 => h9) rfl dX12_oneDay_17 ?_
  refine lv_iconst (v := 2) hx hb dX12_oneDay_20 (by decide) ?_
  refine va_iald hx hb hK hP 1 0 rfl rfl (i := 2) (zz_in (by decide)) dX12_oneDay_21 ?_
  refine zz_top (v := 0) (by rfl) ?_
  refine lv_icmp_ge (tgt := 37) hx hb dX12_oneDay_22 (by decide) (fun _ => ?_) (fun c40 => absurd (by decide) c40)
  refine lv_iinc (v := 20) (lv' := [(1, .int 20), (2, .int 0), (0, .ref h0)]) hx hb dX12_oneDay_37 hl (k := 1) rfl (by decide) (by decide) rfl (fun ls hl => ?_)
  refine lv_goto (tgt := 7) hx hb dX12_oneDay_40 (by decide) ?_
  refine lv_iload_n hx hb dX12_oneDay_7 rfl (lv_at hl 0 rfl) ?_
  refine lv_bipush (v := 24) hx hb dX12_oneDay_8 (by decide) ?_
  refine lv_icmp_ge (tgt := 43) hx hb dX12_oneDay_10 (by decide) (fun c41 => absurd c41 (by decide)) (fun _ => ?_)
  refine lv_iconst (v := 0) hx hb dX12_oneDay_13 (by decide) ?_
  refine lv_istore_n (lv' := [(2, .int 0), (1, .int 20), (0, .ref h0)]) hx hb dX12_oneDay_14 rfl hl (by decide) rfl (fun ls hl => ?_)
  refine lv_iload_n hx hb dX12_oneDay_15 rfl (lv_at hl 0 rfl) ?_
  refine lv_aload_n hx hb dX12_oneDay_16 rfl (lv_at hl 2 rfl) ?_
  refine va_get (D := (dC, dI)) (ci := 11) (v := .ref h2) (C := RX12) (T := TX12) (N := 47) hx hb hts ii_X12_oneDay_X12 hown hK hP 0 rfl rfl 14 (by decide) (hts _ mm_X12_oneDay_2) (fun _ h9 => h9) rfl dX12_oneDay_17 ?_
  refine lv_iconst (v := 2) hx hb dX12_oneDay_20 (by decide) ?_
  refine va_iald hx hb hK hP 1 0 rfl rfl (i := 2) (zz_in (by decide)) dX12_oneDay_21 ?_
  refine zz_top (v := 0) (by rfl) ?_
  refine lv_icmp_ge (tgt := 37) hx hb dX12_oneDay_22 (by decide) (fun _ => ?_) (fun c42 => absurd (by decide) c42)
  refine lv_iinc (v := 21) (lv' := [(1, .int 21), (2, .int 0), (0, .ref h0)]) hx hb dX12_oneDay_37 hl (k := 1) rfl (by decide) (by decide) rfl (fun ls hl => ?_)
  refine lv_goto (tgt := 7) hx hb dX12_oneDay_40 (by decide) ?_
  refine lv_iload_n hx hb dX12_oneDay_7 rfl (lv_at hl 0 rfl) ?_
  refine lv_bipush (v := 24) hx hb dX12_oneDay_8 (by decide) ?_
  refine lv_icmp_ge (tgt := 43) hx hb dX12_oneDay_10 (by decide) (fun c43 => absurd c43 (by decide)) (fun _ => ?_)
  refine lv_iconst (v := 0) hx hb dX12_oneDay_13 (by decide) ?_
  refine lv_istore_n (lv' := [(2, .int 0), (1, .int 21), (0, .ref h0)]) hx hb dX12_oneDay_14 rfl hl (by decide) rfl (fun ls hl => ?_)
  refine lv_iload_n hx hb dX12_oneDay_15 rfl (lv_at hl 0 rfl) ?_
  refine lv_aload_n hx hb dX12_oneDay_16 rfl (lv_at hl 2 rfl) ?_
  refine va_get (D := (dC, dI)) (ci := 11) (v := .ref h2) (C := RX12) (T := TX12) (N := 47) hx hb hts ii_X12_oneDay_X12 hown hK hP 0 rfl rfl 14 (by decide) (hts _ mm_X12_oneDay_2) (fun _ h9 => h9) rfl dX12_oneDay_17 ?_
  refine lv_iconst (v := 2) hx hb dX12_oneDay_20 (by decide) ?_
  refine va_iald hx hb hK hP 1 0 rfl rfl (i := 2) (zz_in (by decide)) dX12_oneDay_21 ?_
  refine zz_top (v := 0) (by rfl) ?_
  refine lv_icmp_ge (tgt := 37) hx hb dX12_oneDay_22 (by decide) (fun _ => ?_) (fun c44 => absurd (by decide) c44)
  refine lv_iinc (v := 22) (lv' := [(1, .int 22), (2, .int 0), (0, .ref h0)]) hx hb dX12_oneDay_37 hl (k := 1) rfl (by decide) (by decide) rfl (fun ls hl => ?_)
  refine lv_goto (tgt := 7) hx hb dX12_oneDay_40 (by decide) ?_
  refine lv_iload_n hx hb dX12_oneDay_7 rfl (lv_at hl 0 rfl) ?_
  refine lv_bipush (v := 24) hx hb dX12_oneDay_8 (by decide) ?_
  refine lv_icmp_ge (tgt := 43) hx hb dX12_oneDay_10 (by decide) (fun c45 => absurd c45 (by decide)) (fun _ => ?_)
  refine lv_iconst (v := 0) hx hb dX12_oneDay_13 (by decide) ?_
  refine lv_istore_n (lv' := [(2, .int 0), (1, .int 22), (0, .ref h0)]) hx hb dX12_oneDay_14 rfl hl (by decide) rfl (fun ls hl => ?_)
  refine lv_iload_n hx hb dX12_oneDay_15 rfl (lv_at hl 0 rfl) ?_
  refine lv_aload_n hx hb dX12_oneDay_16 rfl (lv_at hl 2 rfl) ?_
  refine va_get (D := (dC, dI)) (ci := 11) (v := .ref h2) (C := RX12) (T := TX12) (N := 47) hx hb hts ii_X12_oneDay_X12 hown hK hP 0 rfl rfl 14 (by decide) (hts _ mm_X12_oneDay_2) (fun _ h9 => h9) rfl dX12_oneDay_17 ?_
  refine lv_iconst (v := 2) hx hb dX12_oneDay_20 (by decide) ?_
  refine va_iald hx hb hK hP 1 0 rfl rfl (i := 2) (zz_in (by decide)) dX12_oneDay_21 ?_
  refine zz_top (v := 0) (by rfl) ?_
  refine lv_icmp_ge (tgt := 37) hx hb dX12_oneDay_22 (by decide) (fun _ => ?_) (fun c46 => absurd (by decide) c46)
  refine lv_iinc (v := 23) (lv' := [(1, .int 23), (2, .int 0), (0, .ref h0)]) hx hb dX12_oneDay_37 hl (k := 1) rfl (by decide) (by decide) rfl (fun ls hl => ?_)
  refine lv_goto (tgt := 7) hx hb dX12_oneDay_40 (by decide) ?_
  refine lv_iload_n hx hb dX12_oneDay_7 rfl (lv_at hl 0 rfl) ?_
  refine lv_bipush (v := 24) hx hb dX12_oneDay_8 (by decide) ?_
  refine lv_icmp_ge (tgt := 43) hx hb dX12_oneDay_10 (by decide) (fun c47 => absurd c47 (by decide)) (fun _ => ?_)
  refine lv_iconst (v := 0) hx hb dX12_oneDay_13 (by decide) ?_
  refine lv_istore_n (lv' := [(2, .int 0), (1, .int 23), (0, .ref h0)]) hx hb dX12_oneDay_14 rfl hl (by decide) rfl (fun ls hl => ?_)
  refine lv_iload_n hx hb dX12_oneDay_15 rfl (lv_at hl 0 rfl) ?_
  refine lv_aload_n hx hb dX12_oneDay_16 rfl (lv_at hl 2 rfl) ?_
  refine va_get (D := (dC, dI)) (ci := 11) (v := .ref h2) (C := RX12) (T := TX12) (N := 47) hx hb hts ii_X12_oneDay_X12 hown hK hP 0 rfl rfl 14 (by decide) (hts _ mm_X12_oneDay_2) (fun _ h9 => h9) rfl dX12_oneDay_17 ?_
  refine lv_iconst (v := 2) hx hb dX12_oneDay_20 (by decide) ?_
  refine va_iald hx hb hK hP 1 0 rfl rfl (i := 2) (zz_in (by decide)) dX12_oneDay_21 ?_
  refine zz_top (v := 0) (by rfl) ?_
  refine lv_icmp_ge (tgt := 37) hx hb dX12_oneDay_22 (by decide) (fun _ => ?_) (fun c48 => absurd (by decide) c48)
  refine lv_iinc (v := 24) (lv' := [(1, .int 24), (2, .int 0), (0, .ref h0)]) hx hb dX12_oneDay_37 hl (k := 1) rfl (by decide) (by decide) rfl (fun ls hl => ?_)
  refine lv_goto (tgt := 7) hx hb dX12_oneDay_40 (by decide) ?_
  refine lv_iload_n hx hb dX12_oneDay_7 rfl (lv_at hl 0 rfl) ?_
  refine lv_bipush (v := 24) hx hb dX12_oneDay_8 (by decide) ?_
  refine lv_icmp_ge (tgt := 43) hx hb dX12_oneDay_10 (by decide) (fun _ => ?_) (fun c49 => absurd (by decide) c49)
  refine lv_iconst (v := 0) hx hb dX12_oneDay_43 (by decide) ?_
  refine lv_istore_n (lv' := [(1, .int 0), (2, .int 0), (0, .ref h0)]) hx hb dX12_oneDay_44 rfl hl (by decide) rfl (fun ls hl => ?_)
  refine lv_iload_n hx hb dX12_oneDay_45 rfl (lv_at hl 0 rfl) ?_
  refine lv_aload_n hx hb dX12_oneDay_46 rfl (lv_at hl 2 rfl) ?_
  refine va_get (D := (dC, dI)) (ci := 11) (v := .ref h2) (C := RX12) (T := TX12) (N := 47) hx hb hts ii_X12_oneDay_X12 hown hK hP 0 rfl rfl 14 (by decide) (hts _ mm_X12_oneDay_2) (fun _ h9 => h9) rfl dX12_oneDay_47 ?_
  refine lv_iconst (v := 1) hx hb dX12_oneDay_50 (by decide) ?_
  refine va_iald hx hb hK hP 1 0 rfl rfl (i := 1) (zz_in (by decide)) dX12_oneDay_51 ?_
  refine zz_top (v := 0) (by rfl) ?_
  refine lv_icmp_ge (tgt := 114) hx hb dX12_oneDay_52 (by decide) (fun _ => ?_) (fun c50 => absurd (by decide) c50)
  refine lv_aload_n hx hb dX12_oneDay_114 rfl (lv_at hl 2 rfl) ?_
  refine va_get (D := (dC, dI)) (ci := 11) (v := .ref h2) (C := RX12) (T := TX12) (N := 47) hx hb hts ii_X12_oneDay_X12 hown hK hP 0 rfl rfl 14 (by decide) (hts _ mm_X12_oneDay_2) (fun _ h9 => h9) rfl dX12_oneDay_115 ?_
  refine lv_bipush (v := 61) hx hb dX12_oneDay_118 (by decide) ?_
  refine lv_dup2_11 hx hb dX12_oneDay_120 rfl rfl ?_
  refine va_iald hx hb hK hP 1 0 rfl rfl (i := 61) (zz_in (by decide)) dX12_oneDay_121 ?_
  refine zz_top (v := (nI N0)) (by rfl) ?_
  refine lv_iconst (v := 1) hx hb dX12_oneDay_122 (by decide) ?_
  refine lv_iadd hx hb dX12_oneDay_123 ?_
  refine zz_top (v := (nI (N0 + 1))) (zz_addr N0 1) ?_
  refine va_iast hx hb hK hP hD hS 1 0 rfl rfl (i := 61) (zz_in (by decide)) dX12_oneDay_124 (fun H locs hP hD hS => ?_)
  have hP : va_P (dC, dI) vwCl [(h0, .inr (11, [.int 0, .ref h1, .int 0, .int 0, .int 0, .int 0, .int 0, .int 0, .int 0, .int 0, .int 0, .int 0, .long 0, .int 0, .ref h2, .ref h3, .ref h4, .ref h5, .ref h6, .ref h7, .ref h8, .ref h9, .ref h10, .int 1, .int 0, .int p0, .int 0, .int (-1), .int (-1), .long 0, .long 0, .ref h11, .ref h12, .int 0, .int (-1), .int 0, .ref h13, .int 0, .ref h14, .ref h15, .int 0, .int 0, .ref h16, .int 0, .int 0, .int 0, .int 0])), (h2, .inl (w0, 373, .inl (upd (upd (upd (upd (fun _ => 0) 60 2) 62 2) 61 (nI N0)) 61 (nI (N0 + 1)))))] H := hP
  have hD : va_D A [(h0, .inr (11, [.int 0, .ref h1, .int 0, .int 0, .int 0, .int 0, .int 0, .int 0, .int 0, .int 0, .int 0, .int 0, .long 0, .int 0, .ref h2, .ref h3, .ref h4, .ref h5, .ref h6, .ref h7, .ref h8, .ref h9, .ref h10, .int 1, .int 0, .int p0, .int 0, .int (-1), .int (-1), .long 0, .long 0, .ref h11, .ref h12, .int 0, .int (-1), .int 0, .ref h13, .int 0, .ref h14, .ref h15, .int 0, .int 0, .ref h16, .int 0, .int 0, .int 0, .int 0])), (h2, .inl (w0, 373, .inl (upd (upd (upd (upd (fun _ => 0) 60 2) 62 2) 61 (nI N0)) 61 (nI (N0 + 1)))))] := hD
  rw [zz_uu] at hP hD
  have hP : va_P (dC, dI) vwCl [(h0, .inr (11, [.int 0, .ref h1, .int 0, .int 0, .int 0, .int 0, .int 0, .int 0, .int 0, .int 0, .int 0, .int 0, .long 0, .int 0, .ref h2, .ref h3, .ref h4, .ref h5, .ref h6, .ref h7, .ref h8, .ref h9, .ref h10, .int 1, .int 0, .int p0, .int 0, .int (-1), .int (-1), .long 0, .long 0, .ref h11, .ref h12, .int 0, .int (-1), .int 0, .ref h13, .int 0, .ref h14, .ref h15, .int 0, .int 0, .ref h16, .int 0, .int 0, .int 0, .int 0])), (h2, .inl (w0, 373, .inl (upd (upd (upd (fun _ => 0) 60 2) 62 2) 61 (nI (N0 + 1)))))] H := hP
  have hD : va_D A [(h0, .inr (11, [.int 0, .ref h1, .int 0, .int 0, .int 0, .int 0, .int 0, .int 0, .int 0, .int 0, .int 0, .int 0, .long 0, .int 0, .ref h2, .ref h3, .ref h4, .ref h5, .ref h6, .ref h7, .ref h8, .ref h9, .ref h10, .int 1, .int 0, .int p0, .int 0, .int (-1), .int (-1), .long 0, .long 0, .ref h11, .ref h12, .int 0, .int (-1), .int 0, .ref h13, .int 0, .ref h14, .ref h15, .int 0, .int 0, .ref h16, .int 0, .int 0, .int 0, .int 0])), (h2, .inl (w0, 373, .inl (upd (upd (upd (fun _ => 0) 60 2) 62 2) 61 (nI (N0 + 1)))))] := hD
  have hP9 := hP.sub (ws' := [(h0, .inr (11, [.int 0, .ref h1, .int 0, .int 0, .int 0, .int 0, .int 0, .int 0, .int 0, .int 0, .int 0, .int 0, .long 0, .int 0, .ref h2, .ref h3, .ref h4, .ref h5, .ref h6, .ref h7, .ref h8, .ref h9, .ref h10, .int 1, .int 0, .int p0, .int 0, .int (-1), .int (-1), .long 0, .long 0, .ref h11, .ref h12, .int 0, .int (-1), .int 0, .ref h13, .int 0, .ref h14, .ref h15, .int 0, .int 0, .ref h16, .int 0, .int 0, .int 0, .int 0])), (h2, .inl (w0, 373, .inl (upd (upd (upd (fun _ => 0) 60 2) 62 2) 61 (nI (N0 + 1)))))]) [0, 1] rfl
  have hD9 := hD.sub (ws' := [(h0, .inr (11, [.int 0, .ref h1, .int 0, .int 0, .int 0, .int 0, .int 0, .int 0, .int 0, .int 0, .int 0, .int 0, .long 0, .int 0, .ref h2, .ref h3, .ref h4, .ref h5, .ref h6, .ref h7, .ref h8, .ref h9, .ref h10, .int 1, .int 0, .int p0, .int 0, .int (-1), .int (-1), .long 0, .long 0, .ref h11, .ref h12, .int 0, .int (-1), .int 0, .ref h13, .int 0, .ref h14, .ref h15, .int 0, .int 0, .ref h16, .int 0, .int 0, .int 0, .int 0])), (h2, .inl (w0, 373, .inl (upd (upd (upd (fun _ => 0) 60 2) 62 2) 61 (nI (N0 + 1)))))]) [0, 1] (by decide) rfl
  have hK9 := hK.sub (tys' := []) [] rfl
  refine W.widen (k := 0) (n := 0) (Nat.le_of_ble_eq_true rfl) (Nat.le_of_ble_eq_true rfl) ?_
  exact W.vret hx hb hr (fun t ht hW => ⟨⟨(), rfl, trivial, by rw [ht]; exact hP9, va_K.moved hW.alike hK9, hD9⟩, hS.F ht⟩) hS.2.2 dX12_oneDay_125
set_option maxHeartbeats 4000000 in
set_option maxRecDepth 100000 in
theorem k_X12_passDays (l : Launch) (dC : Nat → ClassId) (dI : Nat → Nat → Nat) (ad : Nat → Nat) (h0 h1 h2 h3 h4 h5 h6 h7 h8 h9 h10 h11 h12 h13 h14 h15 h16 : Nat) (p0 : Int32) (w0 : ClassId) (N0 : Nat) (sz : Nat) (hN0a : 1 ≤ N0) (hN0b : N0 < 31) : Met l yX12_passDays wsX12_passDays ({ frames := 1, cells := 0, slots := 0, locals := 22 }) (va_Pc [.ref h0, .int (nI N0), .int p0] (CP (dC, dI) [(h0, .inr (11, [.int 0, .ref h1, .int 0, .int 0, .int 0, .int 0, .int 0, .int 0, .int 0, .int 0, .int 0, .int 0, .long 0, .int 0, .ref h2, .ref h3, .ref h4, .ref h5, .ref h6, .ref h7, .ref h8, .ref h9, .ref h10, .int 1, .int 0, .int 0, .int 0, .int (-1), .int (-1), .long 0, .long 0, .ref h11, .ref h12, .int 0, .int (-1), .int 0, .ref h13, .int 0, .ref h14, .ref h15, .int 0, .int 0, .ref h16, .int 0, .int 0, .int 0, .int 0])), (h2, .inl (w0, 373, .inl (upd (upd (fun _ => 0) 60 2) 62 2)))] [(w0, .int)] sz ad)) (va_Qi (fun (r : Int32) (_ : Unit) => r = (nI N0)) (fun (_ : Unit) (t : State) => CQ (dC, dI) [(h0, .inr (11, [.int 0, .ref h1, .int 0, .int 0, .int 0, .int 0, .int 0, .int 0, .int 0, .int 0, .int 0, .int 0, .long 0, .int 0, .ref h2, .ref h3, .ref h4, .ref h5, .ref h6, .ref h7, .ref h8, .ref h9, .ref h10, .int 1, .int 0, .int p0, .int 0, .int (-1), .int (-1), .long 0, .long 0, .ref h11, .ref h12, .int 0, .int (-1), .int 0, .ref h13, .int 0, .ref h14, .ref h15, .int 0, .int 0, .ref h16, .int 0, .int 0, .int 0, .int 0])), (h2, .inl (w0, 373, .inl (upd (upd (upd (fun _ => 0) 60 2) 62 2) 61 (nI N0))))] [] (va_A [(h0, .inr (11, [.int 0, .ref h1, .int 0, .int 0, .int 0, .int 0, .int 0, .int 0, .int 0, .int 0, .int 0, .int 0, .long 0, .int 0, .ref h2, .ref h3, .ref h4, .ref h5, .ref h6, .ref h7, .ref h8, .ref h9, .ref h10, .int 1, .int 0, .int 0, .int 0, .int (-1), .int (-1), .long 0, .long 0, .ref h11, .ref h12, .int 0, .int (-1), .int 0, .ref h13, .int 0, .ref h14, .ref h15, .int 0, .int 0, .ref h16, .int 0, .int 0, .int 0, .int 0])), (h2, .inl (w0, 373, .inl (upd (upd (fun _ => 0) 60 2) 62 2)))] sz) t) (va_A [(h0, .inr (11, [.int 0, .ref h1, .int 0, .int 0, .int 0, .int 0, .int 0, .int 0, .int 0, .int 0, .int 0, .int 0, .long 0, .int 0, .ref h2, .ref h3, .ref h4, .ref h5, .ref h6, .ref h7, .ref h8, .ref h9, .ref h10, .int 1, .int 0, .int 0, .int 0, .int (-1), .int (-1), .long 0, .long 0, .ref h11, .ref h12, .int 0, .int (-1), .int 0, .ref h13, .int 0, .ref h14, .ref h15, .int 0, .int 0, .ref h16, .int 0, .int 0, .int 0, .int 0])), (h2, .inl (w0, 373, .inl (upd (upd (fun _ => 0) 60 2) 62 2)))] sz)) 0 0 (va_A [(h0, .inr (11, [.int 0, .ref h1, .int 0, .int 0, .int 0, .int 0, .int 0, .int 0, .int 0, .int 0, .int 0, .int 0, .long 0, .int 0, .ref h2, .ref h3, .ref h4, .ref h5, .ref h6, .ref h7, .ref h8, .ref h9, .ref h10, .int 1, .int 0, .int 0, .int 0, .int (-1), .int (-1), .long 0, .long 0, .ref h11, .ref h12, .int 0, .int (-1), .int 0, .ref h13, .int 0, .ref h14, .ref h15, .int 0, .int 0, .ref h16, .int 0, .int 0, .int 0, .int 0])), (h2, .inl (w0, 373, .inl (upd (upd (fun _ => 0) 60 2) 62 2)))] sz) := by
  refine Met.ofW (cc := cX12_passDays) (maxL := 5) (ret := (some .int)) (by decide) rfl ?_
  intro p e s m args below meth c s₁ B hml hv
  obtain ⟨rfl, hsz, hP, hK, hD0, hE⟩ := hv
  have hx := B.exec
  have hb := B.bytes
  have hr := B.returns
  have hts := atoms_spec (ws := wsX12_passDays) B.pre
  have hown : s.vm.findClass RX12 = some m.cls := findClass_of_methodNamed B.named
  have hlocks := B.notSynchronized
  subst hsz
  have hD := hD0.self (sz := s.heap.size)
  generalize hAe : va_A [(h0, .inr (11, [.int 0, .ref h1, .int 0, .int 0, .int 0, .int 0, .int 0, .int 0, .int 0, .int 0, .int 0, .int 0, .long 0, .int 0, .ref h2, .ref h3, .ref h4, .ref h5, .ref h6, .ref h7, .ref h8, .ref h9, .ref h10, .int 1, .int 0, .int 0, .int 0, .int (-1), .int (-1), .long 0, .long 0, .ref h11, .ref h12, .int 0, .int (-1), .int 0, .ref h13, .int 0, .ref h14, .ref h15, .int 0, .int 0, .ref h16, .int 0, .int 0, .int 0, .int 0])), (h2, .inl (w0, 373, .inl (upd (upd (fun _ => 0) 60 2) 62 2)))] s.heap.size = A at hD hE ⊢
  have hA : ∀ q : Nat, s.heap.size ≤ q → A q := fun q h => by rw [← hAe]; exact Or.inr h
  have hS : va_S A s.heap s.heap [] := va_S.rf
  have hl := lv_entry ([.ref h0, .int (nI N0), .int p0]) (n := 5) (Nat.le_of_ble_eq_true rfl)
  rw [lg_entry_eq]
  generalize (lg_sl ([.ref h0, .int (nI N0), .int p0]) ++ List.replicate (5 - (lg_sl ([.ref h0, .int (nI N0), .int p0])).length) Slot.unset).toArray = ls at hl ⊢
  have hl : lv_has ls 5 [(0, .ref h0), (1, .int (nI N0)), (2, .int p0)] := hl
  refine lv_aload_n hx hb dX12_passDays_0 rfl (lv_at hl 0 rfl) ?_
  refine lv_iload_n hx hb dX12_passDays_1 rfl (lv_at hl 2 rfl) ?_
  refine va_put (D := (dC, dI)) (ci := 11) (v := .int p0) (ty := .int) (C := RX12) (T := TX12) (N := 47) hx hb hts ii_X12_passDays_X12 tyX12 tyX12_ok nmX12 hown hK hP hD hS 0 rfl rfl 25 (by decide) (hts _ mm_X12_passDays_1) (fun _ h9 => h9) rfl (by decide +kernel) rfl rfl (Nat.le_of_ble_eq_true rfl) dX12_passDays_2 (fun H locs hP hD hS => ?_)
  have hP : va_P (dC, dI) vwCl [(h0, .inr (11, [.int 0, .ref h1, .int 0, .int 0, .int 0, .int 0, .int 0, .int 0, .int 0, .int 0, .int 0, .int 0, .long 0, .int 0, .ref h2, .ref h3, .ref h4, .ref h5, .ref h6, .ref h7, .ref h8, .ref h9, .ref h10, .int 1, .int 0, .int p0, .int 0, .int (-1), .int (-1), .long 0, .long 0, .ref h11, .ref h12, .int 0, .int (-1), .int 0, .ref h13, .int 0, .ref h14, .ref h15, .int 0, .int 0, .ref h16, .int 0, .int 0, .int 0, .int 0])), (h2, .inl (w0, 373, .inl (upd (upd (fun _ => 0) 60 2) 62 2)))] H := hP
  have hD : va_D A [(h0, .inr (11, [.int 0, .ref h1, .int 0, .int 0, .int 0, .int 0, .int 0, .int 0, .int 0, .int 0, .int 0, .int 0, .long 0, .int 0, .ref h2, .ref h3, .ref h4, .ref h5, .ref h6, .ref h7, .ref h8, .ref h9, .ref h10, .int 1, .int 0, .int p0, .int 0, .int (-1), .int (-1), .long 0, .long 0, .ref h11, .ref h12, .int 0, .int (-1), .int 0, .ref h13, .int 0, .ref h14, .ref h15, .int 0, .int 0, .ref h16, .int 0, .int 0, .int 0, .int 0])), (h2, .inl (w0, 373, .inl (upd (upd (fun _ => 0) 60 2) 62 2)))] := hD
  refine lv_iload_n hx hb dX12_passDays_5 rfl (lv_at hl 1 rfl) ?_
  refine lv_sipush (v := 400) hx hb dX12_passDays_6 (by decide) ?_
  refine lv_aload_n hx hb dX12_passDays_9 rfl (lv_at hl 0 rfl) ?_
  refine va_get (D := (dC, dI)) (ci := 11) (v := .ref h2) (C := RX12) (T := TX12) (N := 47) hx hb hts ii_X12_passDays_X12 hown hK hP 0 rfl rfl 14 (by decide) (hts _ mm_X12_passDays_2) (fun _ h9 => h9) rfl dX12_passDays_10 ?_
  refine lv_bipush (v := 61) hx hb dX12_passDays_13 (by decide) ?_
  refine va_iald hx hb hK hP 1 0 rfl rfl (i := 61) (zz_in (by decide)) dX12_passDays_15 ?_
  refine zz_top (v := 0) (by rfl) ?_
  refine lv_isub hx hb dX12_passDays_16 ?_
  refine zz_top (v := 400) (by decide) ?_
  have hPc := hP.sub (ws' := []) [] rfl
  have hDc := hD.sub (ws' := []) [] (by decide) rfl
  have hKc := hK.sub (tys' := []) [] rfl
  have hFc := va_free (wc := []) hD hS hA [] rfl
  refine va_calli (va_runS (As := [.int (nI N0), .int 400]) (rest := []) ⟨hx, hb, hml, hown, hts⟩ (k_X12_least l dC dI ad N0 H.size (by omega) (by omega)) (va_cwS 2 hts gX12_passDays_X12_least rfl rfl rfl (by decide +kernel) ⟨Nat.le_of_ble_eq_true rfl, Nat.le_of_ble_eq_true rfl⟩) ⟨fun a U g mk q => ⟨q.1, CP.blind q.2⟩, fun U hU hW => ⟨rfl, CP.of hPc hKc hDc hE hS hFc hU hW⟩⟩ rfl rfl hl.1 rfl (lv_room (Nat.le_of_ble_eq_true rfl)) dX12_passDays_17 ⟨Nat.le_of_ble_eq_true rfl, Nat.le_of_ble_eq_true rfl⟩) hS (fun q _ h => hFc q h) hFc (fun r1 u t H1 locs ht hvm hw hB hz1 hk1 hS => ?_)
  obtain ⟨hP1, hK1, hD1⟩ := hB
  rw [ht] at hP1
  obtain ⟨hP, hD⟩ := va_join (wr := [(h0, .inr (11, [.int 0, .ref h1, .int 0, .int 0, .int 0, .int 0, .int 0, .int 0, .int 0, .int 0, .int 0, .int 0, .long 0, .int 0, .ref h2, .ref h3, .ref h4, .ref h5, .ref h6, .ref h7, .ref h8, .ref h9, .ref h10, .int 1, .int 0, .int p0, .int 0, .int (-1), .int (-1), .long 0, .long 0, .ref h11, .ref h12, .int 0, .int (-1), .int 0, .ref h13, .int 0, .ref h14, .ref h15, .int 0, .int 0, .ref h16, .int 0, .int 0, .int 0, .int 0])), (h2, .inl (w0, 373, .inl (upd (upd (fun _ => 0) 60 2) 62 2)))]) (w1 := []) hP hD [] [0, 1] rfl rfl (by decide) (by decide) hk1 hFc hP1 hD1
  generalize H1 = H at hP hS ⊢
  clear hPc hDc hKc hFc hP1 hD1 hK1 hk1 hz1
  have hP : va_P (dC, dI) vwCl [(h0, .inr (11, [.int 0, .ref h1, .int 0, .int 0, .int 0, .int 0, .int 0, .int 0, .int 0, .int 0, .int 0, .int 0, .long 0, .int 0, .ref h2, .ref h3, .ref h4, .ref h5, .ref h6, .ref h7, .ref h8, .ref h9, .ref h10, .int 1, .int 0, .int p0, .int 0, .int (-1), .int (-1), .long 0, .long 0, .ref h11, .ref h12, .int 0, .int (-1), .int 0, .ref h13, .int 0, .ref h14, .ref h15, .int 0, .int 0, .ref h16, .int 0, .int 0, .int 0, .int 0])), (h2, .inl (w0, 373, .inl (upd (upd (fun _ => 0) 60 2) 62 2)))] H := hP
  have hD : va_D A [(h0, .inr (11, [.int 0, .ref h1, .int 0, .int 0, .int 0, .int 0, .int 0, .int 0, .int 0, .int 0, .int 0, .int 0, .long 0, .int 0, .ref h2, .ref h3, .ref h4, .ref h5, .ref h6, .ref h7, .ref h8, .ref h9, .ref h10, .int 1, .int 0, .int p0, .int 0, .int (-1), .int (-1), .long 0, .long 0, .ref h11, .ref h12, .int 0, .int (-1), .int 0, .ref h13, .int 0, .ref h14, .ref h15, .int 0, .int 0, .ref h16, .int 0, .int 0, .int 0, .int 0])), (h2, .inl (w0, 373, .inl (upd (upd (fun _ => 0) 60 2) 62 2)))] := hD
  refine zz_top (v := (nI N0)) hw ?_
  refine lv_istore_n (lv' := [(3, .int (nI N0)), (0, .ref h0), (1, .int (nI N0)), (2, .int p0)]) hx hb dX12_passDays_20 rfl hl (by decide) rfl (fun ls hl => ?_)
  refine lv_iconst (v := 0) hx hb dX12_passDays_21 (by decide) ?_
  refine lv_istore (lv' := [(4, .int 0), (3, .int (nI N0)), (0, .ref h0), (1, .int (nI N0)), (2, .int p0)]) hx hb dX12_passDays_22 hl (by decide) rfl (fun ls hl => ?_)
  rw [← zz_sw (f := (upd (upd (fun _ => 0) 60 2) 62 2)) (i := 61) (v := 0) rfl] at hP hD
  have hP : va_P (dC, dI) vwCl [(h0, .inr (11, [.int 0, .ref h1, .int 0, .int 0, .int 0, .int 0, .int 0, .int 0, .int 0, .int 0, .int 0, .int 0, .long 0, .int 0, .ref h2, .ref h3, .ref h4, .ref h5, .ref h6, .ref h7, .ref h8, .ref h9, .ref h10, .int 1, .int 0, .int p0, .int 0, .int (-1), .int (-1), .long 0, .long 0, .ref h11, .ref h12, .int 0, .int (-1), .int 0, .ref h13, .int 0, .ref h14, .ref h15, .int 0, .int 0, .ref h16, .int 0, .int 0, .int 0, .int 0])), (h2, .inl (w0, 373, .inl (upd (upd (upd (fun _ => 0) 60 2) 62 2) 61 0)))] H := hP
  have hD : va_D A [(h0, .inr (11, [.int 0, .ref h1, .int 0, .int 0, .int 0, .int 0, .int 0, .int 0, .int 0, .int 0, .int 0, .int 0, .long 0, .int 0, .ref h2, .ref h3, .ref h4, .ref h5, .ref h6, .ref h7, .ref h8, .ref h9, .ref h10, .int 1, .int 0, .int p0, .int 0, .int (-1), .int (-1), .long 0, .long 0, .ref h11, .ref h12, .int 0, .int (-1), .int 0, .ref h13, .int 0, .ref h14, .ref h15, .int 0, .int 0, .ref h16, .int 0, .int 0, .int 0, .int 0])), (h2, .inl (w0, 373, .inl (upd (upd (upd (fun _ => 0) 60 2) 62 2) 61 0)))] := hD
  refine zz_loop (σ := Unit) (fun (k : Nat) (x : Unit) (H : Heap) (locs : List Loc) (ls : Array Slot) => 0 ≤ k ∧ va_P (dC, dI) vwCl [(h0, .inr (11, [.int 0, .ref h1, .int 0, .int 0, .int 0, .int 0, .int 0, .int 0, .int 0, .int 0, .int 0, .int 0, .long 0, .int 0, .ref h2, .ref h3, .ref h4, .ref h5, .ref h6, .ref h7, .ref h8, .ref h9, .ref h10, .int 1, .int 0, .int p0, .int 0, .int (-1), .int (-1), .long 0, .long 0, .ref h11, .ref h12, .int 0, .int (-1), .int 0, .ref h13, .int 0, .ref h14, .ref h15, .int 0, .int 0, .ref h16, .int 0, .int 0, .int 0, .int 0])), (h2, .inl (w0, 373, .inl (upd (upd (upd (fun _ => 0) 60 2) 62 2) 61 (nI k))))] H ∧ va_D A [(h0, .inr (11, [.int 0, .ref h1, .int 0, .int 0, .int 0, .int 0, .int 0, .int 0, .int 0, .int 0, .int 0, .int 0, .long 0, .int 0, .ref h2, .ref h3, .ref h4, .ref h5, .ref h6, .ref h7, .ref h8, .ref h9, .ref h10, .int 1, .int 0, .int p0, .int 0, .int (-1), .int (-1), .long 0, .long 0, .ref h11, .ref h12, .int 0, .int (-1), .int 0, .ref h13, .int 0, .ref h14, .ref h15, .int 0, .int 0, .ref h16, .int 0, .int 0, .int 0, .int 0])), (h2, .inl (w0, 373, .inl (upd (upd (upd (fun _ => 0) 60 2) 62 2) 61 (nI k))))] ∧ va_S A s.heap H locs ∧ lv_has ls 5 [(4, .int (nI k)), (3, .int (nI N0)), (0, .ref h0), (1, .int (nI N0)), (2, .int p0)]) N0 ?_ ?_ 0 () _ _ _ (by omega) ⟨by omega, hP, hD, hS, hl⟩
  · rintro k2 _ H locs ls hkk2 ⟨hmk2, hP, hD, hS, hl⟩ ih
    have hP : va_P (dC, dI) vwCl [(h0, .inr (11, [.int 0, .ref h1, .int 0, .int 0, .int 0, .int 0, .int 0, .int 0, .int 0, .int 0, .int 0, .int 0, .long 0, .int 0, .ref h2, .ref h3, .ref h4, .ref h5, .ref h6, .ref h7, .ref h8, .ref h9, .ref h10, .int 1, .int 0, .int p0, .int 0, .int (-1), .int (-1), .long 0, .long 0, .ref h11, .ref h12, .int 0, .int (-1), .int 0, .ref h13, .int 0, .ref h14, .ref h15, .int 0, .int 0, .ref h16, .int 0, .int 0, .int 0, .int 0])), (h2, .inl (w0, 373, .inl (upd (upd (upd (fun _ => 0) 60 2) 62 2) 61 (nI k2))))] H := hP
    have hD : va_D A [(h0, .inr (11, [.int 0, .ref h1, .int 0, .int 0, .int 0, .int 0, .int 0, .int 0, .int 0, .int 0, .int 0, .int 0, .long 0, .int 0, .ref h2, .ref h3, .ref h4, .ref h5, .ref h6, .ref h7, .ref h8, .ref h9, .ref h10, .int 1, .int 0, .int p0, .int 0, .int (-1), .int (-1), .long 0, .long 0, .ref h11, .ref h12, .int 0, .int (-1), .int 0, .ref h13, .int 0, .ref h14, .ref h15, .int 0, .int 0, .ref h16, .int 0, .int 0, .int 0, .int 0])), (h2, .inl (w0, 373, .inl (upd (upd (upd (fun _ => 0) 60 2) 62 2) 61 (nI k2))))] := hD
    have hl : lv_has ls 5 [(4, .int (nI k2)), (3, .int (nI N0)), (0, .ref h0), (1, .int (nI N0)), (2, .int p0)] := hl
    refine lv_iload hx hb dX12_passDays_24 (lv_at hl 0 rfl) ?_
    refine lv_iload_n hx hb dX12_passDays_26 rfl (lv_at hl 1 rfl) ?_
    refine lv_icmp_ge (tgt := 40) hx hb dX12_passDays_27 (by decide) (fun c9 => absurd c9 (nI_ge (a := k2) (b := N0) (by omega) (by omega))) (fun _ => ?_)
    refine lv_aload_n hx hb dX12_passDays_30 rfl (lv_at hl 2 rfl) ?_
    have hPc := hP.sub (ws' := [(h0, .inr (11, [.int 0, .ref h1, .int 0, .int 0, .int 0, .int 0, .int 0, .int 0, .int 0, .int 0, .int 0, .int 0, .long 0, .int 0, .ref h2, .ref h3, .ref h4, .ref h5, .ref h6, .ref h7, .ref h8, .ref h9, .ref h10, .int 1, .int 0, .int p0, .int 0, .int (-1), .int (-1), .long 0, .long 0, .ref h11, .ref h12, .int 0, .int (-1), .int 0, .ref h13, .int 0, .ref h14, .ref h15, .int 0, .int 0, .ref h16, .int 0, .int 0, .int 0, .int 0])), (h2, .inl (w0, 373, .inl (upd (upd (upd (fun _ => 0) 60 2) 62 2) 61 (nI k2))))]) [0, 1] rfl
    have hDc := hD.sub (ws' := [(h0, .inr (11, [.int 0, .ref h1, .int 0, .int 0, .int 0, .int 0, .int 0, .int 0, .int 0, .int 0, .int 0, .int 0, .long 0, .int 0, .ref h2, .ref h3, .ref h4, .ref h5, .ref h6, .ref h7, .ref h8, .ref h9, .ref h10, .int 1, .int 0, .int p0, .int 0, .int (-1), .int (-1), .long 0, .long 0, .ref h11, .ref h12, .int 0, .int (-1), .int 0, .ref h13, .int 0, .ref h14, .ref h15, .int 0, .int 0, .ref h16, .int 0, .int 0, .int 0, .int 0])), (h2, .inl (w0, 373, .inl (upd (upd (upd (fun _ => 0) 60 2) 62 2) 61 (nI k2))))]) [0, 1] (by decide) rfl
    have hKc := hK.sub (tys' := [(w0, .int)]) [0] rfl
    have hFc := va_free (wc := [(h0, .inr (11, [.int 0, .ref h1, .int 0, .int 0, .int 0, .int 0, .int 0, .int 0, .int 0, .int 0, .int 0, .int 0, .long 0, .int 0, .ref h2, .ref h3, .ref h4, .ref h5, .ref h6, .ref h7, .ref h8, .ref h9, .ref h10, .int 1, .int 0, .int p0, .int 0, .int (-1), .int (-1), .long 0, .long 0, .ref h11, .ref h12, .int 0, .int (-1), .int 0, .ref h13, .int 0, .ref h14, .ref h15, .int 0, .int 0, .ref h16, .int 0, .int 0, .int 0, .int 0])), (h2, .inl (w0, 373, .inl (upd (upd (upd (fun _ => 0) 60 2) 62 2) 61 (nI k2))))]) hD hS hA [0, 1] rfl
    refine va_callv (va_runV (As := []) (rest := []) ⟨hx, hb, hml, hown, hts⟩ (k_X12_oneDay l dC dI ad h0 h1 h2 h3 h4 h5 h6 h7 h8 h9 h10 h11 h12 h13 h14 h15 h16 p0 w0 k2 H.size (by omega) (by omega)) (cwV 0 hts gX12_passDays_X12_oneDay rfl rfl rfl (by decide +kernel) ⟨Nat.le_of_ble_eq_true rfl, Nat.le_of_ble_eq_true rfl⟩) ⟨fun a U g mk q => ⟨q.1, CP.blind q.2⟩, va_recv hKc hPc (ci := 11) (q0 := 0) rfl rfl, fun U hU hW => ⟨rfl, CP.of hPc hKc hDc hE hS hFc hU hW⟩⟩ rfl rfl hl.1 rfl (lv_room (Nat.le_of_ble_eq_true rfl)) dX12_passDays_31 ⟨Nat.le_of_ble_eq_true rfl, Nat.le_of_ble_eq_true rfl⟩) hS (fun q _ h => hFc q h) hFc (fun u t H1 locs ht hvm hw hB hz1 hk1 hS => ?_)
    obtain ⟨hP1, hK1, hD1⟩ := hB
    rw [ht] at hP1
    obtain ⟨hP, hD⟩ := va_join (wr := []) (w1 := [(h0, .inr (11, [.int 0, .ref h1, .int 0, .int 0, .int 0, .int 0, .int 0, .int 0, .int 0, .int 0, .int 0, .int 0, .long 0, .int 0, .ref h2, .ref h3, .ref h4, .ref h5, .ref h6, .ref h7, .ref h8, .ref h9, .ref h10, .int 1, .int 0, .int p0, .int 0, .int (-1), .int (-1), .long 0, .long 0, .ref h11, .ref h12, .int 0, .int (-1), .int 0, .ref h13, .int 0, .ref h14, .ref h15, .int 0, .int 0, .ref h16, .int 0, .int 0, .int 0, .int 0])), (h2, .inl (w0, 373, .inl (upd (upd (upd (fun _ => 0) 60 2) 62 2) 61 (nI (k2 + 1)))))]) hP hD [0, 1] [] rfl rfl (by decide) (by decide) hk1 hFc hP1 hD1
    generalize H1 = H at hP hS ⊢
    clear hPc hDc hKc hFc hP1 hD1 hK1 hk1 hz1
    have hP : va_P (dC, dI) vwCl [(h0, .inr (11, [.int 0, .ref h1, .int 0, .int 0, .int 0, .int 0, .int 0, .int 0, .int 0, .int 0, .int 0, .int 0, .long 0, .int 0, .ref h2, .ref h3, .ref h4, .ref h5, .ref h6, .ref h7, .ref h8, .ref h9, .ref h10, .int 1, .int 0, .int p0, .int 0, .int (-1), .int (-1), .long 0, .long 0, .ref h11, .ref h12, .int 0, .int (-1), .int 0, .ref h13, .int 0, .ref h14, .ref h15, .int 0, .int 0, .ref h16, .int 0, .int 0, .int 0, .int 0])), (h2, .inl (w0, 373, .inl (upd (upd (upd (fun _ => 0) 60 2) 62 2) 61 (nI (k2 + 1)))))] H := hP
    have hD : va_D A [(h0, .inr (11, [.int 0, .ref h1, .int 0, .int 0, .int 0, .int 0, .int 0, .int 0, .int 0, .int 0, .int 0, .int 0, .long 0, .int 0, .ref h2, .ref h3, .ref h4, .ref h5, .ref h6, .ref h7, .ref h8, .ref h9, .ref h10, .int 1, .int 0, .int p0, .int 0, .int (-1), .int (-1), .long 0, .long 0, .ref h11, .ref h12, .int 0, .int (-1), .int 0, .ref h13, .int 0, .ref h14, .ref h15, .int 0, .int 0, .ref h16, .int 0, .int 0, .int 0, .int 0])), (h2, .inl (w0, 373, .inl (upd (upd (upd (fun _ => 0) 60 2) 62 2) 61 (nI (k2 + 1)))))] := hD
    refine lv_iinc (v := (nI (k2 + 1))) (lv' := [(4, .int (nI (k2 + 1))), (3, .int (nI N0)), (0, .ref h0), (1, .int (nI N0)), (2, .int p0)]) hx hb dX12_passDays_34 hl (k := 0) rfl (zz_addr k2 1) (by decide) rfl (fun ls hl => ?_)
    refine lv_goto (tgt := 24) hx hb dX12_passDays_37 (by decide) ?_
    exact ih () _ _ _ ⟨by omega, hP, hD, hS, lv_sub hl [0, 1, 2, 3, 4] rfl⟩
  rintro _ H locs ls ⟨-, hP, hD, hS, hl⟩
  have hP : va_P (dC, dI) vwCl [(h0, .inr (11, [.int 0, .ref h1, .int 0, .int 0, .int 0, .int 0, .int 0, .int 0, .int 0, .int 0, .int 0, .int 0, .long 0, .int 0, .ref h2, .ref h3, .ref h4, .ref h5, .ref h6, .ref h7, .ref h8, .ref h9, .ref h10, .int 1, .int 0, .int p0, .int 0, .int (-1), .int (-1), .long 0, .long 0, .ref h11, .ref h12, .int 0, .int (-1), .int 0, .ref h13, .int 0, .ref h14, .ref h15, .int 0, .int 0, .ref h16, .int 0, .int 0, .int 0, .int 0])), (h2, .inl (w0, 373, .inl (upd (upd (upd (fun _ => 0) 60 2) 62 2) 61 (nI N0))))] H := hP
  have hD : va_D A [(h0, .inr (11, [.int 0, .ref h1, .int 0, .int 0, .int 0, .int 0, .int 0, .int 0, .int 0, .int 0, .int 0, .int 0, .long 0, .int 0, .ref h2, .ref h3, .ref h4, .ref h5, .ref h6, .ref h7, .ref h8, .ref h9, .ref h10, .int 1, .int 0, .int p0, .int 0, .int (-1), .int (-1), .long 0, .long 0, .ref h11, .ref h12, .int 0, .int (-1), .int 0, .ref h13, .int 0, .ref h14, .ref h15, .int 0, .int 0, .ref h16, .int 0, .int 0, .int 0, .int 0])), (h2, .inl (w0, 373, .inl (upd (upd (upd (fun _ => 0) 60 2) 62 2) 61 (nI N0))))] := hD
  have hl : lv_has ls 5 [(4, .int (nI N0)), (3, .int (nI N0)), (0, .ref h0), (1, .int (nI N0)), (2, .int p0)] := hl
  refine lv_iload hx hb dX12_passDays_24 (lv_at hl 0 rfl) ?_
  refine lv_iload_n hx hb dX12_passDays_26 rfl (lv_at hl 1 rfl) ?_
  refine lv_icmp_ge (tgt := 40) hx hb dX12_passDays_27 (by decide) (fun _ => ?_) (fun c9 => absurd (nI_le (a := N0) (b := N0) (by omega) (by omega)) c9)
  refine lv_iload_n hx hb dX12_passDays_40 rfl (lv_at hl 1 rfl) ?_
  have hP9 := hP.sub (ws' := [(h0, .inr (11, [.int 0, .ref h1, .int 0, .int 0, .int 0, .int 0, .int 0, .int 0, .int 0, .int 0, .int 0, .int 0, .long 0, .int 0, .ref h2, .ref h3, .ref h4, .ref h5, .ref h6, .ref h7, .ref h8, .ref h9, .ref h10, .int 1, .int 0, .int p0, .int 0, .int (-1), .int (-1), .long 0, .long 0, .ref h11, .ref h12, .int 0, .int (-1), .int 0, .ref h13, .int 0, .ref h14, .ref h15, .int 0, .int 0, .ref h16, .int 0, .int 0, .int 0, .int 0])), (h2, .inl (w0, 373, .inl (upd (upd (upd (fun _ => 0) 60 2) 62 2) 61 (nI N0))))]) [0, 1] rfl
  have hD9 := hD.sub (ws' := [(h0, .inr (11, [.int 0, .ref h1, .int 0, .int 0, .int 0, .int 0, .int 0, .int 0, .int 0, .int 0, .int 0, .int 0, .long 0, .int 0, .ref h2, .ref h3, .ref h4, .ref h5, .ref h6, .ref h7, .ref h8, .ref h9, .ref h10, .int 1, .int 0, .int p0, .int 0, .int (-1), .int (-1), .long 0, .long 0, .ref h11, .ref h12, .int 0, .int (-1), .int 0, .ref h13, .int 0, .ref h14, .ref h15, .int 0, .int 0, .ref h16, .int 0, .int 0, .int 0, .int 0])), (h2, .inl (w0, 373, .inl (upd (upd (upd (fun _ => 0) 60 2) 62 2) 61 (nI N0))))]) [0, 1] (by decide) rfl
  have hK9 := hK.sub (tys' := []) [] rfl
  refine W.widen (k := 0) (n := 0) (Nat.le_of_ble_eq_true rfl) (Nat.le_of_ble_eq_true rfl) ?_
  exact W.iret (v := (nI N0)) hx hb hr (fun t ht hW => ⟨⟨(nI N0), (), rfl, rfl, by rw [ht]; exact hP9, va_K.moved hW.alike hK9, hD9⟩, hS.F ht⟩) hS.2.2 dX12_passDays_41
set_option maxHeartbeats 4000000 in
set_option maxRecDepth 100000 in
theorem k_X12_days_2 (l : Launch) (dC : Nat → ClassId) (dI : Nat → Nat → Nat) (ad : Nat → Nat) (h0 h1 h2 h3 h4 h5 h6 h7 h8 h9 h10 h11 h12 h13 h14 h15 h16 : Nat) (p0 : Int32) (w0 w1 : ClassId) (N0 : Nat) (sz : Nat) (hN0a : 1 ≤ N0) (hN0b : N0 < 31) : Met l yX12_days wsX12_days ({ frames := 2, cells := 0, slots := 0, locals := 46 }) (va_Pc [.ref h0, .int (nI N0), .int p0] (CP (dC, dI) [(h1, .inl (w0, 560, .inl (fun _ => 0))), (h0, .inr (11, [.int 0, .ref h2, .int 0, .int 0, .int 0, .int 0, .int 0, .int 0, .int 0, .int 0, .int 0, .int 0, .long 0, .int 0, .ref h3, .ref h4, .ref h5, .ref h1, .ref h6, .ref h7, .ref h8, .ref h9, .ref h10, .int 0, .int 0, .int 0, .int 0, .int (-1), .int (-1), .long 0, .long 0, .ref h11, .ref h12, .int 0, .int (-1), .int 0, .ref h13, .int 0, .ref h14, .ref h15, .int 0, .int 0, .ref h16, .int 0, .int 0, .int 0, .int 0])), (h3, .inl (w1, 373, .inl (upd (upd (fun _ => 0) 60 2) 62 2)))] [(w1, .int), (w0, .int)] sz ad)) (va_Qi (fun (r : Int32) (_ : Unit) => r = (nI N0)) (fun (_ : Unit) (t : State) => CQ (dC, dI) [] [] (va_A [(h1, .inl (w0, 560, .inl (fun _ => 0))), (h0, .inr (11, [.int 0, .ref h2, .int 0, .int 0, .int 0, .int 0, .int 0, .int 0, .int 0, .int 0, .int 0, .int 0, .long 0, .int 0, .ref h3, .ref h4, .ref h5, .ref h1, .ref h6, .ref h7, .ref h8, .ref h9, .ref h10, .int 0, .int 0, .int 0, .int 0, .int (-1), .int (-1), .long 0, .long 0, .ref h11, .ref h12, .int 0, .int (-1), .int 0, .ref h13, .int 0, .ref h14, .ref h15, .int 0, .int 0, .ref h16, .int 0, .int 0, .int 0, .int 0])), (h3, .inl (w1, 373, .inl (upd (upd (fun _ => 0) 60 2) 62 2)))] sz) t) (va_A [(h1, .inl (w0, 560, .inl (fun _ => 0))), (h0, .inr (11, [.int 0, .ref h2, .int 0, .int 0, .int 0, .int 0, .int 0, .int 0, .int 0, .int 0, .int 0, .int 0, .long 0, .int 0, .ref h3, .ref h4, .ref h5, .ref h1, .ref h6, .ref h7, .ref h8, .ref h9, .ref h10, .int 0, .int 0, .int 0, .int 0, .int (-1), .int (-1), .long 0, .long 0, .ref h11, .ref h12, .int 0, .int (-1), .int 0, .ref h13, .int 0, .ref h14, .ref h15, .int 0, .int 0, .ref h16, .int 0, .int 0, .int 0, .int 0])), (h3, .inl (w1, 373, .inl (upd (upd (fun _ => 0) 60 2) 62 2)))] sz)) 0 0 (va_A [(h1, .inl (w0, 560, .inl (fun _ => 0))), (h0, .inr (11, [.int 0, .ref h2, .int 0, .int 0, .int 0, .int 0, .int 0, .int 0, .int 0, .int 0, .int 0, .int 0, .long 0, .int 0, .ref h3, .ref h4, .ref h5, .ref h1, .ref h6, .ref h7, .ref h8, .ref h9, .ref h10, .int 0, .int 0, .int 0, .int 0, .int (-1), .int (-1), .long 0, .long 0, .ref h11, .ref h12, .int 0, .int (-1), .int 0, .ref h13, .int 0, .ref h14, .ref h15, .int 0, .int 0, .ref h16, .int 0, .int 0, .int 0, .int 0])), (h3, .inl (w1, 373, .inl (upd (upd (fun _ => 0) 60 2) 62 2)))] sz) := by
  refine Met.ofW (cc := cX12_days) (maxL := 3) (ret := (some .int)) (by decide) rfl ?_
  intro p e s m args below meth c s₁ B hml hv
  obtain ⟨rfl, hsz, hP, hK, hD0, hE⟩ := hv
  have hx := B.exec
  have hb := B.bytes
  have hr := B.returns
  have hts := atoms_spec (ws := wsX12_days) B.pre
  have hown : s.vm.findClass RX12 = some m.cls := findClass_of_methodNamed B.named
  have hlocks := B.notSynchronized
  subst hsz
  have hD := hD0.self (sz := s.heap.size)
  generalize hAe : va_A [(h1, .inl (w0, 560, .inl (fun _ => 0))), (h0, .inr (11, [.int 0, .ref h2, .int 0, .int 0, .int 0, .int 0, .int 0, .int 0, .int 0, .int 0, .int 0, .int 0, .long 0, .int 0, .ref h3, .ref h4, .ref h5, .ref h1, .ref h6, .ref h7, .ref h8, .ref h9, .ref h10, .int 0, .int 0, .int 0, .int 0, .int (-1), .int (-1), .long 0, .long 0, .ref h11, .ref h12, .int 0, .int (-1), .int 0, .ref h13, .int 0, .ref h14, .ref h15, .int 0, .int 0, .ref h16, .int 0, .int 0, .int 0, .int 0])), (h3, .inl (w1, 373, .inl (upd (upd (fun _ => 0) 60 2) 62 2)))] s.heap.size = A at hD hE ⊢
  have hA : ∀ q : Nat, s.heap.size ≤ q → A q := fun q h => by rw [← hAe]; exact Or.inr h
  have hS : va_S A s.heap s.heap [] := va_S.rf
  have hl := lv_entry ([.ref h0, .int (nI N0), .int p0]) (n := 3) (Nat.le_of_ble_eq_true rfl)
  rw [lg_entry_eq]
  generalize (lg_sl ([.ref h0, .int (nI N0), .int p0]) ++ List.replicate (3 - (lg_sl ([.ref h0, .int (nI N0), .int p0])).length) Slot.unset).toArray = ls at hl ⊢
  have hl : lv_has ls 3 [(0, .ref h0), (1, .int (nI N0)), (2, .int p0)] := hl
  refine lv_aload_n hx hb dX12_days_0 rfl (lv_at hl 0 rfl) ?_
  refine lv_iconst (v := 0) hx hb dX12_days_1 (by decide) ?_
  refine va_put (D := (dC, dI)) (ci := 11) (v := .int 0) (ty := .int) (C := RX12) (T := TX12) (N := 47) hx hb hts ii_X12_days_X12 tyX12 tyX12_ok nmX12 hown hK hP hD hS 1 rfl rfl 0 (by decide) (hts _ mm_X12_days_1) (fun _ h9 => h9) rfl (by decide +kernel) rfl rfl (Nat.le_of_ble_eq_true rfl) dX12_days_2 (fun H locs hP hD hS => ?_)
  have hP : va_P (dC, dI) vwCl [(h1, .inl (w0, 560, .inl (fun _ => 0))), (h0, .inr (11, [.int 0, .ref h2, .int 0, .int 0, .int 0, .int 0, .int 0, .int 0, .int 0, .int 0, .int 0, .int 0, .long 0, .int 0, .ref h3, .ref h4, .ref h5, .ref h1, .ref h6, .ref h7, .ref h8, .ref h9, .ref h10, .int 0, .int 0, .int 0, .int 0, .int (-1), .int (-1), .long 0, .long 0, .ref h11, .ref h12, .int 0, .int (-1), .int 0, .ref h13, .int 0, .ref h14, .ref h15, .int 0, .int 0, .ref h16, .int 0, .int 0, .int 0, .int 0])), (h3, .inl (w1, 373, .inl (upd (upd (fun _ => 0) 60 2) 62 2)))] H := hP
  have hD : va_D A [(h1, .inl (w0, 560, .inl (fun _ => 0))), (h0, .inr (11, [.int 0, .ref h2, .int 0, .int 0, .int 0, .int 0, .int 0, .int 0, .int 0, .int 0, .int 0, .int 0, .long 0, .int 0, .ref h3, .ref h4, .ref h5, .ref h1, .ref h6, .ref h7, .ref h8, .ref h9, .ref h10, .int 0, .int 0, .int 0, .int 0, .int (-1), .int (-1), .long 0, .long 0, .ref h11, .ref h12, .int 0, .int (-1), .int 0, .ref h13, .int 0, .ref h14, .ref h15, .int 0, .int 0, .ref h16, .int 0, .int 0, .int 0, .int 0])), (h3, .inl (w1, 373, .inl (upd (upd (fun _ => 0) 60 2) 62 2)))] := hD
  refine lv_iload_n hx hb dX12_days_5 rfl (lv_at hl 1 rfl) ?_
  refine lv_iconst (v := 1) hx hb dX12_days_6 (by decide) ?_
  refine lv_bipush (v := 30) hx hb dX12_days_7 (by decide) ?_
  have hPc := hP.sub (ws' := []) [] rfl
  have hDc := hD.sub (ws' := []) [] (by decide) rfl
  have hKc := hK.sub (tys' := []) [] rfl
  have hFc := va_free (wc := []) hD hS hA [] rfl
  refine va_calli (va_runS (As := [.int (nI N0), .int 1, .int 30]) (rest := []) ⟨hx, hb, hml, hown, hts⟩ (k_X12_isIn_7 l dC dI ad N0 H.size (by omega) (by omega)) (va_cwS 3 hts gX12_days_X12_isIn rfl rfl rfl (by decide +kernel) ⟨Nat.le_of_ble_eq_true rfl, Nat.le_of_ble_eq_true rfl⟩) ⟨fun a U g mk q => ⟨q.1, CP.blind q.2⟩, fun U hU hW => ⟨rfl, CP.of hPc hKc hDc hE hS hFc hU hW⟩⟩ rfl rfl hl.1 rfl (lv_room (Nat.le_of_ble_eq_true rfl)) dX12_days_9 ⟨Nat.le_of_ble_eq_true rfl, Nat.le_of_ble_eq_true rfl⟩) hS (fun q _ h => hFc q h) hFc (fun r1 u t H1 locs ht hvm hw hB hz1 hk1 hS => ?_)
  obtain ⟨hP1, hK1, hD1⟩ := hB
  rw [ht] at hP1
  obtain ⟨hP, hD⟩ := va_join (wr := [(h1, .inl (w0, 560, .inl (fun _ => 0))), (h0, .inr (11, [.int 0, .ref h2, .int 0, .int 0, .int 0, .int 0, .int 0, .int 0, .int 0, .int 0, .int 0, .int 0, .long 0, .int 0, .ref h3, .ref h4, .ref h5, .ref h1, .ref h6, .ref h7, .ref h8, .ref h9, .ref h10, .int 0, .int 0, .int 0, .int 0, .int (-1), .int (-1), .long 0, .long 0, .ref h11, .ref h12, .int 0, .int (-1), .int 0, .ref h13, .int 0, .ref h14, .ref h15, .int 0, .int 0, .ref h16, .int 0, .int 0, .int 0, .int 0])), (h3, .inl (w1, 373, .inl (upd (upd (fun _ => 0) 60 2) 62 2)))]) (w1 := []) hP hD [] [0, 1, 2] rfl rfl (by decide) (by decide) hk1 hFc hP1 hD1
  generalize H1 = H at hP hS ⊢
  clear hPc hDc hKc hFc hP1 hD1 hK1 hk1 hz1
  have hP : va_P (dC, dI) vwCl [(h1, .inl (w0, 560, .inl (fun _ => 0))), (h0, .inr (11, [.int 0, .ref h2, .int 0, .int 0, .int 0, .int 0, .int 0, .int 0, .int 0, .int 0, .int 0, .int 0, .long 0, .int 0, .ref h3, .ref h4, .ref h5, .ref h1, .ref h6, .ref h7, .ref h8, .ref h9, .ref h10, .int 0, .int 0, .int 0, .int 0, .int (-1), .int (-1), .long 0, .long 0, .ref h11, .ref h12, .int 0, .int (-1), .int 0, .ref h13, .int 0, .ref h14, .ref h15, .int 0, .int 0, .ref h16, .int 0, .int 0, .int 0, .int 0])), (h3, .inl (w1, 373, .inl (upd (upd (fun _ => 0) 60 2) 62 2)))] H := hP
  have hD : va_D A [(h1, .inl (w0, 560, .inl (fun _ => 0))), (h0, .inr (11, [.int 0, .ref h2, .int 0, .int 0, .int 0, .int 0, .int 0, .int 0, .int 0, .int 0, .int 0, .int 0, .long 0, .int 0, .ref h3, .ref h4, .ref h5, .ref h1, .ref h6, .ref h7, .ref h8, .ref h9, .ref h10, .int 0, .int 0, .int 0, .int 0, .int (-1), .int (-1), .long 0, .long 0, .ref h11, .ref h12, .int 0, .int (-1), .int 0, .ref h13, .int 0, .ref h14, .ref h15, .int 0, .int 0, .ref h16, .int 0, .int 0, .int 0, .int 0])), (h3, .inl (w1, 373, .inl (upd (upd (fun _ => 0) 60 2) 62 2)))] := hD
  refine zz_top (v := 1) hw ?_
  refine lv_if_ne (tgt := 17) hx hb dX12_days_12 (by decide) (fun _ => ?_) (fun c2 => absurd c2 (by decide))
  refine lv_aload_n hx hb dX12_days_17 rfl (lv_at hl 0 rfl) ?_
  refine va_get (D := (dC, dI)) (ci := 11) (v := .ref h3) (C := RX12) (T := TX12) (N := 47) hx hb hts ii_X12_days_X12 hown hK hP 1 rfl rfl 14 (by decide) (hts _ mm_X12_days_2) (fun _ h9 => h9) rfl dX12_days_18 ?_
  refine lv_bipush (v := 61) hx hb dX12_days_21 (by decide) ?_
  refine va_iald hx hb hK hP 2 0 rfl rfl (i := 61) (zz_in (by decide)) dX12_days_23 ?_
  refine zz_top (v := 0) (by rfl) ?_
  refine lv_sipush (v := 400) hx hb dX12_days_24 (by decide) ?_
  refine lv_icmp_ne (tgt := 32) hx hb dX12_days_27 (by decide) (fun _ => ?_) (fun c3 => absurd c3 (by decide))
  refine lv_aload_n hx hb dX12_days_32 rfl (lv_at hl 0 rfl) ?_
  have hPc := hP.sub (ws' := [(h1, .inl (w0, 560, .inl (fun _ => 0))), (h0, .inr (11, [.int 0, .ref h2, .int 0, .int 0, .int 0, .int 0, .int 0, .int 0, .int 0, .int 0, .int 0, .int 0, .long 0, .int 0, .ref h3, .ref h4, .ref h5, .ref h1, .ref h6, .ref h7, .ref h8, .ref h9, .ref h10, .int 0, .int 0, .int 0, .int 0, .int (-1), .int (-1), .long 0, .long 0, .ref h11, .ref h12, .int 0, .int (-1), .int 0, .ref h13, .int 0, .ref h14, .ref h15, .int 0, .int 0, .ref h16, .int 0, .int 0, .int 0, .int 0])), (h3, .inl (w1, 373, .inl (upd (upd (fun _ => 0) 60 2) 62 2)))]) [0, 1, 2] rfl
  have hDc := hD.sub (ws' := [(h1, .inl (w0, 560, .inl (fun _ => 0))), (h0, .inr (11, [.int 0, .ref h2, .int 0, .int 0, .int 0, .int 0, .int 0, .int 0, .int 0, .int 0, .int 0, .int 0, .long 0, .int 0, .ref h3, .ref h4, .ref h5, .ref h1, .ref h6, .ref h7, .ref h8, .ref h9, .ref h10, .int 0, .int 0, .int 0, .int 0, .int (-1), .int (-1), .long 0, .long 0, .ref h11, .ref h12, .int 0, .int (-1), .int 0, .ref h13, .int 0, .ref h14, .ref h15, .int 0, .int 0, .ref h16, .int 0, .int 0, .int 0, .int 0])), (h3, .inl (w1, 373, .inl (upd (upd (fun _ => 0) 60 2) 62 2)))]) [0, 1, 2] (by decide) rfl
  have hKc := hK.sub (tys' := [(w1, .int), (w0, .int)]) [0, 1] rfl
  have hFc := va_free (wc := [(h1, .inl (w0, 560, .inl (fun _ => 0))), (h0, .inr (11, [.int 0, .ref h2, .int 0, .int 0, .int 0, .int 0, .int 0, .int 0, .int 0, .int 0, .int 0, .int 0, .long 0, .int 0, .ref h3, .ref h4, .ref h5, .ref h1, .ref h6, .ref h7, .ref h8, .ref h9, .ref h10, .int 0, .int 0, .int 0, .int 0, .int (-1), .int (-1), .long 0, .long 0, .ref h11, .ref h12, .int 0, .int (-1), .int 0, .ref h13, .int 0, .ref h14, .ref h15, .int 0, .int 0, .ref h16, .int 0, .int 0, .int 0, .int 0])), (h3, .inl (w1, 373, .inl (upd (upd (fun _ => 0) 60 2) 62 2)))]) hD hS hA [0, 1, 2] rfl
  refine va_callv (va_runV (As := []) (rest := []) ⟨hx, hb, hml, hown, hts⟩ (k_X12_snap l dC dI ad h0 h1 h2 h3 h4 h5 h6 h7 h8 h9 h10 h11 h12 h13 h14 h15 h16 w0 w1 H.size) (cwV 0 hts gX12_days_X12_snap rfl rfl rfl (by decide +kernel) ⟨Nat.le_of_ble_eq_true rfl, Nat.le_of_ble_eq_true rfl⟩) ⟨fun a U g mk q => ⟨q.1, CP.blind q.2⟩, va_recv hKc hPc (ci := 11) (q0 := 1) rfl rfl, fun U hU hW => ⟨rfl, CP.of hPc hKc hDc hE hS hFc hU hW⟩⟩ rfl rfl hl.1 rfl (lv_room (Nat.le_of_ble_eq_true rfl)) dX12_days_33 ⟨Nat.le_of_ble_eq_true rfl, Nat.le_of_ble_eq_true rfl⟩) hS (fun q _ h => hFc q h) hFc (fun u t H1 locs ht hvm hw hB hz1 hk1 hS => ?_)
  obtain ⟨f4, hP1, hK1, hD1⟩ := hB
  rw [ht] at hP1
  obtain ⟨hP, hD⟩ := va_join (wr := []) (w1 := [(h1, .inl (w0, 560, .inl f4)), (h0, .inr (11, [.int 0, .ref h2, .int 0, .int 0, .int 0, .int 0, .int 0, .int 0, .int 0, .int 0, .int 0, .int 0, .long 0, .int 0, .ref h3, .ref h4, .ref h5, .ref h1, .ref h6, .ref h7, .ref h8, .ref h9, .ref h10, .int 1, .int 0, .int 0, .int 0, .int (-1), .int (-1), .long 0, .long 0, .ref h11, .ref h12, .int 0, .int (-1), .int 0, .ref h13, .int 0, .ref h14, .ref h15, .int 0, .int 0, .ref h16, .int 0, .int 0, .int 0, .int 0])), (h3, .inl (w1, 373, .inl (upd (upd (fun _ => 0) 60 2) 62 2)))]) hP hD [0, 1, 2] [] rfl rfl (by decide) (by decide) hk1 hFc hP1 hD1
  generalize H1 = H at hP hS ⊢
  clear hPc hDc hKc hFc hP1 hD1 hK1 hk1 hz1
  have hP : va_P (dC, dI) vwCl [(h1, .inl (w0, 560, .inl f4)), (h0, .inr (11, [.int 0, .ref h2, .int 0, .int 0, .int 0, .int 0, .int 0, .int 0, .int 0, .int 0, .int 0, .int 0, .long 0, .int 0, .ref h3, .ref h4, .ref h5, .ref h1, .ref h6, .ref h7, .ref h8, .ref h9, .ref h10, .int 1, .int 0, .int 0, .int 0, .int (-1), .int (-1), .long 0, .long 0, .ref h11, .ref h12, .int 0, .int (-1), .int 0, .ref h13, .int 0, .ref h14, .ref h15, .int 0, .int 0, .ref h16, .int 0, .int 0, .int 0, .int 0])), (h3, .inl (w1, 373, .inl (upd (upd (fun _ => 0) 60 2) 62 2)))] H := hP
  have hD : va_D A [(h1, .inl (w0, 560, .inl f4)), (h0, .inr (11, [.int 0, .ref h2, .int 0, .int 0, .int 0, .int 0, .int 0, .int 0, .int 0, .int 0, .int 0, .int 0, .long 0, .int 0, .ref h3, .ref h4, .ref h5, .ref h1, .ref h6, .ref h7, .ref h8, .ref h9, .ref h10, .int 1, .int 0, .int 0, .int 0, .int (-1), .int (-1), .long 0, .long 0, .ref h11, .ref h12, .int 0, .int (-1), .int 0, .ref h13, .int 0, .ref h14, .ref h15, .int 0, .int 0, .ref h16, .int 0, .int 0, .int 0, .int 0])), (h3, .inl (w1, 373, .inl (upd (upd (fun _ => 0) 60 2) 62 2)))] := hD
  refine lv_aload_n hx hb dX12_days_36 rfl (lv_at hl 0 rfl) ?_
  refine lv_iload_n hx hb dX12_days_37 rfl (lv_at hl 1 rfl) ?_
  refine lv_iload_n hx hb dX12_days_38 rfl (lv_at hl 2 rfl) ?_
  have hPc := hP.sub (ws' := [(h0, .inr (11, [.int 0, .ref h2, .int 0, .int 0, .int 0, .int 0, .int 0, .int 0, .int 0, .int 0, .int 0, .int 0, .long 0, .int 0, .ref h3, .ref h4, .ref h5, .ref h1, .ref h6, .ref h7, .ref h8, .ref h9, .ref h10, .int 1, .int 0, .int 0, .int 0, .int (-1), .int (-1), .long 0, .long 0, .ref h11, .ref h12, .int 0, .int (-1), .int 0, .ref h13, .int 0, .ref h14, .ref h15, .int 0, .int 0, .ref h16, .int 0, .int 0, .int 0, .int 0])), (h3, .inl (w1, 373, .inl (upd (upd (fun _ => 0) 60 2) 62 2)))]) [1, 2] rfl
  have hDc := hD.sub (ws' := [(h0, .inr (11, [.int 0, .ref h2, .int 0, .int 0, .int 0, .int 0, .int 0, .int 0, .int 0, .int 0, .int 0, .int 0, .long 0, .int 0, .ref h3, .ref h4, .ref h5, .ref h1, .ref h6, .ref h7, .ref h8, .ref h9, .ref h10, .int 1, .int 0, .int 0, .int 0, .int (-1), .int (-1), .long 0, .long 0, .ref h11, .ref h12, .int 0, .int (-1), .int 0, .ref h13, .int 0, .ref h14, .ref h15, .int 0, .int 0, .ref h16, .int 0, .int 0, .int 0, .int 0])), (h3, .inl (w1, 373, .inl (upd (upd (fun _ => 0) 60 2) 62 2)))]) [1, 2] (by decide) rfl
  have hKc := hK.sub (tys' := [(w1, .int)]) [0] rfl
  have hFc := va_free (wc := [(h0, .inr (11, [.int 0, .ref h2, .int 0, .int 0, .int 0, .int 0, .int 0, .int 0, .int 0, .int 0, .int 0, .int 0, .long 0, .int 0, .ref h3, .ref h4, .ref h5, .ref h1, .ref h6, .ref h7, .ref h8, .ref h9, .ref h10, .int 1, .int 0, .int 0, .int 0, .int (-1), .int (-1), .long 0, .long 0, .ref h11, .ref h12, .int 0, .int (-1), .int 0, .ref h13, .int 0, .ref h14, .ref h15, .int 0, .int 0, .ref h16, .int 0, .int 0, .int 0, .int 0])), (h3, .inl (w1, 373, .inl (upd (upd (fun _ => 0) 60 2) 62 2)))]) hD hS hA [1, 2] rfl
  refine va_calli (va_runV (As := [.int (nI N0), .int p0]) (rest := []) ⟨hx, hb, hml, hown, hts⟩ (k_X12_passDays l dC dI ad h0 h2 h3 h4 h5 h1 h6 h7 h8 h9 h10 h11 h12 h13 h14 h15 h16 p0 w1 N0 H.size (by omega) (by omega)) (cwV 2 hts gX12_days_X12_passDays rfl rfl rfl (by decide +kernel) ⟨Nat.le_of_ble_eq_true rfl, Nat.le_of_ble_eq_true rfl⟩) ⟨fun a U g mk q => ⟨q.1, CP.blind q.2⟩, va_recv hKc hPc (ci := 11) (q0 := 0) rfl rfl, fun U hU hW => ⟨rfl, CP.of hPc hKc hDc hE hS hFc hU hW⟩⟩ rfl rfl hl.1 rfl (lv_room (Nat.le_of_ble_eq_true rfl)) dX12_days_39 ⟨Nat.le_of_ble_eq_true rfl, Nat.le_of_ble_eq_true rfl⟩) hS (fun q _ h => hFc q h) hFc (fun r5 u t H1 locs ht hvm hw hB hz1 hk1 hS => ?_)
  obtain ⟨hP1, hK1, hD1⟩ := hB
  rw [ht] at hP1
  obtain ⟨hP, hD⟩ := va_join (wr := [(h1, .inl (w0, 560, .inl f4))]) (w1 := [(h0, .inr (11, [.int 0, .ref h2, .int 0, .int 0, .int 0, .int 0, .int 0, .int 0, .int 0, .int 0, .int 0, .int 0, .long 0, .int 0, .ref h3, .ref h4, .ref h5, .ref h1, .ref h6, .ref h7, .ref h8, .ref h9, .ref h10, .int 1, .int 0, .int p0, .int 0, .int (-1), .int (-1), .long 0, .long 0, .ref h11, .ref h12, .int 0, .int (-1), .int 0, .ref h13, .int 0, .ref h14, .ref h15, .int 0, .int 0, .ref h16, .int 0, .int 0, .int 0, .int 0])), (h3, .inl (w1, 373, .inl (upd (upd (upd (fun _ => 0) 60 2) 62 2) 61 (nI N0))))]) hP hD [1, 2] [0] rfl rfl (by decide) (by decide) hk1 hFc hP1 hD1
  generalize H1 = H at hP hS ⊢
  clear hPc hDc hKc hFc hP1 hD1 hK1 hk1 hz1
  have hP : va_P (dC, dI) vwCl [(h1, .inl (w0, 560, .inl f4)), (h0, .inr (11, [.int 0, .ref h2, .int 0, .int 0, .int 0, .int 0, .int 0, .int 0, .int 0, .int 0, .int 0, .int 0, .long 0, .int 0, .ref h3, .ref h4, .ref h5, .ref h1, .ref h6, .ref h7, .ref h8, .ref h9, .ref h10, .int 1, .int 0, .int p0, .int 0, .int (-1), .int (-1), .long 0, .long 0, .ref h11, .ref h12, .int 0, .int (-1), .int 0, .ref h13, .int 0, .ref h14, .ref h15, .int 0, .int 0, .ref h16, .int 0, .int 0, .int 0, .int 0])), (h3, .inl (w1, 373, .inl (upd (upd (upd (fun _ => 0) 60 2) 62 2) 61 (nI N0))))] H := hP
  have hD : va_D A [(h1, .inl (w0, 560, .inl f4)), (h0, .inr (11, [.int 0, .ref h2, .int 0, .int 0, .int 0, .int 0, .int 0, .int 0, .int 0, .int 0, .int 0, .int 0, .long 0, .int 0, .ref h3, .ref h4, .ref h5, .ref h1, .ref h6, .ref h7, .ref h8, .ref h9, .ref h10, .int 1, .int 0, .int p0, .int 0, .int (-1), .int (-1), .long 0, .long 0, .ref h11, .ref h12, .int 0, .int (-1), .int 0, .ref h13, .int 0, .ref h14, .ref h15, .int 0, .int 0, .ref h16, .int 0, .int 0, .int 0, .int 0])), (h3, .inl (w1, 373, .inl (upd (upd (upd (fun _ => 0) 60 2) 62 2) 61 (nI N0))))] := hD
  refine zz_top (v := (nI N0)) hw ?_
  have hP9 := hP.sub (ws' := []) [] rfl
  have hD9 := hD.sub (ws' := []) [] (by decide) rfl
  have hK9 := hK.sub (tys' := []) [] rfl
  refine W.widen (k := 0) (n := 0) (Nat.le_of_ble_eq_true rfl) (Nat.le_of_ble_eq_true rfl) ?_
  exact W.iret (v := (nI N0)) hx hb hr (fun t ht hW => ⟨⟨(nI N0), (), rfl, rfl, by rw [ht]; exact hP9, va_K.moved hW.alike hK9, hD9⟩, hS.F ht⟩) hS.2.2 dX12_days_42
set_option maxHeartbeats 4000000 in
set_option maxRecDepth 100000 in
theorem k_X12_undo (l : Launch) (dC : Nat → ClassId) (dI : Nat → Nat → Nat) (ad : Nat → Nat) (h0 h1 h2 h3 h4 h5 h6 h7 h8 h9 h10 h11 h12 h13 h14 h15 h16 : Nat) (sz : Nat) : Met l yX12_undo wsX12_undo ({ frames := 0, cells := 0, slots := 0, locals := 0 }) (va_Pc [.ref h0] (CP (dC, dI) [(h0, .inr (11, [.int 0, .ref h1, .int 0, .int 0, .int 0, .int 0, .int 0, .int 0, .int 0, .int 0, .int 0, .int 0, .long 0, .int 0, .ref h2, .ref h3, .ref h4, .ref h5, .ref h6, .ref h7, .ref h8, .ref h9, .ref h10, .int 0, .int 0, .int 0, .int 0, .int (-1), .int (-1), .long 0, .long 0, .ref h11, .ref h12, .int 0, .int (-1), .int 0, .ref h13, .int 0, .ref h14, .ref h15, .int 0, .int 0, .ref h16, .int 0, .int 0, .int 0, .int 0]))] [] sz ad)) (va_Qi (fun (r : Int32) (_ : Unit) => r = (-1)) (fun (_ : Unit) (t : State) => CQ (dC, dI) [] [] (va_A [(h0, .inr (11, [.int 0, .ref h1, .int 0, .int 0, .int 0, .int 0, .int 0, .int 0, .int 0, .int 0, .int 0, .int 0, .long 0, .int 0, .ref h2, .ref h3, .ref h4, .ref h5, .ref h6, .ref h7, .ref h8, .ref h9, .ref h10, .int 0, .int 0, .int 0, .int 0, .int (-1), .int (-1), .long 0, .long 0, .ref h11, .ref h12, .int 0, .int (-1), .int 0, .ref h13, .int 0, .ref h14, .ref h15, .int 0, .int 0, .ref h16, .int 0, .int 0, .int 0, .int 0]))] sz) t) (va_A [(h0, .inr (11, [.int 0, .ref h1, .int 0, .int 0, .int 0, .int 0, .int 0, .int 0, .int 0, .int 0, .int 0, .int 0, .long 0, .int 0, .ref h2, .ref h3, .ref h4, .ref h5, .ref h6, .ref h7, .ref h8, .ref h9, .ref h10, .int 0, .int 0, .int 0, .int 0, .int (-1), .int (-1), .long 0, .long 0, .ref h11, .ref h12, .int 0, .int (-1), .int 0, .ref h13, .int 0, .ref h14, .ref h15, .int 0, .int 0, .ref h16, .int 0, .int 0, .int 0, .int 0]))] sz)) 0 0 (va_A [(h0, .inr (11, [.int 0, .ref h1, .int 0, .int 0, .int 0, .int 0, .int 0, .int 0, .int 0, .int 0, .int 0, .int 0, .long 0, .int 0, .ref h2, .ref h3, .ref h4, .ref h5, .ref h6, .ref h7, .ref h8, .ref h9, .ref h10, .int 0, .int 0, .int 0, .int 0, .int (-1), .int (-1), .long 0, .long 0, .ref h11, .ref h12, .int 0, .int (-1), .int 0, .ref h13, .int 0, .ref h14, .ref h15, .int 0, .int 0, .ref h16, .int 0, .int 0, .int 0, .int 0]))] sz) := by
  refine Met.ofW (cc := cX12_undo) (maxL := 2) (ret := (some .int)) (by decide) rfl ?_
  intro p e s m args below meth c s₁ B hml hv
  obtain ⟨rfl, hsz, hP, hK, hD0, hE⟩ := hv
  have hx := B.exec
  have hb := B.bytes
  have hr := B.returns
  have hts := atoms_spec (ws := wsX12_undo) B.pre
  have hown : s.vm.findClass RX12 = some m.cls := findClass_of_methodNamed B.named
  have hlocks := B.notSynchronized
  subst hsz
  have hD := hD0.self (sz := s.heap.size)
  generalize hAe : va_A [(h0, .inr (11, [.int 0, .ref h1, .int 0, .int 0, .int 0, .int 0, .int 0, .int 0, .int 0, .int 0, .int 0, .int 0, .long 0, .int 0, .ref h2, .ref h3, .ref h4, .ref h5, .ref h6, .ref h7, .ref h8, .ref h9, .ref h10, .int 0, .int 0, .int 0, .int 0, .int (-1), .int (-1), .long 0, .long 0, .ref h11, .ref h12, .int 0, .int (-1), .int 0, .ref h13, .int 0, .ref h14, .ref h15, .int 0, .int 0, .ref h16, .int 0, .int 0, .int 0, .int 0]))] s.heap.size = A at hD hE ⊢
  have hA : ∀ q : Nat, s.heap.size ≤ q → A q := fun q h => by rw [← hAe]; exact Or.inr h
  have hS : va_S A s.heap s.heap [] := va_S.rf
  have hl := lv_entry ([.ref h0]) (n := 2) (Nat.le_of_ble_eq_true rfl)
  rw [lg_entry_eq]
  generalize (lg_sl ([.ref h0]) ++ List.replicate (2 - (lg_sl ([.ref h0])).length) Slot.unset).toArray = ls at hl ⊢
  have hl : lv_has ls 2 [(0, .ref h0)] := hl
  refine lv_aload_n hx hb dX12_undo_0 rfl (lv_at hl 0 rfl) ?_
  refine lv_iconst (v := 0) hx hb dX12_undo_1 (by decide) ?_
  refine va_put (D := (dC, dI)) (ci := 11) (v := .int 0) (ty := .int) (C := RX12) (T := TX12) (N := 47) hx hb hts ii_X12_undo_X12 tyX12 tyX12_ok nmX12 hown hK hP hD hS 0 rfl rfl 0 (by decide) (hts _ mm_X12_undo_1) (fun _ h9 => h9) rfl (by decide +kernel) rfl rfl (Nat.le_of_ble_eq_true rfl) dX12_undo_2 (fun H locs hP hD hS => ?_)
  have hP : va_P (dC, dI) vwCl [(h0, .inr (11, [.int 0, .ref h1, .int 0, .int 0, .int 0, .int 0, .int 0, .int 0, .int 0, .int 0, .int 0, .int 0, .long 0, .int 0, .ref h2, .ref h3, .ref h4, .ref h5, .ref h6, .ref h7, .ref h8, .ref h9, .ref h10, .int 0, .int 0, .int 0, .int 0, .int (-1), .int (-1), .long 0, .long 0, .ref h11, .ref h12, .int 0, .int (-1), .int 0, .ref h13, .int 0, .ref h14, .ref h15, .int 0, .int 0, .ref h16, .int 0, .int 0, .int 0, .int 0]))] H := hP
  have hD : va_D A [(h0, .inr (11, [.int 0, .ref h1, .int 0, .int 0, .int 0, .int 0, .int 0, .int 0, .int 0, .int 0, .int 0, .int 0, .long 0, .int 0, .ref h2, .ref h3, .ref h4, .ref h5, .ref h6, .ref h7, .ref h8, .ref h9, .ref h10, .int 0, .int 0, .int 0, .int 0, .int (-1), .int (-1), .long 0, .long 0, .ref h11, .ref h12, .int 0, .int (-1), .int 0, .ref h13, .int 0, .ref h14, .ref h15, .int 0, .int 0, .ref h16, .int 0, .int 0, .int 0, .int 0]))] := hD
  refine lv_aload_n hx hb dX12_undo_5 rfl (lv_at hl 0 rfl) ?_
  refine va_get (D := (dC, dI)) (ci := 11) (v := .int 0) (C := RX12) (T := TX12) (N := 47) hx hb hts ii_X12_undo_X12 hown hK hP 0 rfl rfl 23 (by decide) (hts _ mm_X12_undo_2) (fun _ h9 => h9) rfl dX12_undo_6 ?_
  refine lv_if_ne (tgt := 14) hx hb dX12_undo_9 (by decide) (fun c1 => absurd (by decide) c1) (fun _ => ?_)
  refine lv_iconst (v := (-1)) hx hb dX12_undo_12 (by decide) ?_
  have hP9 := hP.sub (ws' := []) [] rfl
  have hD9 := hD.sub (ws' := []) [] (by decide) rfl
  have hK9 := hK.sub (tys' := []) [] rfl
  refine W.widen (k := 0) (n := 0) (Nat.le_of_ble_eq_true rfl) (Nat.le_of_ble_eq_true rfl) ?_
  exact W.iret (v := (-1)) hx hb hr (fun t ht hW => ⟨⟨(-1), (), rfl, rfl, by rw [ht]; exact hP9, va_K.moved hW.alike hK9, hD9⟩, hS.F ht⟩) hS.2.2 dX12_undo_13
set_option maxHeartbeats 4000000 in
set_option maxRecDepth 100000 in
theorem k_X12_there (l : Launch) (dC : Nat → ClassId) (dI : Nat → Nat → Nat) (ad : Nat → Nat) (h0 h1 h2 h3 h4 h5 h6 h7 h8 h9 h10 h11 h12 h13 h14 h15 h16 : Nat) (p0 p1 : Int32) (w0 : ClassId) (sz : Nat) : Met l yX12_there wsX12_there ({ frames := 2, cells := 0, slots := 0, locals := 43 }) (va_Pc [.ref h0, .int p0, .int p1] (CP (dC, dI) [(h0, .inr (11, [.int 0, .ref h1, .int 0, .int 0, .int 0, .int 0, .int 0, .int 0, .int 0, .int 0, .int 0, .int 0, .long 0, .int 0, .ref h2, .ref h3, .ref h4, .ref h5, .ref h6, .ref h7, .ref h8, .ref h9, .ref h10, .int 0, .int 0, .int 0, .int 0, .int (-1), .int (-1), .long 0, .long 0, .ref h11, .ref h12, .int 0, .int (-1), .int 0, .ref h13, .int 0, .ref h14, .ref h15, .int 0, .int 0, .ref h16, .int 0, .int 0, .int 0, .int 0])), (h2, .inl (w0, 373, .inl (upd (upd (fun _ => 0) 60 2) 62 2)))] [(w0, .int)] sz ad)) (va_Qi (fun (r : Int32) (_ : Unit) => r = (-1)) (fun (_ : Unit) (t : State) => CQ (dC, dI) [] [] (va_A [(h0, .inr (11, [.int 0, .ref h1, .int 0, .int 0, .int 0, .int 0, .int 0, .int 0, .int 0, .int 0, .int 0, .int 0, .long 0, .int 0, .ref h2, .ref h3, .ref h4, .ref h5, .ref h6, .ref h7, .ref h8, .ref h9, .ref h10, .int 0, .int 0, .int 0, .int 0, .int (-1), .int (-1), .long 0, .long 0, .ref h11, .ref h12, .int 0, .int (-1), .int 0, .ref h13, .int 0, .ref h14, .ref h15, .int 0, .int 0, .ref h16, .int 0, .int 0, .int 0, .int 0])), (h2, .inl (w0, 373, .inl (upd (upd (fun _ => 0) 60 2) 62 2)))] sz) t) (va_A [(h0, .inr (11, [.int 0, .ref h1, .int 0, .int 0, .int 0, .int 0, .int 0, .int 0, .int 0, .int 0, .int 0, .int 0, .long 0, .int 0, .ref h2, .ref h3, .ref h4, .ref h5, .ref h6, .ref h7, .ref h8, .ref h9, .ref h10, .int 0, .int 0, .int 0, .int 0, .int (-1), .int (-1), .long 0, .long 0, .ref h11, .ref h12, .int 0, .int (-1), .int 0, .ref h13, .int 0, .ref h14, .ref h15, .int 0, .int 0, .ref h16, .int 0, .int 0, .int 0, .int 0])), (h2, .inl (w0, 373, .inl (upd (upd (fun _ => 0) 60 2) 62 2)))] sz)) 0 0 (va_A [(h0, .inr (11, [.int 0, .ref h1, .int 0, .int 0, .int 0, .int 0, .int 0, .int 0, .int 0, .int 0, .int 0, .int 0, .long 0, .int 0, .ref h2, .ref h3, .ref h4, .ref h5, .ref h6, .ref h7, .ref h8, .ref h9, .ref h10, .int 0, .int 0, .int 0, .int 0, .int (-1), .int (-1), .long 0, .long 0, .ref h11, .ref h12, .int 0, .int (-1), .int 0, .ref h13, .int 0, .ref h14, .ref h15, .int 0, .int 0, .ref h16, .int 0, .int 0, .int 0, .int 0])), (h2, .inl (w0, 373, .inl (upd (upd (fun _ => 0) 60 2) 62 2)))] sz) := by
  refine Met.ofW (cc := cX12_there) (maxL := 5) (ret := (some .int)) (by decide) rfl ?_
  intro p e s m args below meth c s₁ B hml hv
  obtain ⟨rfl, hsz, hP, hK, hD0, hE⟩ := hv
  have hx := B.exec
  have hb := B.bytes
  have hr := B.returns
  have hts := atoms_spec (ws := wsX12_there) B.pre
  have hown : s.vm.findClass RX12 = some m.cls := findClass_of_methodNamed B.named
  have hlocks := B.notSynchronized
  subst hsz
  have hD := hD0.self (sz := s.heap.size)
  generalize hAe : va_A [(h0, .inr (11, [.int 0, .ref h1, .int 0, .int 0, .int 0, .int 0, .int 0, .int 0, .int 0, .int 0, .int 0, .int 0, .long 0, .int 0, .ref h2, .ref h3, .ref h4, .ref h5, .ref h6, .ref h7, .ref h8, .ref h9, .ref h10, .int 0, .int 0, .int 0, .int 0, .int (-1), .int (-1), .long 0, .long 0, .ref h11, .ref h12, .int 0, .int (-1), .int 0, .ref h13, .int 0, .ref h14, .ref h15, .int 0, .int 0, .ref h16, .int 0, .int 0, .int 0, .int 0])), (h2, .inl (w0, 373, .inl (upd (upd (fun _ => 0) 60 2) 62 2)))] s.heap.size = A at hD hE ⊢
  have hA : ∀ q : Nat, s.heap.size ≤ q → A q := fun q h => by rw [← hAe]; exact Or.inr h
  have hS : va_S A s.heap s.heap [] := va_S.rf
  have hl := lv_entry ([.ref h0, .int p0, .int p1]) (n := 5) (Nat.le_of_ble_eq_true rfl)
  rw [lg_entry_eq]
  generalize (lg_sl ([.ref h0, .int p0, .int p1]) ++ List.replicate (5 - (lg_sl ([.ref h0, .int p0, .int p1])).length) Slot.unset).toArray = ls at hl ⊢
  have hl : lv_has ls 5 [(0, .ref h0), (1, .int p0), (2, .int p1)] := hl
  refine lv_aload_n hx hb dX12_there_0 rfl (lv_at hl 0 rfl) ?_
  refine lv_iconst (v := 0) hx hb dX12_there_1 (by decide) ?_
  refine va_put (D := (dC, dI)) (ci := 11) (v := .int 0) (ty := .int) (C := RX12) (T := TX12) (N := 47) hx hb hts ii_X12_there_X12 tyX12 tyX12_ok nmX12 hown hK hP hD hS 0 rfl rfl 0 (by decide) (hts _ mm_X12_there_1) (fun _ h9 => h9) rfl (by decide +kernel) rfl rfl (Nat.le_of_ble_eq_true rfl) dX12_there_2 (fun H locs hP hD hS => ?_)
  have hP : va_P (dC, dI) vwCl [(h0, .inr (11, [.int 0, .ref h1, .int 0, .int 0, .int 0, .int 0, .int 0, .int 0, .int 0, .int 0, .int 0, .int 0, .long 0, .int 0, .ref h2, .ref h3, .ref h4, .ref h5, .ref h6, .ref h7, .ref h8, .ref h9, .ref h10, .int 0, .int 0, .int 0, .int 0, .int (-1), .int (-1), .long 0, .long 0, .ref h11, .ref h12, .int 0, .int (-1), .int 0, .ref h13, .int 0, .ref h14, .ref h15, .int 0, .int 0, .ref h16, .int 0, .int 0, .int 0, .int 0])), (h2, .inl (w0, 373, .inl (upd (upd (fun _ => 0) 60 2) 62 2)))] H := hP
  have hD : va_D A [(h0, .inr (11, [.int 0, .ref h1, .int 0, .int 0, .int 0, .int 0, .int 0, .int 0, .int 0, .int 0, .int 0, .int 0, .long 0, .int 0, .ref h2, .ref h3, .ref h4, .ref h5, .ref h6, .ref h7, .ref h8, .ref h9, .ref h10, .int 0, .int 0, .int 0, .int 0, .int (-1), .int (-1), .long 0, .long 0, .ref h11, .ref h12, .int 0, .int (-1), .int 0, .ref h13, .int 0, .ref h14, .ref h15, .int 0, .int 0, .ref h16, .int 0, .int 0, .int 0, .int 0])), (h2, .inl (w0, 373, .inl (upd (upd (fun _ => 0) 60 2) 62 2)))] := hD
  refine lv_aload_n hx hb dX12_there_5 rfl (lv_at hl 0 rfl) ?_
  refine lv_iload_n hx hb dX12_there_6 rfl (lv_at hl 1 rfl) ?_
  have hPc := hP.sub (ws' := [(h0, .inr (11, [.int 0, .ref h1, .int 0, .int 0, .int 0, .int 0, .int 0, .int 0, .int 0, .int 0, .int 0, .int 0, .long 0, .int 0, .ref h2, .ref h3, .ref h4, .ref h5, .ref h6, .ref h7, .ref h8, .ref h9, .ref h10, .int 0, .int 0, .int 0, .int 0, .int (-1), .int (-1), .long 0, .long 0, .ref h11, .ref h12, .int 0, .int (-1), .int 0, .ref h13, .int 0, .ref h14, .ref h15, .int 0, .int 0, .ref h16, .int 0, .int 0, .int 0, .int 0])), (h2, .inl (w0, 373, .inl (upd (upd (fun _ => 0) 60 2) 62 2)))]) [0, 1] rfl
  have hDc := hD.sub (ws' := [(h0, .inr (11, [.int 0, .ref h1, .int 0, .int 0, .int 0, .int 0, .int 0, .int 0, .int 0, .int 0, .int 0, .int 0, .long 0, .int 0, .ref h2, .ref h3, .ref h4, .ref h5, .ref h6, .ref h7, .ref h8, .ref h9, .ref h10, .int 0, .int 0, .int 0, .int 0, .int (-1), .int (-1), .long 0, .long 0, .ref h11, .ref h12, .int 0, .int (-1), .int 0, .ref h13, .int 0, .ref h14, .ref h15, .int 0, .int 0, .ref h16, .int 0, .int 0, .int 0, .int 0])), (h2, .inl (w0, 373, .inl (upd (upd (fun _ => 0) 60 2) 62 2)))]) [0, 1] (by decide) rfl
  have hKc := hK.sub (tys' := [(w0, .int)]) [0] rfl
  have hFc := va_free (wc := [(h0, .inr (11, [.int 0, .ref h1, .int 0, .int 0, .int 0, .int 0, .int 0, .int 0, .int 0, .int 0, .int 0, .int 0, .long 0, .int 0, .ref h2, .ref h3, .ref h4, .ref h5, .ref h6, .ref h7, .ref h8, .ref h9, .ref h10, .int 0, .int 0, .int 0, .int 0, .int (-1), .int (-1), .long 0, .long 0, .ref h11, .ref h12, .int 0, .int (-1), .int 0, .ref h13, .int 0, .ref h14, .ref h15, .int 0, .int 0, .ref h16, .int 0, .int 0, .int 0, .int 0])), (h2, .inl (w0, 373, .inl (upd (upd (fun _ => 0) 60 2) 62 2)))]) hD hS hA [0, 1] rfl
  refine va_calli (va_runV (As := [.int p0]) (rest := []) ⟨hx, hb, hml, hown, hts⟩ (k_X12_isPlace l dC dI ad h0 h1 h2 h3 h4 h5 h6 h7 h8 h9 h10 h11 h12 h13 h14 h15 h16 p0 w0 H.size) (cwV 1 hts gX12_there_X12_isPlace rfl rfl rfl (by decide +kernel) ⟨Nat.le_of_ble_eq_true rfl, Nat.le_of_ble_eq_true rfl⟩) ⟨fun a U g mk q => ⟨q.1, CP.blind q.2⟩, va_recv hKc hPc (ci := 11) (q0 := 0) rfl rfl, fun U hU hW => ⟨rfl, CP.of hPc hKc hDc hE hS hFc hU hW⟩⟩ rfl rfl hl.1 rfl (lv_room (Nat.le_of_ble_eq_true rfl)) dX12_there_7 ⟨Nat.le_of_ble_eq_true rfl, Nat.le_of_ble_eq_true rfl⟩) hS (fun q _ h => hFc q h) hFc (fun r1 u t H1 locs ht hvm hw hB hz1 hk1 hS => ?_)
  obtain ⟨hP1, hK1, hD1⟩ := hB
  rw [ht] at hP1
  obtain ⟨hP, hD⟩ := va_join (wr := []) (w1 := [(h0, .inr (11, [.int 0, .ref h1, .int 0, .int 0, .int 0, .int 0, .int 0, .int 0, .int 0, .int 0, .int 0, .int 0, .long 0, .int 0, .ref h2, .ref h3, .ref h4, .ref h5, .ref h6, .ref h7, .ref h8, .ref h9, .ref h10, .int 0, .int 0, .int 0, .int 0, .int (-1), .int (-1), .long 0, .long 0, .ref h11, .ref h12, .int 0, .int (-1), .int 0, .ref h13, .int 0, .ref h14, .ref h15, .int 0, .int 0, .ref h16, .int 0, .int 0, .int 0, .int 0])), (h2, .inl (w0, 373, .inl (upd (upd (fun _ => 0) 60 2) 62 2)))]) hP hD [0, 1] [] rfl rfl (by decide) (by decide) hk1 hFc hP1 hD1
  generalize H1 = H at hP hS ⊢
  clear hPc hDc hKc hFc hP1 hD1 hK1 hk1 hz1
  have hP : va_P (dC, dI) vwCl [(h0, .inr (11, [.int 0, .ref h1, .int 0, .int 0, .int 0, .int 0, .int 0, .int 0, .int 0, .int 0, .int 0, .int 0, .long 0, .int 0, .ref h2, .ref h3, .ref h4, .ref h5, .ref h6, .ref h7, .ref h8, .ref h9, .ref h10, .int 0, .int 0, .int 0, .int 0, .int (-1), .int (-1), .long 0, .long 0, .ref h11, .ref h12, .int 0, .int (-1), .int 0, .ref h13, .int 0, .ref h14, .ref h15, .int 0, .int 0, .ref h16, .int 0, .int 0, .int 0, .int 0])), (h2, .inl (w0, 373, .inl (upd (upd (fun _ => 0) 60 2) 62 2)))] H := hP
  have hD : va_D A [(h0, .inr (11, [.int 0, .ref h1, .int 0, .int 0, .int 0, .int 0, .int 0, .int 0, .int 0, .int 0, .int 0, .int 0, .long 0, .int 0, .ref h2, .ref h3, .ref h4, .ref h5, .ref h6, .ref h7, .ref h8, .ref h9, .ref h10, .int 0, .int 0, .int 0, .int 0, .int (-1), .int (-1), .long 0, .long 0, .ref h11, .ref h12, .int 0, .int (-1), .int 0, .ref h13, .int 0, .ref h14, .ref h15, .int 0, .int 0, .ref h16, .int 0, .int 0, .int 0, .int 0])), (h2, .inl (w0, 373, .inl (upd (upd (fun _ => 0) 60 2) 62 2)))] := hD
  refine zz_top (v := 0) hw ?_
  refine lv_if_eq (tgt := 23) hx hb dX12_there_10 (by decide) (fun _ => ?_) (fun c2 => absurd (by decide) c2)
  refine lv_iconst (v := (-1)) hx hb dX12_there_23 (by decide) ?_
  have hP9 := hP.sub (ws' := []) [] rfl
  have hD9 := hD.sub (ws' := []) [] (by decide) rfl
  have hK9 := hK.sub (tys' := []) [] rfl
  refine W.widen (k := 0) (n := 0) (Nat.le_of_ble_eq_true rfl) (Nat.le_of_ble_eq_true rfl) ?_
  exact W.iret (v := (-1)) hx hb hr (fun t ht hW => ⟨⟨(-1), (), rfl, rfl, by rw [ht]; exact hP9, va_K.moved hW.alike hK9, hD9⟩, hS.F ht⟩) hS.2.2 dX12_there_24
set_option maxHeartbeats 4000000 in
set_option maxRecDepth 100000 in
theorem k_X12_meets (l : Launch) (dC : Nat → ClassId) (dI : Nat → Nat → Nat) (ad : Nat → Nat) (h0 h1 h2 h3 h4 h5 h6 h7 h8 h9 h10 h11 h12 h13 h14 h15 h16 : Nat) (p0 p1 : Int32) (w0 : ClassId) (sz : Nat) : Met l yX12_meets wsX12_meets ({ frames := 2, cells := 0, slots := 0, locals := 43 }) (va_Pc [.ref h0, .int p0, .int p1] (CP (dC, dI) [(h0, .inr (11, [.int 0, .ref h1, .int 0, .int 0, .int 0, .int 0, .int 0, .int 0, .int 0, .int 0, .int 0, .int 0, .long 0, .int 0, .ref h2, .ref h3, .ref h4, .ref h5, .ref h6, .ref h7, .ref h8, .ref h9, .ref h10, .int 0, .int 0, .int 0, .int 0, .int (-1), .int (-1), .long 0, .long 0, .ref h11, .ref h12, .int 0, .int (-1), .int 0, .ref h13, .int 0, .ref h14, .ref h15, .int 0, .int 0, .ref h16, .int 0, .int 0, .int 0, .int 0])), (h2, .inl (w0, 373, .inl (upd (upd (fun _ => 0) 60 2) 62 2)))] [(w0, .int)] sz ad)) (va_Qi (fun (r : Int32) (_ : Unit) => r = (-1)) (fun (_ : Unit) (t : State) => CQ (dC, dI) [] [] (va_A [(h0, .inr (11, [.int 0, .ref h1, .int 0, .int 0, .int 0, .int 0, .int 0, .int 0, .int 0, .int 0, .int 0, .int 0, .long 0, .int 0, .ref h2, .ref h3, .ref h4, .ref h5, .ref h6, .ref h7, .ref h8, .ref h9, .ref h10, .int 0, .int 0, .int 0, .int 0, .int (-1), .int (-1), .long 0, .long 0, .ref h11, .ref h12, .int 0, .int (-1), .int 0, .ref h13, .int 0, .ref h14, .ref h15, .int 0, .int 0, .ref h16, .int 0, .int 0, .int 0, .int 0])), (h2, .inl (w0, 373, .inl (upd (upd (fun _ => 0) 60 2) 62 2)))] sz) t) (va_A [(h0, .inr (11, [.int 0, .ref h1, .int 0, .int 0, .int 0, .int 0, .int 0, .int 0, .int 0, .int 0, .int 0, .int 0, .long 0, .int 0, .ref h2, .ref h3, .ref h4, .ref h5, .ref h6, .ref h7, .ref h8, .ref h9, .ref h10, .int 0, .int 0, .int 0, .int 0, .int (-1), .int (-1), .long 0, .long 0, .ref h11, .ref h12, .int 0, .int (-1), .int 0, .ref h13, .int 0, .ref h14, .ref h15, .int 0, .int 0, .ref h16, .int 0, .int 0, .int 0, .int 0])), (h2, .inl (w0, 373, .inl (upd (upd (fun _ => 0) 60 2) 62 2)))] sz)) 0 0 (va_A [(h0, .inr (11, [.int 0, .ref h1, .int 0, .int 0, .int 0, .int 0, .int 0, .int 0, .int 0, .int 0, .int 0, .int 0, .long 0, .int 0, .ref h2, .ref h3, .ref h4, .ref h5, .ref h6, .ref h7, .ref h8, .ref h9, .ref h10, .int 0, .int 0, .int 0, .int 0, .int (-1), .int (-1), .long 0, .long 0, .ref h11, .ref h12, .int 0, .int (-1), .int 0, .ref h13, .int 0, .ref h14, .ref h15, .int 0, .int 0, .ref h16, .int 0, .int 0, .int 0, .int 0])), (h2, .inl (w0, 373, .inl (upd (upd (fun _ => 0) 60 2) 62 2)))] sz) := by
  refine Met.ofW (cc := cX12_meets) (maxL := 3) (ret := (some .int)) (by decide) rfl ?_
  intro p e s m args below meth c s₁ B hml hv
  obtain ⟨rfl, hsz, hP, hK, hD0, hE⟩ := hv
  have hx := B.exec
  have hb := B.bytes
  have hr := B.returns
  have hts := atoms_spec (ws := wsX12_meets) B.pre
  have hown : s.vm.findClass RX12 = some m.cls := findClass_of_methodNamed B.named
  have hlocks := B.notSynchronized
  subst hsz
  have hD := hD0.self (sz := s.heap.size)
  generalize hAe : va_A [(h0, .inr (11, [.int 0, .ref h1, .int 0, .int 0, .int 0, .int 0, .int 0, .int 0, .int 0, .int 0, .int 0, .int 0, .long 0, .int 0, .ref h2, .ref h3, .ref h4, .ref h5, .ref h6, .ref h7, .ref h8, .ref h9, .ref h10, .int 0, .int 0, .int 0, .int 0, .int (-1), .int (-1), .long 0, .long 0, .ref h11, .ref h12, .int 0, .int (-1), .int 0, .ref h13, .int 0, .ref h14, .ref h15, .int 0, .int 0, .ref h16, .int 0, .int 0, .int 0, .int 0])), (h2, .inl (w0, 373, .inl (upd (upd (fun _ => 0) 60 2) 62 2)))] s.heap.size = A at hD hE ⊢
  have hA : ∀ q : Nat, s.heap.size ≤ q → A q := fun q h => by rw [← hAe]; exact Or.inr h
  have hS : va_S A s.heap s.heap [] := va_S.rf
  have hl := lv_entry ([.ref h0, .int p0, .int p1]) (n := 3) (Nat.le_of_ble_eq_true rfl)
  rw [lg_entry_eq]
  generalize (lg_sl ([.ref h0, .int p0, .int p1]) ++ List.replicate (3 - (lg_sl ([.ref h0, .int p0, .int p1])).length) Slot.unset).toArray = ls at hl ⊢
  have hl : lv_has ls 3 [(0, .ref h0), (1, .int p0), (2, .int p1)] := hl
  refine lv_aload_n hx hb dX12_meets_0 rfl (lv_at hl 0 rfl) ?_
  refine lv_iconst (v := 0) hx hb dX12_meets_1 (by decide) ?_
  refine va_put (D := (dC, dI)) (ci := 11) (v := .int 0) (ty := .int) (C := RX12) (T := TX12) (N := 47) hx hb hts ii_X12_meets_X12 tyX12 tyX12_ok nmX12 hown hK hP hD hS 0 rfl rfl 0 (by decide) (hts _ mm_X12_meets_1) (fun _ h9 => h9) rfl (by decide +kernel) rfl rfl (Nat.le_of_ble_eq_true rfl) dX12_meets_2 (fun H locs hP hD hS => ?_)
  have hP : va_P (dC, dI) vwCl [(h0, .inr (11, [.int 0, .ref h1, .int 0, .int 0, .int 0, .int 0, .int 0, .int 0, .int 0, .int 0, .int 0, .int 0, .long 0, .int 0, .ref h2, .ref h3, .ref h4, .ref h5, .ref h6, .ref h7, .ref h8, .ref h9, .ref h10, .int 0, .int 0, .int 0, .int 0, .int (-1), .int (-1), .long 0, .long 0, .ref h11, .ref h12, .int 0, .int (-1), .int 0, .ref h13, .int 0, .ref h14, .ref h15, .int 0, .int 0, .ref h16, .int 0, .int 0, .int 0, .int 0])), (h2, .inl (w0, 373, .inl (upd (upd (fun _ => 0) 60 2) 62 2)))] H := hP
  have hD : va_D A [(h0, .inr (11, [.int 0, .ref h1, .int 0, .int 0, .int 0, .int 0, .int 0, .int 0, .int 0, .int 0, .int 0, .int 0, .long 0, .int 0, .ref h2, .ref h3, .ref h4, .ref h5, .ref h6, .ref h7, .ref h8, .ref h9, .ref h10, .int 0, .int 0, .int 0, .int 0, .int (-1), .int (-1), .long 0, .long 0, .ref h11, .ref h12, .int 0, .int (-1), .int 0, .ref h13, .int 0, .ref h14, .ref h15, .int 0, .int 0, .ref h16, .int 0, .int 0, .int 0, .int 0])), (h2, .inl (w0, 373, .inl (upd (upd (fun _ => 0) 60 2) 62 2)))] := hD
  refine lv_aload_n hx hb dX12_meets_5 rfl (lv_at hl 0 rfl) ?_
  refine lv_iload_n hx hb dX12_meets_6 rfl (lv_at hl 1 rfl) ?_
  have hPc := hP.sub (ws' := [(h0, .inr (11, [.int 0, .ref h1, .int 0, .int 0, .int 0, .int 0, .int 0, .int 0, .int 0, .int 0, .int 0, .int 0, .long 0, .int 0, .ref h2, .ref h3, .ref h4, .ref h5, .ref h6, .ref h7, .ref h8, .ref h9, .ref h10, .int 0, .int 0, .int 0, .int 0, .int (-1), .int (-1), .long 0, .long 0, .ref h11, .ref h12, .int 0, .int (-1), .int 0, .ref h13, .int 0, .ref h14, .ref h15, .int 0, .int 0, .ref h16, .int 0, .int 0, .int 0, .int 0])), (h2, .inl (w0, 373, .inl (upd (upd (fun _ => 0) 60 2) 62 2)))]) [0, 1] rfl
  have hDc := hD.sub (ws' := [(h0, .inr (11, [.int 0, .ref h1, .int 0, .int 0, .int 0, .int 0, .int 0, .int 0, .int 0, .int 0, .int 0, .int 0, .long 0, .int 0, .ref h2, .ref h3, .ref h4, .ref h5, .ref h6, .ref h7, .ref h8, .ref h9, .ref h10, .int 0, .int 0, .int 0, .int 0, .int (-1), .int (-1), .long 0, .long 0, .ref h11, .ref h12, .int 0, .int (-1), .int 0, .ref h13, .int 0, .ref h14, .ref h15, .int 0, .int 0, .ref h16, .int 0, .int 0, .int 0, .int 0])), (h2, .inl (w0, 373, .inl (upd (upd (fun _ => 0) 60 2) 62 2)))]) [0, 1] (by decide) rfl
  have hKc := hK.sub (tys' := [(w0, .int)]) [0] rfl
  have hFc := va_free (wc := [(h0, .inr (11, [.int 0, .ref h1, .int 0, .int 0, .int 0, .int 0, .int 0, .int 0, .int 0, .int 0, .int 0, .int 0, .long 0, .int 0, .ref h2, .ref h3, .ref h4, .ref h5, .ref h6, .ref h7, .ref h8, .ref h9, .ref h10, .int 0, .int 0, .int 0, .int 0, .int (-1), .int (-1), .long 0, .long 0, .ref h11, .ref h12, .int 0, .int (-1), .int 0, .ref h13, .int 0, .ref h14, .ref h15, .int 0, .int 0, .ref h16, .int 0, .int 0, .int 0, .int 0])), (h2, .inl (w0, 373, .inl (upd (upd (fun _ => 0) 60 2) 62 2)))]) hD hS hA [0, 1] rfl
  refine va_calli (va_runV (As := [.int p0]) (rest := []) ⟨hx, hb, hml, hown, hts⟩ (k_X12_isPerson l dC dI ad h0 h1 h2 h3 h4 h5 h6 h7 h8 h9 h10 h11 h12 h13 h14 h15 h16 p0 w0 H.size) (cwV 1 hts gX12_meets_X12_isPerson rfl rfl rfl (by decide +kernel) ⟨Nat.le_of_ble_eq_true rfl, Nat.le_of_ble_eq_true rfl⟩) ⟨fun a U g mk q => ⟨q.1, CP.blind q.2⟩, va_recv hKc hPc (ci := 11) (q0 := 0) rfl rfl, fun U hU hW => ⟨rfl, CP.of hPc hKc hDc hE hS hFc hU hW⟩⟩ rfl rfl hl.1 rfl (lv_room (Nat.le_of_ble_eq_true rfl)) dX12_meets_7 ⟨Nat.le_of_ble_eq_true rfl, Nat.le_of_ble_eq_true rfl⟩) hS (fun q _ h => hFc q h) hFc (fun r1 u t H1 locs ht hvm hw hB hz1 hk1 hS => ?_)
  obtain ⟨hP1, hK1, hD1⟩ := hB
  rw [ht] at hP1
  obtain ⟨hP, hD⟩ := va_join (wr := []) (w1 := [(h0, .inr (11, [.int 0, .ref h1, .int 0, .int 0, .int 0, .int 0, .int 0, .int 0, .int 0, .int 0, .int 0, .int 0, .long 0, .int 0, .ref h2, .ref h3, .ref h4, .ref h5, .ref h6, .ref h7, .ref h8, .ref h9, .ref h10, .int 0, .int 0, .int 0, .int 0, .int (-1), .int (-1), .long 0, .long 0, .ref h11, .ref h12, .int 0, .int (-1), .int 0, .ref h13, .int 0, .ref h14, .ref h15, .int 0, .int 0, .ref h16, .int 0, .int 0, .int 0, .int 0])), (h2, .inl (w0, 373, .inl (upd (upd (fun _ => 0) 60 2) 62 2)))]) hP hD [0, 1] [] rfl rfl (by decide) (by decide) hk1 hFc hP1 hD1
  generalize H1 = H at hP hS ⊢
  clear hPc hDc hKc hFc hP1 hD1 hK1 hk1 hz1
  have hP : va_P (dC, dI) vwCl [(h0, .inr (11, [.int 0, .ref h1, .int 0, .int 0, .int 0, .int 0, .int 0, .int 0, .int 0, .int 0, .int 0, .int 0, .long 0, .int 0, .ref h2, .ref h3, .ref h4, .ref h5, .ref h6, .ref h7, .ref h8, .ref h9, .ref h10, .int 0, .int 0, .int 0, .int 0, .int (-1), .int (-1), .long 0, .long 0, .ref h11, .ref h12, .int 0, .int (-1), .int 0, .ref h13, .int 0, .ref h14, .ref h15, .int 0, .int 0, .ref h16, .int 0, .int 0, .int 0, .int 0])), (h2, .inl (w0, 373, .inl (upd (upd (fun _ => 0) 60 2) 62 2)))] H := hP
  have hD : va_D A [(h0, .inr (11, [.int 0, .ref h1, .int 0, .int 0, .int 0, .int 0, .int 0, .int 0, .int 0, .int 0, .int 0, .int 0, .long 0, .int 0, .ref h2, .ref h3, .ref h4, .ref h5, .ref h6, .ref h7, .ref h8, .ref h9, .ref h10, .int 0, .int 0, .int 0, .int 0, .int (-1), .int (-1), .long 0, .long 0, .ref h11, .ref h12, .int 0, .int (-1), .int 0, .ref h13, .int 0, .ref h14, .ref h15, .int 0, .int 0, .ref h16, .int 0, .int 0, .int 0, .int 0])), (h2, .inl (w0, 373, .inl (upd (upd (fun _ => 0) 60 2) 62 2)))] := hD
  refine zz_top (v := 0) hw ?_
  refine lv_if_eq (tgt := 35) hx hb dX12_meets_10 (by decide) (fun _ => ?_) (fun c2 => absurd (by decide) c2)
  refine lv_iconst (v := (-1)) hx hb dX12_meets_35 (by decide) ?_
  have hP9 := hP.sub (ws' := []) [] rfl
  have hD9 := hD.sub (ws' := []) [] (by decide) rfl
  have hK9 := hK.sub (tys' := []) [] rfl
  refine W.widen (k := 0) (n := 0) (Nat.le_of_ble_eq_true rfl) (Nat.le_of_ble_eq_true rfl) ?_
  exact W.iret (v := (-1)) hx hb hr (fun t ht hW => ⟨⟨(-1), (), rfl, rfl, by rw [ht]; exact hP9, va_K.moved hW.alike hK9, hD9⟩, hS.F ht⟩) hS.2.2 dX12_meets_36
set_option maxHeartbeats 4000000 in
set_option maxRecDepth 100000 in
theorem k_X12_best (l : Launch) (dC : Nat → ClassId) (dI : Nat → Nat → Nat) (ad : Nat → Nat) (h0 h1 h2 h3 h4 h5 h6 h7 h8 h9 h10 h11 h12 h13 h14 h15 h16 : Nat) (p0 p1 : Int32) (w0 : ClassId) (sz : Nat) : Met l yX12_best wsX12_best ({ frames := 2, cells := 0, slots := 0, locals := 43 }) (va_Pc [.ref h0, .int p0, .int p1] (CP (dC, dI) [(h0, .inr (11, [.int 0, .ref h1, .int 0, .int 0, .int 0, .int 0, .int 0, .int 0, .int 0, .int 0, .int 0, .int 0, .long 0, .int 0, .ref h2, .ref h3, .ref h4, .ref h5, .ref h6, .ref h7, .ref h8, .ref h9, .ref h10, .int 0, .int 0, .int 0, .int 0, .int (-1), .int (-1), .long 0, .long 0, .ref h11, .ref h12, .int 0, .int (-1), .int 0, .ref h13, .int 0, .ref h14, .ref h15, .int 0, .int 0, .ref h16, .int 0, .int 0, .int 0, .int 0])), (h2, .inl (w0, 373, .inl (upd (upd (fun _ => 0) 60 2) 62 2)))] [(w0, .int)] sz ad)) (va_Qi (fun (r : Int32) (_ : Unit) => r = (-1)) (fun (_ : Unit) (t : State) => CQ (dC, dI) [] [] (va_A [(h0, .inr (11, [.int 0, .ref h1, .int 0, .int 0, .int 0, .int 0, .int 0, .int 0, .int 0, .int 0, .int 0, .int 0, .long 0, .int 0, .ref h2, .ref h3, .ref h4, .ref h5, .ref h6, .ref h7, .ref h8, .ref h9, .ref h10, .int 0, .int 0, .int 0, .int 0, .int (-1), .int (-1), .long 0, .long 0, .ref h11, .ref h12, .int 0, .int (-1), .int 0, .ref h13, .int 0, .ref h14, .ref h15, .int 0, .int 0, .ref h16, .int 0, .int 0, .int 0, .int 0])), (h2, .inl (w0, 373, .inl (upd (upd (fun _ => 0) 60 2) 62 2)))] sz) t) (va_A [(h0, .inr (11, [.int 0, .ref h1, .int 0, .int 0, .int 0, .int 0, .int 0, .int 0, .int 0, .int 0, .int 0, .int 0, .long 0, .int 0, .ref h2, .ref h3, .ref h4, .ref h5, .ref h6, .ref h7, .ref h8, .ref h9, .ref h10, .int 0, .int 0, .int 0, .int 0, .int (-1), .int (-1), .long 0, .long 0, .ref h11, .ref h12, .int 0, .int (-1), .int 0, .ref h13, .int 0, .ref h14, .ref h15, .int 0, .int 0, .ref h16, .int 0, .int 0, .int 0, .int 0])), (h2, .inl (w0, 373, .inl (upd (upd (fun _ => 0) 60 2) 62 2)))] sz)) 0 0 (va_A [(h0, .inr (11, [.int 0, .ref h1, .int 0, .int 0, .int 0, .int 0, .int 0, .int 0, .int 0, .int 0, .int 0, .int 0, .long 0, .int 0, .ref h2, .ref h3, .ref h4, .ref h5, .ref h6, .ref h7, .ref h8, .ref h9, .ref h10, .int 0, .int 0, .int 0, .int 0, .int (-1), .int (-1), .long 0, .long 0, .ref h11, .ref h12, .int 0, .int (-1), .int 0, .ref h13, .int 0, .ref h14, .ref h15, .int 0, .int 0, .ref h16, .int 0, .int 0, .int 0, .int 0])), (h2, .inl (w0, 373, .inl (upd (upd (fun _ => 0) 60 2) 62 2)))] sz) := by
  refine Met.ofW (cc := cX12_best) (maxL := 8) (ret := (some .int)) (by decide) rfl ?_
  intro p e s m args below meth c s₁ B hml hv
  obtain ⟨rfl, hsz, hP, hK, hD0, hE⟩ := hv
  have hx := B.exec
  have hb := B.bytes
  have hr := B.returns
  have hts := atoms_spec (ws := wsX12_best) B.pre
  have hown : s.vm.findClass RX12 = some m.cls := findClass_of_methodNamed B.named
  have hlocks := B.notSynchronized
  subst hsz
  have hD := hD0.self (sz := s.heap.size)
  generalize hAe : va_A [(h0, .inr (11, [.int 0, .ref h1, .int 0, .int 0, .int 0, .int 0, .int 0, .int 0, .int 0, .int 0, .int 0, .int 0, .long 0, .int 0, .ref h2, .ref h3, .ref h4, .ref h5, .ref h6, .ref h7, .ref h8, .ref h9, .ref h10, .int 0, .int 0, .int 0, .int 0, .int (-1), .int (-1), .long 0, .long 0, .ref h11, .ref h12, .int 0, .int (-1), .int 0, .ref h13, .int 0, .ref h14, .ref h15, .int 0, .int 0, .ref h16, .int 0, .int 0, .int 0, .int 0])), (h2, .inl (w0, 373, .inl (upd (upd (fun _ => 0) 60 2) 62 2)))] s.heap.size = A at hD hE ⊢
  have hA : ∀ q : Nat, s.heap.size ≤ q → A q := fun q h => by rw [← hAe]; exact Or.inr h
  have hS : va_S A s.heap s.heap [] := va_S.rf
  have hl := lv_entry ([.ref h0, .int p0, .int p1]) (n := 8) (Nat.le_of_ble_eq_true rfl)
  rw [lg_entry_eq]
  generalize (lg_sl ([.ref h0, .int p0, .int p1]) ++ List.replicate (8 - (lg_sl ([.ref h0, .int p0, .int p1])).length) Slot.unset).toArray = ls at hl ⊢
  have hl : lv_has ls 8 [(0, .ref h0), (1, .int p0), (2, .int p1)] := hl
  refine lv_aload_n hx hb dX12_best_0 rfl (lv_at hl 0 rfl) ?_
  refine lv_iconst (v := 0) hx hb dX12_best_1 (by decide) ?_
  refine va_put (D := (dC, dI)) (ci := 11) (v := .int 0) (ty := .int) (C := RX12) (T := TX12) (N := 47) hx hb hts ii_X12_best_X12 tyX12 tyX12_ok nmX12 hown hK hP hD hS 0 rfl rfl 0 (by decide) (hts _ mm_X12_best_1) (fun _ h9 => h9) rfl (by decide +kernel) rfl rfl (Nat.le_of_ble_eq_true rfl) dX12_best_2 (fun H locs hP hD hS => ?_)
  have hP : va_P (dC, dI) vwCl [(h0, .inr (11, [.int 0, .ref h1, .int 0, .int 0, .int 0, .int 0, .int 0, .int 0, .int 0, .int 0, .int 0, .int 0, .long 0, .int 0, .ref h2, .ref h3, .ref h4, .ref h5, .ref h6, .ref h7, .ref h8, .ref h9, .ref h10, .int 0, .int 0, .int 0, .int 0, .int (-1), .int (-1), .long 0, .long 0, .ref h11, .ref h12, .int 0, .int (-1), .int 0, .ref h13, .int 0, .ref h14, .ref h15, .int 0, .int 0, .ref h16, .int 0, .int 0, .int 0, .int 0])), (h2, .inl (w0, 373, .inl (upd (upd (fun _ => 0) 60 2) 62 2)))] H := hP
  have hD : va_D A [(h0, .inr (11, [.int 0, .ref h1, .int 0, .int 0, .int 0, .int 0, .int 0, .int 0, .int 0, .int 0, .int 0, .int 0, .long 0, .int 0, .ref h2, .ref h3, .ref h4, .ref h5, .ref h6, .ref h7, .ref h8, .ref h9, .ref h10, .int 0, .int 0, .int 0, .int 0, .int (-1), .int (-1), .long 0, .long 0, .ref h11, .ref h12, .int 0, .int (-1), .int 0, .ref h13, .int 0, .ref h14, .ref h15, .int 0, .int 0, .ref h16, .int 0, .int 0, .int 0, .int 0])), (h2, .inl (w0, 373, .inl (upd (upd (fun _ => 0) 60 2) 62 2)))] := hD
  refine lv_aload_n hx hb dX12_best_5 rfl (lv_at hl 0 rfl) ?_
  refine lv_iload_n hx hb dX12_best_6 rfl (lv_at hl 1 rfl) ?_
  have hPc := hP.sub (ws' := [(h0, .inr (11, [.int 0, .ref h1, .int 0, .int 0, .int 0, .int 0, .int 0, .int 0, .int 0, .int 0, .int 0, .int 0, .long 0, .int 0, .ref h2, .ref h3, .ref h4, .ref h5, .ref h6, .ref h7, .ref h8, .ref h9, .ref h10, .int 0, .int 0, .int 0, .int 0, .int (-1), .int (-1), .long 0, .long 0, .ref h11, .ref h12, .int 0, .int (-1), .int 0, .ref h13, .int 0, .ref h14, .ref h15, .int 0, .int 0, .ref h16, .int 0, .int 0, .int 0, .int 0])), (h2, .inl (w0, 373, .inl (upd (upd (fun _ => 0) 60 2) 62 2)))]) [0, 1] rfl
  have hDc := hD.sub (ws' := [(h0, .inr (11, [.int 0, .ref h1, .int 0, .int 0, .int 0, .int 0, .int 0, .int 0, .int 0, .int 0, .int 0, .int 0, .long 0, .int 0, .ref h2, .ref h3, .ref h4, .ref h5, .ref h6, .ref h7, .ref h8, .ref h9, .ref h10, .int 0, .int 0, .int 0, .int 0, .int (-1), .int (-1), .long 0, .long 0, .ref h11, .ref h12, .int 0, .int (-1), .int 0, .ref h13, .int 0, .ref h14, .ref h15, .int 0, .int 0, .ref h16, .int 0, .int 0, .int 0, .int 0])), (h2, .inl (w0, 373, .inl (upd (upd (fun _ => 0) 60 2) 62 2)))]) [0, 1] (by decide) rfl
  have hKc := hK.sub (tys' := [(w0, .int)]) [0] rfl
  have hFc := va_free (wc := [(h0, .inr (11, [.int 0, .ref h1, .int 0, .int 0, .int 0, .int 0, .int 0, .int 0, .int 0, .int 0, .int 0, .int 0, .long 0, .int 0, .ref h2, .ref h3, .ref h4, .ref h5, .ref h6, .ref h7, .ref h8, .ref h9, .ref h10, .int 0, .int 0, .int 0, .int 0, .int (-1), .int (-1), .long 0, .long 0, .ref h11, .ref h12, .int 0, .int (-1), .int 0, .ref h13, .int 0, .ref h14, .ref h15, .int 0, .int 0, .ref h16, .int 0, .int 0, .int 0, .int 0])), (h2, .inl (w0, 373, .inl (upd (upd (fun _ => 0) 60 2) 62 2)))]) hD hS hA [0, 1] rfl
  refine va_calli (va_runV (As := [.int p0]) (rest := []) ⟨hx, hb, hml, hown, hts⟩ (k_X12_isPlace l dC dI ad h0 h1 h2 h3 h4 h5 h6 h7 h8 h9 h10 h11 h12 h13 h14 h15 h16 p0 w0 H.size) (cwV 1 hts gX12_best_X12_isPlace rfl rfl rfl (by decide +kernel) ⟨Nat.le_of_ble_eq_true rfl, Nat.le_of_ble_eq_true rfl⟩) ⟨fun a U g mk q => ⟨q.1, CP.blind q.2⟩, va_recv hKc hPc (ci := 11) (q0 := 0) rfl rfl, fun U hU hW => ⟨rfl, CP.of hPc hKc hDc hE hS hFc hU hW⟩⟩ rfl rfl hl.1 rfl (lv_room (Nat.le_of_ble_eq_true rfl)) dX12_best_7 ⟨Nat.le_of_ble_eq_true rfl, Nat.le_of_ble_eq_true rfl⟩) hS (fun q _ h => hFc q h) hFc (fun r1 u t H1 locs ht hvm hw hB hz1 hk1 hS => ?_)
  obtain ⟨hP1, hK1, hD1⟩ := hB
  rw [ht] at hP1
  obtain ⟨hP, hD⟩ := va_join (wr := []) (w1 := [(h0, .inr (11, [.int 0, .ref h1, .int 0, .int 0, .int 0, .int 0, .int 0, .int 0, .int 0, .int 0, .int 0, .int 0, .long 0, .int 0, .ref h2, .ref h3, .ref h4, .ref h5, .ref h6, .ref h7, .ref h8, .ref h9, .ref h10, .int 0, .int 0, .int 0, .int 0, .int (-1), .int (-1), .long 0, .long 0, .ref h11, .ref h12, .int 0, .int (-1), .int 0, .ref h13, .int 0, .ref h14, .ref h15, .int 0, .int 0, .ref h16, .int 0, .int 0, .int 0, .int 0])), (h2, .inl (w0, 373, .inl (upd (upd (fun _ => 0) 60 2) 62 2)))]) hP hD [0, 1] [] rfl rfl (by decide) (by decide) hk1 hFc hP1 hD1
  generalize H1 = H at hP hS ⊢
  clear hPc hDc hKc hFc hP1 hD1 hK1 hk1 hz1
  have hP : va_P (dC, dI) vwCl [(h0, .inr (11, [.int 0, .ref h1, .int 0, .int 0, .int 0, .int 0, .int 0, .int 0, .int 0, .int 0, .int 0, .int 0, .long 0, .int 0, .ref h2, .ref h3, .ref h4, .ref h5, .ref h6, .ref h7, .ref h8, .ref h9, .ref h10, .int 0, .int 0, .int 0, .int 0, .int (-1), .int (-1), .long 0, .long 0, .ref h11, .ref h12, .int 0, .int (-1), .int 0, .ref h13, .int 0, .ref h14, .ref h15, .int 0, .int 0, .ref h16, .int 0, .int 0, .int 0, .int 0])), (h2, .inl (w0, 373, .inl (upd (upd (fun _ => 0) 60 2) 62 2)))] H := hP
  have hD : va_D A [(h0, .inr (11, [.int 0, .ref h1, .int 0, .int 0, .int 0, .int 0, .int 0, .int 0, .int 0, .int 0, .int 0, .int 0, .long 0, .int 0, .ref h2, .ref h3, .ref h4, .ref h5, .ref h6, .ref h7, .ref h8, .ref h9, .ref h10, .int 0, .int 0, .int 0, .int 0, .int (-1), .int (-1), .long 0, .long 0, .ref h11, .ref h12, .int 0, .int (-1), .int 0, .ref h13, .int 0, .ref h14, .ref h15, .int 0, .int 0, .ref h16, .int 0, .int 0, .int 0, .int 0])), (h2, .inl (w0, 373, .inl (upd (upd (fun _ => 0) 60 2) 62 2)))] := hD
  refine zz_top (v := 0) hw ?_
  refine lv_if_eq (tgt := 22) hx hb dX12_best_10 (by decide) (fun _ => ?_) (fun c2 => absurd (by decide) c2)
  refine lv_iconst (v := (-1)) hx hb dX12_best_22 (by decide) ?_
  have hP9 := hP.sub (ws' := []) [] rfl
  have hD9 := hD.sub (ws' := []) [] (by decide) rfl
  have hK9 := hK.sub (tys' := []) [] rfl
  refine W.widen (k := 0) (n := 0) (Nat.le_of_ble_eq_true rfl) (Nat.le_of_ble_eq_true rfl) ?_
  exact W.iret (v := (-1)) hx hb hr (fun t ht hW => ⟨⟨(-1), (), rfl, rfl, by rw [ht]; exact hP9, va_K.moved hW.alike hK9, hD9⟩, hS.F ht⟩) hS.2.2 dX12_best_23
