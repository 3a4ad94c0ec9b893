set_option maxHeartbeats 4000000 in
set_option maxRecDepth 100000 in
theorem kx_X11_person (l : Launch) (hst : l.stackTraces = false) (dC : Nat → ClassId) (dI : Nat → Nat → Nat) (ad : Nat → Nat) (h0 h1 h2 h3 h4 h5 h6 h7 h8 h9 h10 h11 h12 h13 h14 h15 h16 h17 h18 h19 h20 : Nat) (p0 p1 : Int32) (sz : Nat) : vx_Met l yX11_person wsX11_person ({ frames := 6, cells := 1, slots := 6, locals := 81 }) (va_Pc [.ref h0, .int p0, .int p1] (fun U => CP (dC, dI) [(h0, .inr (10, [.ref h1, .ref h2, .ref h3, .ref h4, .ref h5, .ref h6, .ref h7, .ref h8, .ref h9, .ref h10, .ref h11, .ref h12, .ref h13, .ref h14, .ref h15, .int (-1), .int 0, .int (-1), .int (-1)])), (h2, .inr (5, [.ref h16, .ref h17, .ref h18, .ref h19, .ref h20, .int 0, .int 0, .int 0, .int 2, .int 0, .int 0, .int 0]))] [] sz ad U ∧ EX (va_A [(h0, .inr (10, [.ref h1, .ref h2, .ref h3, .ref h4, .ref h5, .ref h6, .ref h7, .ref h8, .ref h9, .ref h10, .ref h11, .ref h12, .ref h13, .ref h14, .ref h15, .int (-1), .int 0, .int (-1), .int (-1)])), (h2, .inr (5, [.ref h16, .ref h17, .ref h18, .ref h19, .ref h20, .int 0, .int 0, .int 0, .int 2, .int 0, .int 0, .int 0]))] sz) U U.heap)) (va_Qi (fun (_ : Int32) (_ : Unit) => False) (fun _ _ => True) (va_A [(h0, .inr (10, [.ref h1, .ref h2, .ref h3, .ref h4, .ref h5, .ref h6, .ref h7, .ref h8, .ref h9, .ref h10, .ref h11, .ref h12, .ref h13, .ref h14, .ref h15, .int (-1), .int 0, .int (-1), .int (-1)])), (h2, .inr (5, [.ref h16, .ref h17, .ref h18, .ref h19, .ref h20, .int 0, .int 0, .int 0, .int 2, .int 0, .int 0, .int 0]))] sz)) (vx_X (fun _ : Unit => True) (fun (E : String) (_ : Unit) (_ : State) => E = "java/util/NoSuchElementException") (va_A [(h0, .inr (10, [.ref h1, .ref h2, .ref h3, .ref h4, .ref h5, .ref h6, .ref h7, .ref h8, .ref h9, .ref h10, .ref h11, .ref h12, .ref h13, .ref h14, .ref h15, .int (-1), .int 0, .int (-1), .int (-1)])), (h2, .inr (5, [.ref h16, .ref h17, .ref h18, .ref h19, .ref h20, .int 0, .int 0, .int 0, .int 2, .int 0, .int 0, .int 0]))] sz)) 1 6 (va_A [(h0, .inr (10, [.ref h1, .ref h2, .ref h3, .ref h4, .ref h5, .ref h6, .ref h7, .ref h8, .ref h9, .ref h10, .ref h11, .ref h12, .ref h13, .ref h14, .ref h15, .int (-1), .int 0, .int (-1), .int (-1)])), (h2, .inr (5, [.ref h16, .ref h17, .ref h18, .ref h19, .ref h20, .int 0, .int 0, .int 0, .int 2, .int 0, .int 0, .int 0]))] sz) := by
  refine vx_ofW (cc := cX11_person) (maxL := 4) (ret := (some .int)) (by decide) rfl ?_
  intro p e s m args below meth c s₁ B hml htab hv
  obtain ⟨rfl, ⟨hsz, hP, hK, hD0, hE⟩, hEX⟩ := hv
  have hx := B.exec
  have hb := B.bytes
  have hr := B.returns
  have hts := atoms_spec (ws := wsX11_person) B.pre
  have hown : s.vm.findClass RX11 = some m.cls := findClass_of_methodNamed B.named
  have hlocks := B.notSynchronized
  subst hsz
  have hD := hD0.self (sz := s.heap.size)
  generalize hAe : va_A [(h0, .inr (10, [.ref h1, .ref h2, .ref h3, .ref h4, .ref h5, .ref h6, .ref h7, .ref h8, .ref h9, .ref h10, .ref h11, .ref h12, .ref h13, .ref h14, .ref h15, .int (-1), .int 0, .int (-1), .int (-1)])), (h2, .inr (5, [.ref h16, .ref h17, .ref h18, .ref h19, .ref h20, .int 0, .int 0, .int 0, .int 2, .int 0, .int 0, .int 0]))] s.heap.size = A at hD hE hEX ⊢
  have hA : ∀ q : Nat, s.heap.size ≤ q → A q := fun q h => by rw [← hAe]; exact Or.inr h
  have hS : va_S A s.heap s.heap [] := va_S.rf
  have hl := lv_entry ([.ref h0, .int p0, .int p1]) (n := 4) (Nat.le_of_ble_eq_true rfl)
  rw [lg_entry_eq]
  generalize (lg_sl ([.ref h0, .int p0, .int p1]) ++ List.replicate (4 - (lg_sl ([.ref h0, .int p0, .int p1])).length) Slot.unset).toArray = ls at hl ⊢
  have hl : lv_has ls 4 [(0, .ref h0), (1, .int p0), (2, .int p1)] := hl
  refine lv_aload_n hx hb dX11_person_0 rfl (lv_at hl 0 rfl) ?_
  refine va_get (D := (dC, dI)) (ci := 10) (v := .ref h2) (C := RX11) (T := TX11) (N := 19) hx hb hts ii_X11_person_X11 hown hK hP 0 rfl rfl 1 (by decide) (hts _ mm_X11_person_3) (fun _ h9 => h9) rfl dX11_person_1 ?_
  refine lv_iload_n hx hb dX11_person_4 rfl (lv_at hl 1 rfl) ?_
  have hPc := hP.sub (ws' := [(h2, .inr (5, [.ref h16, .ref h17, .ref h18, .ref h19, .ref h20, .int 0, .int 0, .int 0, .int 2, .int 0, .int 0, .int 0]))]) [1] rfl
  have hDc := hD.sub (ws' := [(h2, .inr (5, [.ref h16, .ref h17, .ref h18, .ref h19, .ref h20, .int 0, .int 0, .int 0, .int 2, .int 0, .int 0, .int 0]))]) [1] (by decide) rfl
  have hKc := hK.sub (tys' := []) [] rfl
  have hFc := va_free (wc := [(h2, .inr (5, [.ref h16, .ref h17, .ref h18, .ref h19, .ref h20, .int 0, .int 0, .int 0, .int 2, .int 0, .int 0, .int 0]))]) hD hS hA [1] rfl
  refine va_calli (va_runV (As := [.int p0]) (rest := []) ⟨hx, hb, hml, hown, hts⟩ (k_X4_hasPerson l dC dI ad h2 h16 h17 h18 h19 h20 p0 s.heap.size) (cwV 1 hts gX11_person_X4_hasPerson rfl rfl rfl (by decide +kernel) ⟨Nat.le_of_ble_eq_true rfl, Nat.le_of_ble_eq_true rfl⟩) ⟨fun a U g mk q => ⟨q.1, CP.blind q.2⟩, va_recv hKc hPc (ci := 5) (q0 := 0) rfl rfl, fun U hU hW => ⟨rfl, CP.of hPc hKc hDc hE hS hFc hU hW⟩⟩ rfl rfl hl.1 rfl (lv_room (Nat.le_of_ble_eq_true rfl)) dX11_person_5 ⟨Nat.le_of_ble_eq_true rfl, Nat.le_of_ble_eq_true rfl⟩) hS (fun q _ h => hFc q h) hFc (fun r1 u t H1 locs ht hvm hw hB hz1 hk1 hS => ?_)
  obtain ⟨hP1, hK1, hD1⟩ := hB
  rw [ht] at hP1
  obtain ⟨hP, hD⟩ := va_join (wr := [(h0, .inr (10, [.ref h1, .ref h2, .ref h3, .ref h4, .ref h5, .ref h6, .ref h7, .ref h8, .ref h9, .ref h10, .ref h11, .ref h12, .ref h13, .ref h14, .ref h15, .int (-1), .int 0, .int (-1), .int (-1)]))]) (w1 := [(h2, .inr (5, [.ref h16, .ref h17, .ref h18, .ref h19, .ref h20, .int 0, .int 0, .int 0, .int 2, .int 0, .int 0, .int 0]))]) hP hD [1] [0] rfl rfl (by decide) (by decide) hk1 hFc hP1 hD1
  generalize H1 = H at hP hS ⊢
  clear hPc hDc hKc hFc hP1 hD1 hK1 hk1 hz1
  have hP : va_P (dC, dI) vwCl [(h0, .inr (10, [.ref h1, .ref h2, .ref h3, .ref h4, .ref h5, .ref h6, .ref h7, .ref h8, .ref h9, .ref h10, .ref h11, .ref h12, .ref h13, .ref h14, .ref h15, .int (-1), .int 0, .int (-1), .int (-1)])), (h2, .inr (5, [.ref h16, .ref h17, .ref h18, .ref h19, .ref h20, .int 0, .int 0, .int 0, .int 2, .int 0, .int 0, .int 0]))] H := hP
  have hD : va_D A [(h0, .inr (10, [.ref h1, .ref h2, .ref h3, .ref h4, .ref h5, .ref h6, .ref h7, .ref h8, .ref h9, .ref h10, .ref h11, .ref h12, .ref h13, .ref h14, .ref h15, .int (-1), .int 0, .int (-1), .int (-1)])), (h2, .inr (5, [.ref h16, .ref h17, .ref h18, .ref h19, .ref h20, .int 0, .int 0, .int 0, .int 2, .int 0, .int 0, .int 0]))] := hD
  refine zz_top (v := 0) hw ?_
  refine lv_if_ne (tgt := 19) hx hb dX11_person_8 (by decide) (fun c2 => absurd (by decide) c2) (fun _ => ?_)
  exact vx_throw0 (own := RX11) (cls := "java/util/NoSuchElementException") (names := ["java/lang/RuntimeException", "java/lang/Exception"]) (ik := 137) (ic := 139) (A := A) hx hb hst hown (by decide) (by decide) (hts _ mm_X11_person_1) (hts _ mm_X11_person_2) (vx_hat (fun w hw => hts w (vg_X11_person w hw)) vx_bad (vx_c (va_Nw.use rfl hEX.1.1) (vx_c (va_Nw.use rfl hEX.1.2.1) (vx_c (va_Nw.use rfl hEX.1.2.2.1) (vx_c (va_Nw.use rfl hEX.1.2.2.2) vx_n))))) vx_allot hEX.2.1 hEX.2.2 hS (by rw [hml]; exact hl.1) dX11_person_11 dX11_person_14 dX11_person_15 dX11_person_18 (fun x hx => (htab x hx).elim) (Nat.le_of_ble_eq_true rfl) (Nat.le_of_ble_eq_true rfl) (Nat.le_of_ble_eq_true rfl) (Nat.le_of_ble_eq_true rfl) hlocks (fun t hvm hz hk => ⟨(), trivial, rfl, Nat.le_trans hS.1 hz, fun q hq hn => (hk q (Nat.lt_of_lt_of_le hq hS.1)).trans (hS.2.1 q hq hn)⟩) hS.2.2 (Nat.le_of_ble_eq_true rfl) (Nat.le_of_ble_eq_true rfl)
set_option maxHeartbeats 4000000 in
set_option maxRecDepth 100000 in
theorem kl_L_person (l : Launch) (hst : l.stackTraces = false) (dC : Nat → ClassId) (dI : Nat → Nat → Nat) (ad : Nat → Nat) (h0 h1 h2 h3 h4 h5 h6 h7 h8 h9 h10 h11 h12 h13 h14 h15 h16 h17 h18 h19 h20 o : Nat) (p0 p1 : Int32) (sz : Nat) : Met l yL_person wsL_person ({ frames := 7, cells := 1, slots := 6, locals := 104 }) (va_Pc [.ref h0, .int p0, .int p1, .ref o] (fun U => CP (dC, dI) [(h0, .inr (10, [.ref h1, .ref h2, .ref h3, .ref h4, .ref h5, .ref h6, .ref h7, .ref h8, .ref h9, .ref h10, .ref h11, .ref h12, .ref h13, .ref h14, .ref h15, .int (-1), .int 0, .int (-1), .int (-1)])), (h2, .inr (5, [.ref h16, .ref h17, .ref h18, .ref h19, .ref h20, .int 0, .int 0, .int 0, .int 2, .int 0, .int 0, .int 0]))] [] sz ad U ∧ EX (va_A [(h0, .inr (10, [.ref h1, .ref h2, .ref h3, .ref h4, .ref h5, .ref h6, .ref h7, .ref h8, .ref h9, .ref h10, .ref h11, .ref h12, .ref h13, .ref h14, .ref h15, .int (-1), .int 0, .int (-1), .int (-1)])), (h2, .inr (5, [.ref h16, .ref h17, .ref h18, .ref h19, .ref h20, .int 0, .int 0, .int 0, .int 2, .int 0, .int 0, .int 0]))] sz) U U.heap)) (va_Qi (fun (r : Int32) (_ : Unit) => r = 1) (fun (_ : Unit) (t : State) => CQ (dC, dI) [] [] (va_A [(h0, .inr (10, [.ref h1, .ref h2, .ref h3, .ref h4, .ref h5, .ref h6, .ref h7, .ref h8, .ref h9, .ref h10, .ref h11, .ref h12, .ref h13, .ref h14, .ref h15, .int (-1), .int 0, .int (-1), .int (-1)])), (h2, .inr (5, [.ref h16, .ref h17, .ref h18, .ref h19, .ref h20, .int 0, .int 0, .int 0, .int 2, .int 0, .int 0, .int 0]))] sz) t) (va_A [(h0, .inr (10, [.ref h1, .ref h2, .ref h3, .ref h4, .ref h5, .ref h6, .ref h7, .ref h8, .ref h9, .ref h10, .ref h11, .ref h12, .ref h13, .ref h14, .ref h15, .int (-1), .int 0, .int (-1), .int (-1)])), (h2, .inr (5, [.ref h16, .ref h17, .ref h18, .ref h19, .ref h20, .int 0, .int 0, .int 0, .int 2, .int 0, .int 0, .int 0]))] sz)) 1 6 (va_A [(h0, .inr (10, [.ref h1, .ref h2, .ref h3, .ref h4, .ref h5, .ref h6, .ref h7, .ref h8, .ref h9, .ref h10, .ref h11, .ref h12, .ref h13, .ref h14, .ref h15, .int (-1), .int 0, .int (-1), .int (-1)])), (h2, .inr (5, [.ref h16, .ref h17, .ref h18, .ref h19, .ref h20, .int 0, .int 0, .int 0, .int 2, .int 0, .int 0, .int 0]))] sz) := by
  refine va_MetW (cc := cL_person) (maxL := 5) (ret := some .int) (hh := [(0, 10, 13, 13)]) (by decide) rfl ?_
  intro p e s m args below meth c s₁ B hml hv
  obtain ⟨rfl, ⟨hsz, hP, hK, hD0, hE⟩, hEX⟩ := hv
  have hx := B.exec
  have hb := B.bytes
  have hr := B.returns
  have hts := atoms_spec (ws := wsL_person) B.pre
  have hown : s.vm.findClass RL = some m.cls := findClass_of_methodNamed B.named
  have hlocks := B.notSynchronized
  have htab := vx_table (x := yL_person) B (hts _ List.mem_cons_self)
  subst hsz
  have hD := hD0.self (sz := s.heap.size)
  generalize hAe : va_A [(h0, .inr (10, [.ref h1, .ref h2, .ref h3, .ref h4, .ref h5, .ref h6, .ref h7, .ref h8, .ref h9, .ref h10, .ref h11, .ref h12, .ref h13, .ref h14, .ref h15, .int (-1), .int 0, .int (-1), .int (-1)])), (h2, .inr (5, [.ref h16, .ref h17, .ref h18, .ref h19, .ref h20, .int 0, .int 0, .int 0, .int 2, .int 0, .int 0, .int 0]))] s.heap.size = A at hD hE hEX ⊢
  have hA : ∀ q : Nat, s.heap.size ≤ q → A q := fun q h => by rw [← hAe]; exact Or.inr h
  have hS : va_S A s.heap s.heap [] := va_S.rf
  have hl := lv_entry ([.ref h0, .int p0, .int p1, .ref o]) (n := 5) (Nat.le_of_ble_eq_true rfl)
  rw [lg_entry_eq]
  generalize (lg_sl ([.ref h0, .int p0, .int p1, .ref o]) ++ List.replicate (5 - (lg_sl ([.ref h0, .int p0, .int p1, .ref o])).length) Slot.unset).toArray = ls at hl ⊢
  have hl : lv_has ls 5 [(0, .ref h0), (1, .int p0), (2, .int p1), (3, .ref o)] := hl
  refine lv_aload_n hx hb dL_person_0 rfl (lv_at hl 3 rfl) ?_
  refine lv_iconst (v := 0) hx hb dL_person_1 (by decide) ?_
  refine lv_aload_n hx hb dL_person_2 rfl (lv_at hl 0 rfl) ?_
  refine lv_iload_n hx hb dL_person_3 rfl (lv_at hl 1 rfl) ?_
  refine lv_iload_n hx hb dL_person_4 rfl (lv_at hl 2 rfl) ?_
  have hPc := hP.sub (ws' := [(h0, .inr (10, [.ref h1, .ref h2, .ref h3, .ref h4, .ref h5, .ref h6, .ref h7, .ref h8, .ref h9, .ref h10, .ref h11, .ref h12, .ref h13, .ref h14, .ref h15, .int (-1), .int 0, .int (-1), .int (-1)])), (h2, .inr (5, [.ref h16, .ref h17, .ref h18, .ref h19, .ref h20, .int 0, .int 0, .int 0, .int 2, .int 0, .int 0, .int 0]))]) [0, 1] rfl
  have hDc := hD.sub (ws' := [(h0, .inr (10, [.ref h1, .ref h2, .ref h3, .ref h4, .ref h5, .ref h6, .ref h7, .ref h8, .ref h9, .ref h10, .ref h11, .ref h12, .ref h13, .ref h14, .ref h15, .int (-1), .int 0, .int (-1), .int (-1)])), (h2, .inr (5, [.ref h16, .ref h17, .ref h18, .ref h19, .ref h20, .int 0, .int 0, .int 0, .int 2, .int 0, .int 0, .int 0]))]) [0, 1] (by decide) rfl
  have hKc := hK.sub (tys' := []) [] rfl
  have hFc := va_free (wc := [(h0, .inr (10, [.ref h1, .ref h2, .ref h3, .ref h4, .ref h5, .ref h6, .ref h7, .ref h8, .ref h9, .ref h10, .ref h11, .ref h12, .ref h13, .ref h14, .ref h15, .int (-1), .int 0, .int (-1), .int (-1)])), (h2, .inr (5, [.ref h16, .ref h17, .ref h18, .ref h19, .ref h20, .int 0, .int 0, .int 0, .int 2, .int 0, .int 0, .int 0]))]) hD hS hA [0, 1] rfl
  refine vx_calli (vx_runV (As := [.int p0, .int p1]) (rest := [.int 0, .ref o]) ⟨hx, hb, hml, hown, hts⟩ (kx_X11_person l hst dC dI ad h0 h1 h2 h3 h4 h5 h6 h7 h8 h9 h10 h11 h12 h13 h14 h15 h16 h17 h18 h19 h20 p0 p1 s.heap.size) (cwV 2 hts gL_person_X11_person rfl rfl rfl (by decide +kernel) ⟨Nat.le_of_ble_eq_true rfl, Nat.le_of_ble_eq_true rfl⟩) ⟨fun a U g mk q => ⟨q.1, CP.blind q.2.1, EX.blind q.2.2⟩, va_recv hKc hPc (ci := 10) (q0 := 0) rfl rfl, fun U hU hW => ⟨rfl, CP.of hPc hKc hDc hE hS hFc hU hW, EX.call hEX hS hFc hU hW⟩⟩ rfl rfl hl.1 rfl (lv_room (Nat.le_of_ble_eq_true rfl)) dL_person_5 ⟨Nat.le_of_ble_eq_true rfl, Nat.le_of_ble_eq_true rfl⟩) hS (fun q _ h => hFc q h) hFc (fun q _ h => hFc q h) (fun E ce q9 u t H1 locs ht hvm hpx hBX hz1 hk1 hS hq9 hce hcl => ?_) (fun r u t H1 locs ht hvm hw hB hz1 hk1 hS => hw.elim)
  obtain rfl : E = "java/util/NoSuchElementException" := hBX
  refine vx_catch (own := RL) (name := "java/util/NoSuchElementException") hown [] (⟨0, 10, 13, 13⟩ : ExceptionTableEntry) [] (htab.trans rfl) (fun z hz => nomatch hz) (by decide) (by decide) (hts _ mm_L_person_1) (va_Nw.use rfl hEX.1.2.2.2) hq9 hce hcl ?_
  refine lv_astore (lv' := [(4, .ref q9), (0, .ref h0), (1, .int p0), (2, .int p1), (3, .ref o)]) hx hb dL_person_13 hl (by decide) rfl (fun ls hl => ?_)
  refine lv_iconst (v := 1) hx hb dL_person_15 (by decide) ?_
  refine W.widen (k := 1) (n := 6) (Nat.le_of_ble_eq_true rfl) (Nat.le_of_ble_eq_true rfl) ?_
  exact W.iret (v := 1) hx hb hr (fun t ht hW => ⟨⟨1, (), rfl, rfl, fun k q h => by simp at h, va_K.moved hW.alike (hK.sub (tys' := []) [] rfl), ⟨fun i j p q h => by simp at h, fun k q h => by simp at h⟩⟩, hS.F ht⟩) hS.2.2 dL_person_16
set_option maxHeartbeats 4000000 in
set_option maxRecDepth 100000 in
theorem kx_X11_dog (l : Launch) (hst : l.stackTraces = false) (dC : Nat → ClassId) (dI : Nat → Nat → Nat) (ad : Nat → Nat) (h0 h1 h2 h3 h4 h5 h6 h7 h8 h9 h10 h11 h12 h13 h14 h15 h16 h17 h18 h19 h20 : Nat) (p0 p1 : Int32) (sz : Nat) : vx_Met l yX11_dog wsX11_dog ({ frames := 6, cells := 1, slots := 6, locals := 81 }) (va_Pc [.ref h0, .int p0, .int p1] (fun U => CP (dC, dI) [(h0, .inr (10, [.ref h1, .ref h2, .ref h3, .ref h4, .ref h5, .ref h6, .ref h7, .ref h8, .ref h9, .ref h10, .ref h11, .ref h12, .ref h13, .ref h14, .ref h15, .int (-1), .int 0, .int (-1), .int (-1)])), (h2, .inr (5, [.ref h16, .ref h17, .ref h18, .ref h19, .ref h20, .int 0, .int 0, .int 0, .int 2, .int 0, .int 0, .int 0]))] [] sz ad U ∧ EX (va_A [(h0, .inr (10, [.ref h1, .ref h2, .ref h3, .ref h4, .ref h5, .ref h6, .ref h7, .ref h8, .ref h9, .ref h10, .ref h11, .ref h12, .ref h13, .ref h14, .ref h15, .int (-1), .int 0, .int (-1), .int (-1)])), (h2, .inr (5, [.ref h16, .ref h17, .ref h18, .ref h19, .ref h20, .int 0, .int 0, .int 0, .int 2, .int 0, .int 0, .int 0]))] sz) U U.heap)) (va_Qi (fun (_ : Int32) (_ : Unit) => False) (fun _ _ => True) (va_A [(h0, .inr (10, [.ref h1, .ref h2, .ref h3, .ref h4, .ref h5, .ref h6, .ref h7, .ref h8, .ref h9, .ref h10, .ref h11, .ref h12, .ref h13, .ref h14, .ref h15, .int (-1), .int 0, .int (-1), .int (-1)])), (h2, .inr (5, [.ref h16, .ref h17, .ref h18, .ref h19, .ref h20, .int 0, .int 0, .int 0, .int 2, .int 0, .int 0, .int 0]))] sz)) (vx_X (fun _ : Unit => True) (fun (E : String) (_ : Unit) (_ : State) => E = "java/util/NoSuchElementException") (va_A [(h0, .inr (10, [.ref h1, .ref h2, .ref h3, .ref h4, .ref h5, .ref h6, .ref h7, .ref h8, .ref h9, .ref h10, .ref h11, .ref h12, .ref h13, .ref h14, .ref h15, .int (-1), .int 0, .int (-1), .int (-1)])), (h2, .inr (5, [.ref h16, .ref h17, .ref h18, .ref h19, .ref h20, .int 0, .int 0, .int 0, .int 2, .int 0, .int 0, .int 0]))] sz)) 1 6 (va_A [(h0, .inr (10, [.ref h1, .ref h2, .ref h3, .ref h4, .ref h5, .ref h6, .ref h7, .ref h8, .ref h9, .ref h10, .ref h11, .ref h12, .ref h13, .ref h14, .ref h15, .int (-1), .int 0, .int (-1), .int (-1)])), (h2, .inr (5, [.ref h16, .ref h17, .ref h18, .ref h19, .ref h20, .int 0, .int 0, .int 0, .int 2, .int 0, .int 0, .int 0]))] sz) := by
  refine vx_ofW (cc := cX11_dog) (maxL := 4) (ret := (some .int)) (by decide) rfl ?_
  intro p e s m args below meth c s₁ B hml htab hv
  obtain ⟨rfl, ⟨hsz, hP, hK, hD0, hE⟩, hEX⟩ := hv
  have hx := B.exec
  have hb := B.bytes
  have hr := B.returns
  have hts := atoms_spec (ws := wsX11_dog) B.pre
  have hown : s.vm.findClass RX11 = some m.cls := findClass_of_methodNamed B.named
  have hlocks := B.notSynchronized
  subst hsz
  have hD := hD0.self (sz := s.heap.size)
  generalize hAe : va_A [(h0, .inr (10, [.ref h1, .ref h2, .ref h3, .ref h4, .ref h5, .ref h6, .ref h7, .ref h8, .ref h9, .ref h10, .ref h11, .ref h12, .ref h13, .ref h14, .ref h15, .int (-1), .int 0, .int (-1), .int (-1)])), (h2, .inr (5, [.ref h16, .ref h17, .ref h18, .ref h19, .ref h20, .int 0, .int 0, .int 0, .int 2, .int 0, .int 0, .int 0]))] s.heap.size = A at hD hE hEX ⊢
  have hA : ∀ q : Nat, s.heap.size ≤ q → A q := fun q h => by rw [← hAe]; exact Or.inr h
  have hS : va_S A s.heap s.heap [] := va_S.rf
  have hl := lv_entry ([.ref h0, .int p0, .int p1]) (n := 4) (Nat.le_of_ble_eq_true rfl)
  rw [lg_entry_eq]
  generalize (lg_sl ([.ref h0, .int p0, .int p1]) ++ List.replicate (4 - (lg_sl ([.ref h0, .int p0, .int p1])).length) Slot.unset).toArray = ls at hl ⊢
  have hl : lv_has ls 4 [(0, .ref h0), (1, .int p0), (2, .int p1)] := hl
  refine lv_aload_n hx hb dX11_dog_0 rfl (lv_at hl 0 rfl) ?_
  refine va_get (D := (dC, dI)) (ci := 10) (v := .ref h2) (C := RX11) (T := TX11) (N := 19) hx hb hts ii_X11_dog_X11 hown hK hP 0 rfl rfl 1 (by decide) (hts _ mm_X11_dog_3) (fun _ h9 => h9) rfl dX11_dog_1 ?_
  refine lv_iload_n hx hb dX11_dog_4 rfl (lv_at hl 1 rfl) ?_
  have hPc := hP.sub (ws' := [(h2, .inr (5, [.ref h16, .ref h17, .ref h18, .ref h19, .ref h20, .int 0, .int 0, .int 0, .int 2, .int 0, .int 0, .int 0]))]) [1] rfl
  have hDc := hD.sub (ws' := [(h2, .inr (5, [.ref h16, .ref h17, .ref h18, .ref h19, .ref h20, .int 0, .int 0, .int 0, .int 2, .int 0, .int 0, .int 0]))]) [1] (by decide) rfl
  have hKc := hK.sub (tys' := []) [] rfl
  have hFc := va_free (wc := [(h2, .inr (5, [.ref h16, .ref h17, .ref h18, .ref h19, .ref h20, .int 0, .int 0, .int 0, .int 2, .int 0, .int 0, .int 0]))]) hD hS hA [1] rfl
  refine va_calli (va_runV (As := [.int p0]) (rest := []) ⟨hx, hb, hml, hown, hts⟩ (k_X4_hasDog l dC dI ad h2 h16 h17 h18 h19 h20 p0 s.heap.size) (cwV 1 hts gX11_dog_X4_hasDog rfl rfl rfl (by decide +kernel) ⟨Nat.le_of_ble_eq_true rfl, Nat.le_of_ble_eq_true rfl⟩) ⟨fun a U g mk q => ⟨q.1, CP.blind q.2⟩, va_recv hKc hPc (ci := 5) (q0 := 0) rfl rfl, fun U hU hW => ⟨rfl, CP.of hPc hKc hDc hE hS hFc hU hW⟩⟩ rfl rfl hl.1 rfl (lv_room (Nat.le_of_ble_eq_true rfl)) dX11_dog_5 ⟨Nat.le_of_ble_eq_true rfl, Nat.le_of_ble_eq_true rfl⟩) hS (fun q _ h => hFc q h) hFc (fun r1 u t H1 locs ht hvm hw hB hz1 hk1 hS => ?_)
  obtain ⟨hP1, hK1, hD1⟩ := hB
  rw [ht] at hP1
  obtain ⟨hP, hD⟩ := va_join (wr := [(h0, .inr (10, [.ref h1, .ref h2, .ref h3, .ref h4, .ref h5, .ref h6, .ref h7, .ref h8, .ref h9, .ref h10, .ref h11, .ref h12, .ref h13, .ref h14, .ref h15, .int (-1), .int 0, .int (-1), .int (-1)]))]) (w1 := [(h2, .inr (5, [.ref h16, .ref h17, .ref h18, .ref h19, .ref h20, .int 0, .int 0, .int 0, .int 2, .int 0, .int 0, .int 0]))]) hP hD [1] [0] rfl rfl (by decide) (by decide) hk1 hFc hP1 hD1
  generalize H1 = H at hP hS ⊢
  clear hPc hDc hKc hFc hP1 hD1 hK1 hk1 hz1
  have hP : va_P (dC, dI) vwCl [(h0, .inr (10, [.ref h1, .ref h2, .ref h3, .ref h4, .ref h5, .ref h6, .ref h7, .ref h8, .ref h9, .ref h10, .ref h11, .ref h12, .ref h13, .ref h14, .ref h15, .int (-1), .int 0, .int (-1), .int (-1)])), (h2, .inr (5, [.ref h16, .ref h17, .ref h18, .ref h19, .ref h20, .int 0, .int 0, .int 0, .int 2, .int 0, .int 0, .int 0]))] H := hP
  have hD : va_D A [(h0, .inr (10, [.ref h1, .ref h2, .ref h3, .ref h4, .ref h5, .ref h6, .ref h7, .ref h8, .ref h9, .ref h10, .ref h11, .ref h12, .ref h13, .ref h14, .ref h15, .int (-1), .int 0, .int (-1), .int (-1)])), (h2, .inr (5, [.ref h16, .ref h17, .ref h18, .ref h19, .ref h20, .int 0, .int 0, .int 0, .int 2, .int 0, .int 0, .int 0]))] := hD
  refine zz_top (v := 0) hw ?_
  refine lv_if_ne (tgt := 19) hx hb dX11_dog_8 (by decide) (fun c2 => absurd (by decide) c2) (fun _ => ?_)
  exact vx_throw0 (own := RX11) (cls := "java/util/NoSuchElementException") (names := ["java/lang/RuntimeException", "java/lang/Exception"]) (ik := 137) (ic := 139) (A := A) hx hb hst hown (by decide) (by decide) (hts _ mm_X11_dog_1) (hts _ mm_X11_dog_2) (vx_hat (fun w hw => hts w (vg_X11_dog w hw)) vx_bad (vx_c (va_Nw.use rfl hEX.1.1) (vx_c (va_Nw.use rfl hEX.1.2.1) (vx_c (va_Nw.use rfl hEX.1.2.2.1) (vx_c (va_Nw.use rfl hEX.1.2.2.2) vx_n))))) vx_allot hEX.2.1 hEX.2.2 hS (by rw [hml]; exact hl.1) dX11_dog_11 dX11_dog_14 dX11_dog_15 dX11_dog_18 (fun x hx => (htab x hx).elim) (Nat.le_of_ble_eq_true rfl) (Nat.le_of_ble_eq_true rfl) (Nat.le_of_ble_eq_true rfl) (Nat.le_of_ble_eq_true rfl) hlocks (fun t hvm hz hk => ⟨(), trivial, rfl, Nat.le_trans hS.1 hz, fun q hq hn => (hk q (Nat.lt_of_lt_of_le hq hS.1)).trans (hS.2.1 q hq hn)⟩) hS.2.2 (Nat.le_of_ble_eq_true rfl) (Nat.le_of_ble_eq_true rfl)
set_option maxHeartbeats 4000000 in
set_option maxRecDepth 100000 in
theorem kl_L_dog (l : Launch) (hst : l.stackTraces = false) (dC : Nat → ClassId) (dI : Nat → Nat → Nat) (ad : Nat → Nat) (h0 h1 h2 h3 h4 h5 h6 h7 h8 h9 h10 h11 h12 h13 h14 h15 h16 h17 h18 h19 h20 o : Nat) (p0 p1 : Int32) (sz : Nat) : Met l yL_dog wsL_dog ({ frames := 7, cells := 1, slots := 6, locals := 104 }) (va_Pc [.ref h0, .int p0, .int p1, .ref o] (fun U => CP (dC, dI) [(h0, .inr (10, [.ref h1, .ref h2, .ref h3, .ref h4, .ref h5, .ref h6, .ref h7, .ref h8, .ref h9, .ref h10, .ref h11, .ref h12, .ref h13, .ref h14, .ref h15, .int (-1), .int 0, .int (-1), .int (-1)])), (h2, .inr (5, [.ref h16, .ref h17, .ref h18, .ref h19, .ref h20, .int 0, .int 0, .int 0, .int 2, .int 0, .int 0, .int 0]))] [] sz ad U ∧ EX (va_A [(h0, .inr (10, [.ref h1, .ref h2, .ref h3, .ref h4, .ref h5, .ref h6, .ref h7, .ref h8, .ref h9, .ref h10, .ref h11, .ref h12, .ref h13, .ref h14, .ref h15, .int (-1), .int 0, .int (-1), .int (-1)])), (h2, .inr (5, [.ref h16, .ref h17, .ref h18, .ref h19, .ref h20, .int 0, .int 0, .int 0, .int 2, .int 0, .int 0, .int 0]))] sz) U U.heap)) (va_Qi (fun (r : Int32) (_ : Unit) => r = 1) (fun (_ : Unit) (t : State) => CQ (dC, dI) [] [] (va_A [(h0, .inr (10, [.ref h1, .ref h2, .ref h3, .ref h4, .ref h5, .ref h6, .ref h7, .ref h8, .ref h9, .ref h10, .ref h11, .ref h12, .ref h13, .ref h14, .ref h15, .int (-1), .int 0, .int (-1), .int (-1)])), (h2, .inr (5, [.ref h16, .ref h17, .ref h18, .ref h19, .ref h20, .int 0, .int 0, .int 0, .int 2, .int 0, .int 0, .int 0]))] sz) t) (va_A [(h0, .inr (10, [.ref h1, .ref h2, .ref h3, .ref h4, .ref h5, .ref h6, .ref h7, .ref h8, .ref h9, .ref h10, .ref h11, .ref h12, .ref h13, .ref h14, .ref h15, .int (-1), .int 0, .int (-1), .int (-1)])), (h2, .inr (5, [.ref h16, .ref h17, .ref h18, .ref h19, .ref h20, .int 0, .int 0, .int 0, .int 2, .int 0, .int 0, .int 0]))] sz)) 1 6 (va_A [(h0, .inr (10, [.ref h1, .ref h2, .ref h3, .ref h4, .ref h5, .ref h6, .ref h7, .ref h8, .ref h9, .ref h10, .ref h11, .ref h12, .ref h13, .ref h14, .ref h15, .int (-1), .int 0, .int (-1), .int (-1)])), (h2, .inr (5, [.ref h16, .ref h17, .ref h18, .ref h19, .ref h20, .int 0, .int 0, .int 0, .int 2, .int 0, .int 0, .int 0]))] sz) := by
  refine va_MetW (cc := cL_dog) (maxL := 5) (ret := some .int) (hh := [(0, 10, 13, 13)]) (by decide) rfl ?_
  intro p e s m args below meth c s₁ B hml hv
  obtain ⟨rfl, ⟨hsz, hP, hK, hD0, hE⟩, hEX⟩ := hv
  have hx := B.exec
  have hb := B.bytes
  have hr := B.returns
  have hts := atoms_spec (ws := wsL_dog) B.pre
  have hown : s.vm.findClass RL = some m.cls := findClass_of_methodNamed B.named
  have hlocks := B.notSynchronized
  have htab := vx_table (x := yL_dog) B (hts _ List.mem_cons_self)
  subst hsz
  have hD := hD0.self (sz := s.heap.size)
  generalize hAe : va_A [(h0, .inr (10, [.ref h1, .ref h2, .ref h3, .ref h4, .ref h5, .ref h6, .ref h7, .ref h8, .ref h9, .ref h10, .ref h11, .ref h12, .ref h13, .ref h14, .ref h15, .int (-1), .int 0, .int (-1), .int (-1)])), (h2, .inr (5, [.ref h16, .ref h17, .ref h18, .ref h19, .ref h20, .int 0, .int 0, .int 0, .int 2, .int 0, .int 0, .int 0]))] s.heap.size = A at hD hE hEX ⊢
  have hA : ∀ q : Nat, s.heap.size ≤ q → A q := fun q h => by rw [← hAe]; exact Or.inr h
  have hS : va_S A s.heap s.heap [] := va_S.rf
  have hl := lv_entry ([.ref h0, .int p0, .int p1, .ref o]) (n := 5) (Nat.le_of_ble_eq_true rfl)
  rw [lg_entry_eq]
  generalize (lg_sl ([.ref h0, .int p0, .int p1, .ref o]) ++ List.replicate (5 - (lg_sl ([.ref h0, .int p0, .int p1, .ref o])).length) Slot.unset).toArray = ls at hl ⊢
  have hl : lv_has ls 5 [(0, .ref h0), (1, .int p0), (2, .int p1), (3, .ref o)] := hl
  refine lv_aload_n hx hb dL_dog_0 rfl (lv_at hl 3 rfl) ?_
  refine lv_iconst (v := 0) hx hb dL_dog_1 (by decide) ?_
  refine lv_aload_n hx hb dL_dog_2 rfl (lv_at hl 0 rfl) ?_
  refine lv_iload_n hx hb dL_dog_3 rfl (lv_at hl 1 rfl) ?_
  refine lv_iload_n hx hb dL_dog_4 rfl (lv_at hl 2 rfl) ?_
  have hPc := hP.sub (ws' := [(h0, .inr (10, [.ref h1, .ref h2, .ref h3, .ref h4, .ref h5, .ref h6, .ref h7, .ref h8, .ref h9, .ref h10, .ref h11, .ref h12, .ref h13, .ref h14, .ref h15, .int (-1), .int 0, .int (-1), .int (-1)])), (h2, .inr (5, [.ref h16, .ref h17, .ref h18, .ref h19, .ref h20, .int 0, .int 0, .int 0, .int 2, .int 0, .int 0, .int 0]))]) [0, 1] rfl
  have hDc := hD.sub (ws' := [(h0, .inr (10, [.ref h1, .ref h2, .ref h3, .ref h4, .ref h5, .ref h6, .ref h7, .ref h8, .ref h9, .ref h10, .ref h11, .ref h12, .ref h13, .ref h14, .ref h15, .int (-1), .int 0, .int (-1), .int (-1)])), (h2, .inr (5, [.ref h16, .ref h17, .ref h18, .ref h19, .ref h20, .int 0, .int 0, .int 0, .int 2, .int 0, .int 0, .int 0]))]) [0, 1] (by decide) rfl
  have hKc := hK.sub (tys' := []) [] rfl
  have hFc := va_free (wc := [(h0, .inr (10, [.ref h1, .ref h2, .ref h3, .ref h4, .ref h5, .ref h6, .ref h7, .ref h8, .ref h9, .ref h10, .ref h11, .ref h12, .ref h13, .ref h14, .ref h15, .int (-1), .int 0, .int (-1), .int (-1)])), (h2, .inr (5, [.ref h16, .ref h17, .ref h18, .ref h19, .ref h20, .int 0, .int 0, .int 0, .int 2, .int 0, .int 0, .int 0]))]) hD hS hA [0, 1] rfl
  refine vx_calli (vx_runV (As := [.int p0, .int p1]) (rest := [.int 0, .ref o]) ⟨hx, hb, hml, hown, hts⟩ (kx_X11_dog l hst dC dI ad h0 h1 h2 h3 h4 h5 h6 h7 h8 h9 h10 h11 h12 h13 h14 h15 h16 h17 h18 h19 h20 p0 p1 s.heap.size) (cwV 2 hts gL_dog_X11_dog rfl rfl rfl (by decide +kernel) ⟨Nat.le_of_ble_eq_true rfl, Nat.le_of_ble_eq_true rfl⟩) ⟨fun a U g mk q => ⟨q.1, CP.blind q.2.1, EX.blind q.2.2⟩, va_recv hKc hPc (ci := 10) (q0 := 0) rfl rfl, fun U hU hW => ⟨rfl, CP.of hPc hKc hDc hE hS hFc hU hW, EX.call hEX hS hFc hU hW⟩⟩ rfl rfl hl.1 rfl (lv_room (Nat.le_of_ble_eq_true rfl)) dL_dog_5 ⟨Nat.le_of_ble_eq_true rfl, Nat.le_of_ble_eq_true rfl⟩) hS (fun q _ h => hFc q h) hFc (fun q _ h => hFc q h) (fun E ce q9 u t H1 locs ht hvm hpx hBX hz1 hk1 hS hq9 hce hcl => ?_) (fun r u t H1 locs ht hvm hw hB hz1 hk1 hS => hw.elim)
  obtain rfl : E = "java/util/NoSuchElementException" := hBX
  refine vx_catch (own := RL) (name := "java/util/NoSuchElementException") hown [] (⟨0, 10, 13, 13⟩ : ExceptionTableEntry) [] (htab.trans rfl) (fun z hz => nomatch hz) (by decide) (by decide) (hts _ mm_L_dog_1) (va_Nw.use rfl hEX.1.2.2.2) hq9 hce hcl ?_
  refine lv_astore (lv' := [(4, .ref q9), (0, .ref h0), (1, .int p0), (2, .int p1), (3, .ref o)]) hx hb dL_dog_13 hl (by decide) rfl (fun ls hl => ?_)
  refine lv_iconst (v := 1) hx hb dL_dog_15 (by decide) ?_
  refine W.widen (k := 1) (n := 6) (Nat.le_of_ble_eq_true rfl) (Nat.le_of_ble_eq_true rfl) ?_
  exact W.iret (v := 1) hx hb hr (fun t ht hW => ⟨⟨1, (), rfl, rfl, fun k q h => by simp at h, va_K.moved hW.alike (hK.sub (tys' := []) [] rfl), ⟨fun i j p q h => by simp at h, fun k q h => by simp at h⟩⟩, hS.F ht⟩) hS.2.2 dL_dog_16
set_option maxHeartbeats 4000000 in
set_option maxRecDepth 100000 in
theorem kx_X11_risk (l : Launch) (hst : l.stackTraces = false) (dC : Nat → ClassId) (dI : Nat → Nat → Nat) (ad : Nat → Nat) (h0 h1 h2 h3 h4 h5 h6 h7 h8 h9 h10 h11 h12 h13 h14 h15 h16 h17 h18 h19 h20 : Nat) (p0 p1 : Int32) (sz : Nat) : vx_Met l yX11_risk wsX11_risk ({ frames := 6, cells := 1, slots := 6, locals := 81 }) (va_Pc [.ref h0, .int p0, .int p1] (fun U => CP (dC, dI) [(h0, .inr (10, [.ref h1, .ref h2, .ref h3, .ref h4, .ref h5, .ref h6, .ref h7, .ref h8, .ref h9, .ref h10, .ref h11, .ref h12, .ref h13, .ref h14, .ref h15, .int (-1), .int 0, .int (-1), .int (-1)])), (h2, .inr (5, [.ref h16, .ref h17, .ref h18, .ref h19, .ref h20, .int 0, .int 0, .int 0, .int 2, .int 0, .int 0, .int 0]))] [] sz ad U ∧ EX (va_A [(h0, .inr (10, [.ref h1, .ref h2, .ref h3, .ref h4, .ref h5, .ref h6, .ref h7, .ref h8, .ref h9, .ref h10, .ref h11, .ref h12, .ref h13, .ref h14, .ref h15, .int (-1), .int 0, .int (-1), .int (-1)])), (h2, .inr (5, [.ref h16, .ref h17, .ref h18, .ref h19, .ref h20, .int 0, .int 0, .int 0, .int 2, .int 0, .int 0, .int 0]))] sz) U U.heap)) (va_Ql (fun (_ : Int64) (_ : Unit) => False) (fun _ _ => True) (va_A [(h0, .inr (10, [.ref h1, .ref h2, .ref h3, .ref h4, .ref h5, .ref h6, .ref h7, .ref h8, .ref h9, .ref h10, .ref h11, .ref h12, .ref h13, .ref h14, .ref h15, .int (-1), .int 0, .int (-1), .int (-1)])), (h2, .inr (5, [.ref h16, .ref h17, .ref h18, .ref h19, .ref h20, .int 0, .int 0, .int 0, .int 2, .int 0, .int 0, .int 0]))] sz)) (vx_X (fun _ : Unit => True) (fun (E : String) (_ : Unit) (_ : State) => E = "java/util/NoSuchElementException") (va_A [(h0, .inr (10, [.ref h1, .ref h2, .ref h3, .ref h4, .ref h5, .ref h6, .ref h7, .ref h8, .ref h9, .ref h10, .ref h11, .ref h12, .ref h13, .ref h14, .ref h15, .int (-1), .int 0, .int (-1), .int (-1)])), (h2, .inr (5, [.ref h16, .ref h17, .ref h18, .ref h19, .ref h20, .int 0, .int 0, .int 0, .int 2, .int 0, .int 0, .int 0]))] sz)) 1 6 (va_A [(h0, .inr (10, [.ref h1, .ref h2, .ref h3, .ref h4, .ref h5, .ref h6, .ref h7, .ref h8, .ref h9, .ref h10, .ref h11, .ref h12, .ref h13, .ref h14, .ref h15, .int (-1), .int 0, .int (-1), .int (-1)])), (h2, .inr (5, [.ref h16, .ref h17, .ref h18, .ref h19, .ref h20, .int 0, .int 0, .int 0, .int 2, .int 0, .int 0, .int 0]))] sz) := by
  refine vx_ofW (cc := cX11_risk) (maxL := 9) (ret := (some .long)) (by decide) rfl ?_
  intro p e s m args below meth c s₁ B hml htab hv
  obtain ⟨rfl, ⟨hsz, hP, hK, hD0, hE⟩, hEX⟩ := hv
  have hx := B.exec
  have hb := B.bytes
  have hr := B.returns
  have hts := atoms_spec (ws := wsX11_risk) B.pre
  have hown : s.vm.findClass RX11 = some m.cls := findClass_of_methodNamed B.named
  have hlocks := B.notSynchronized
  subst hsz
  have hD := hD0.self (sz := s.heap.size)
  generalize hAe : va_A [(h0, .inr (10, [.ref h1, .ref h2, .ref h3, .ref h4, .ref h5, .ref h6, .ref h7, .ref h8, .ref h9, .ref h10, .ref h11, .ref h12, .ref h13, .ref h14, .ref h15, .int (-1), .int 0, .int (-1), .int (-1)])), (h2, .inr (5, [.ref h16, .ref h17, .ref h18, .ref h19, .ref h20, .int 0, .int 0, .int 0, .int 2, .int 0, .int 0, .int 0]))] s.heap.size = A at hD hE hEX ⊢
  have hA : ∀ q : Nat, s.heap.size ≤ q → A q := fun q h => by rw [← hAe]; exact Or.inr h
  have hS : va_S A s.heap s.heap [] := va_S.rf
  have hl := lv_entry ([.ref h0, .int p0, .int p1]) (n := 9) (Nat.le_of_ble_eq_true rfl)
  rw [lg_entry_eq]
  generalize (lg_sl ([.ref h0, .int p0, .int p1]) ++ List.replicate (9 - (lg_sl ([.ref h0, .int p0, .int p1])).length) Slot.unset).toArray = ls at hl ⊢
  have hl : lv_has ls 9 [(0, .ref h0), (1, .int p0), (2, .int p1)] := hl
  refine lv_aload_n hx hb dX11_risk_0 rfl (lv_at hl 0 rfl) ?_
  refine va_get (D := (dC, dI)) (ci := 10) (v := .ref h2) (C := RX11) (T := TX11) (N := 19) hx hb hts ii_X11_risk_X11 hown hK hP 0 rfl rfl 1 (by decide) (hts _ mm_X11_risk_3) (fun _ h9 => h9) rfl dX11_risk_1 ?_
  refine lv_iload_n hx hb dX11_risk_4 rfl (lv_at hl 1 rfl) ?_
  have hPc := hP.sub (ws' := [(h2, .inr (5, [.ref h16, .ref h17, .ref h18, .ref h19, .ref h20, .int 0, .int 0, .int 0, .int 2, .int 0, .int 0, .int 0]))]) [1] rfl
  have hDc := hD.sub (ws' := [(h2, .inr (5, [.ref h16, .ref h17, .ref h18, .ref h19, .ref h20, .int 0, .int 0, .int 0, .int 2, .int 0, .int 0, .int 0]))]) [1] (by decide) rfl
  have hKc := hK.sub (tys' := []) [] rfl
  have hFc := va_free (wc := [(h2, .inr (5, [.ref h16, .ref h17, .ref h18, .ref h19, .ref h20, .int 0, .int 0, .int 0, .int 2, .int 0, .int 0, .int 0]))]) hD hS hA [1] rfl
  refine va_calli (va_runV (As := [.int p0]) (rest := []) ⟨hx, hb, hml, hown, hts⟩ (k_X4_hasPerson l dC dI ad h2 h16 h17 h18 h19 h20 p0 s.heap.size) (cwV 1 hts gX11_risk_X4_hasPerson rfl rfl rfl (by decide +kernel) ⟨Nat.le_of_ble_eq_true rfl, Nat.le_of_ble_eq_true rfl⟩) ⟨fun a U g mk q => ⟨q.1, CP.blind q.2⟩, va_recv hKc hPc (ci := 5) (q0 := 0) rfl rfl, fun U hU hW => ⟨rfl, CP.of hPc hKc hDc hE hS hFc hU hW⟩⟩ rfl rfl hl.1 rfl (lv_room (Nat.le_of_ble_eq_true rfl)) dX11_risk_5 ⟨Nat.le_of_ble_eq_true rfl, Nat.le_of_ble_eq_true rfl⟩) hS (fun q _ h => hFc q h) hFc (fun r1 u t H1 locs ht hvm hw hB hz1 hk1 hS => ?_)
  obtain ⟨hP1, hK1, hD1⟩ := hB
  rw [ht] at hP1
  obtain ⟨hP, hD⟩ := va_join (wr := [(h0, .inr (10, [.ref h1, .ref h2, .ref h3, .ref h4, .ref h5, .ref h6, .ref h7, .ref h8, .ref h9, .ref h10, .ref h11, .ref h12, .ref h13, .ref h14, .ref h15, .int (-1), .int 0, .int (-1), .int (-1)]))]) (w1 := [(h2, .inr (5, [.ref h16, .ref h17, .ref h18, .ref h19, .ref h20, .int 0, .int 0, .int 0, .int 2, .int 0, .int 0, .int 0]))]) hP hD [1] [0] rfl rfl (by decide) (by decide) hk1 hFc hP1 hD1
  generalize H1 = H at hP hS ⊢
  clear hPc hDc hKc hFc hP1 hD1 hK1 hk1 hz1
  have hP : va_P (dC, dI) vwCl [(h0, .inr (10, [.ref h1, .ref h2, .ref h3, .ref h4, .ref h5, .ref h6, .ref h7, .ref h8, .ref h9, .ref h10, .ref h11, .ref h12, .ref h13, .ref h14, .ref h15, .int (-1), .int 0, .int (-1), .int (-1)])), (h2, .inr (5, [.ref h16, .ref h17, .ref h18, .ref h19, .ref h20, .int 0, .int 0, .int 0, .int 2, .int 0, .int 0, .int 0]))] H := hP
  have hD : va_D A [(h0, .inr (10, [.ref h1, .ref h2, .ref h3, .ref h4, .ref h5, .ref h6, .ref h7, .ref h8, .ref h9, .ref h10, .ref h11, .ref h12, .ref h13, .ref h14, .ref h15, .int (-1), .int 0, .int (-1), .int (-1)])), (h2, .inr (5, [.ref h16, .ref h17, .ref h18, .ref h19, .ref h20, .int 0, .int 0, .int 0, .int 2, .int 0, .int 0, .int 0]))] := hD
  refine zz_top (v := 0) hw ?_
  refine lv_if_eq (tgt := 35) hx hb dX11_risk_8 (by decide) (fun _ => ?_) (fun c2 => absurd (by decide) c2)
  exact vx_throw0 (own := RX11) (cls := "java/util/NoSuchElementException") (names := ["java/lang/RuntimeException", "java/lang/Exception"]) (ik := 137) (ic := 139) (A := A) hx hb hst hown (by decide) (by decide) (hts _ mm_X11_risk_1) (hts _ mm_X11_risk_2) (vx_hat (fun w hw => hts w (vg_X11_risk w hw)) vx_bad (vx_c (va_Nw.use rfl hEX.1.1) (vx_c (va_Nw.use rfl hEX.1.2.1) (vx_c (va_Nw.use rfl hEX.1.2.2.1) (vx_c (va_Nw.use rfl hEX.1.2.2.2) vx_n))))) vx_allot hEX.2.1 hEX.2.2 hS (by rw [hml]; exact hl.1) dX11_risk_35 dX11_risk_38 dX11_risk_39 dX11_risk_42 (fun x hx => (htab x hx).elim) (Nat.le_of_ble_eq_true rfl) (Nat.le_of_ble_eq_true rfl) (Nat.le_of_ble_eq_true rfl) (Nat.le_of_ble_eq_true rfl) hlocks (fun t hvm hz hk => ⟨(), trivial, rfl, Nat.le_trans hS.1 hz, fun q hq hn => (hk q (Nat.lt_of_lt_of_le hq hS.1)).trans (hS.2.1 q hq hn)⟩) hS.2.2 (Nat.le_of_ble_eq_true rfl) (Nat.le_of_ble_eq_true rfl)
set_option maxHeartbeats 4000000 in
set_option maxRecDepth 100000 in
theorem kl_L_risk (l : Launch) (hst : l.stackTraces = false) (dC : Nat → ClassId) (dI : Nat → Nat → Nat) (ad : Nat → Nat) (h0 h1 h2 h3 h4 h5 h6 h7 h8 h9 h10 h11 h12 h13 h14 h15 h16 h17 h18 h19 h20 o : Nat) (p0 p1 : Int32) (sz : Nat) : Met l yL_risk wsL_risk ({ frames := 7, cells := 1, slots := 6, locals := 109 }) (va_Pc [.ref h0, .int p0, .int p1, .ref o] (fun U => CP (dC, dI) [(h0, .inr (10, [.ref h1, .ref h2, .ref h3, .ref h4, .ref h5, .ref h6, .ref h7, .ref h8, .ref h9, .ref h10, .ref h11, .ref h12, .ref h13, .ref h14, .ref h15, .int (-1), .int 0, .int (-1), .int (-1)])), (h2, .inr (5, [.ref h16, .ref h17, .ref h18, .ref h19, .ref h20, .int 0, .int 0, .int 0, .int 2, .int 0, .int 0, .int 0]))] [] sz ad U ∧ EX (va_A [(h0, .inr (10, [.ref h1, .ref h2, .ref h3, .ref h4, .ref h5, .ref h6, .ref h7, .ref h8, .ref h9, .ref h10, .ref h11, .ref h12, .ref h13, .ref h14, .ref h15, .int (-1), .int 0, .int (-1), .int (-1)])), (h2, .inr (5, [.ref h16, .ref h17, .ref h18, .ref h19, .ref h20, .int 0, .int 0, .int 0, .int 2, .int 0, .int 0, .int 0]))] sz) U U.heap)) (va_Qi (fun (r : Int32) (_ : Unit) => r = 1) (fun (_ : Unit) (t : State) => CQ (dC, dI) [] [] (va_A [(h0, .inr (10, [.ref h1, .ref h2, .ref h3, .ref h4, .ref h5, .ref h6, .ref h7, .ref h8, .ref h9, .ref h10, .ref h11, .ref h12, .ref h13, .ref h14, .ref h15, .int (-1), .int 0, .int (-1), .int (-1)])), (h2, .inr (5, [.ref h16, .ref h17, .ref h18, .ref h19, .ref h20, .int 0, .int 0, .int 0, .int 2, .int 0, .int 0, .int 0]))] sz) t) (va_A [(h0, .inr (10, [.ref h1, .ref h2, .ref h3, .ref h4, .ref h5, .ref h6, .ref h7, .ref h8, .ref h9, .ref h10, .ref h11, .ref h12, .ref h13, .ref h14, .ref h15, .int (-1), .int 0, .int (-1), .int (-1)])), (h2, .inr (5, [.ref h16, .ref h17, .ref h18, .ref h19, .ref h20, .int 0, .int 0, .int 0, .int 2, .int 0, .int 0, .int 0]))] sz)) 1 6 (va_A [(h0, .inr (10, [.ref h1, .ref h2, .ref h3, .ref h4, .ref h5, .ref h6, .ref h7, .ref h8, .ref h9, .ref h10, .ref h11, .ref h12, .ref h13, .ref h14, .ref h15, .int (-1), .int 0, .int (-1), .int (-1)])), (h2, .inr (5, [.ref h16, .ref h17, .ref h18, .ref h19, .ref h20, .int 0, .int 0, .int 0, .int 2, .int 0, .int 0, .int 0]))] sz) := by
  refine va_MetW (cc := cL_risk) (maxL := 5) (ret := some .int) (hh := [(0, 9, 12, 13)]) (by decide) rfl ?_
  intro p e s m args below meth c s₁ B hml hv
  obtain ⟨rfl, ⟨hsz, hP, hK, hD0, hE⟩, hEX⟩ := hv
  have hx := B.exec
  have hb := B.bytes
  have hr := B.returns
  have hts := atoms_spec (ws := wsL_risk) B.pre
  have hown : s.vm.findClass RL = some m.cls := findClass_of_methodNamed B.named
  have hlocks := B.notSynchronized
  have htab := vx_table (x := yL_risk) B (hts _ List.mem_cons_self)
  subst hsz
  have hD := hD0.self (sz := s.heap.size)
  generalize hAe : va_A [(h0, .inr (10, [.ref h1, .ref h2, .ref h3, .ref h4, .ref h5, .ref h6, .ref h7, .ref h8, .ref h9, .ref h10, .ref h11, .ref h12, .ref h13, .ref h14, .ref h15, .int (-1), .int 0, .int (-1), .int (-1)])), (h2, .inr (5, [.ref h16, .ref h17, .ref h18, .ref h19, .ref h20, .int 0, .int 0, .int 0, .int 2, .int 0, .int 0, .int 0]))] s.heap.size = A at hD hE hEX ⊢
  have hA : ∀ q : Nat, s.heap.size ≤ q → A q := fun q h => by rw [← hAe]; exact Or.inr h
  have hS : va_S A s.heap s.heap [] := va_S.rf
  have hl := lv_entry ([.ref h0, .int p0, .int p1, .ref o]) (n := 5) (Nat.le_of_ble_eq_true rfl)
  rw [lg_entry_eq]
  generalize (lg_sl ([.ref h0, .int p0, .int p1, .ref o]) ++ List.replicate (5 - (lg_sl ([.ref h0, .int p0, .int p1, .ref o])).length) Slot.unset).toArray = ls at hl ⊢
  have hl : lv_has ls 5 [(0, .ref h0), (1, .int p0), (2, .int p1), (3, .ref o)] := hl
  refine lv_aload_n hx hb dL_risk_0 rfl (lv_at hl 3 rfl) ?_
  refine lv_iconst (v := 0) hx hb dL_risk_1 (by decide) ?_
  refine lv_aload_n hx hb dL_risk_2 rfl (lv_at hl 0 rfl) ?_
  refine lv_iload_n hx hb dL_risk_3 rfl (lv_at hl 1 rfl) ?_
  refine lv_iload_n hx hb dL_risk_4 rfl (lv_at hl 2 rfl) ?_
  have hPc := hP.sub (ws' := [(h0, .inr (10, [.ref h1, .ref h2, .ref h3, .ref h4, .ref h5, .ref h6, .ref h7, .ref h8, .ref h9, .ref h10, .ref h11, .ref h12, .ref h13, .ref h14, .ref h15, .int (-1), .int 0, .int (-1), .int (-1)])), (h2, .inr (5, [.ref h16, .ref h17, .ref h18, .ref h19, .ref h20, .int 0, .int 0, .int 0, .int 2, .int 0, .int 0, .int 0]))]) [0, 1] rfl
  have hDc := hD.sub (ws' := [(h0, .inr (10, [.ref h1, .ref h2, .ref h3, .ref h4, .ref h5, .ref h6, .ref h7, .ref h8, .ref h9, .ref h10, .ref h11, .ref h12, .ref h13, .ref h14, .ref h15, .int (-1), .int 0, .int (-1), .int (-1)])), (h2, .inr (5, [.ref h16, .ref h17, .ref h18, .ref h19, .ref h20, .int 0, .int 0, .int 0, .int 2, .int 0, .int 0, .int 0]))]) [0, 1] (by decide) rfl
  have hKc := hK.sub (tys' := []) [] rfl
  have hFc := va_free (wc := [(h0, .inr (10, [.ref h1, .ref h2, .ref h3, .ref h4, .ref h5, .ref h6, .ref h7, .ref h8, .ref h9, .ref h10, .ref h11, .ref h12, .ref h13, .ref h14, .ref h15, .int (-1), .int 0, .int (-1), .int (-1)])), (h2, .inr (5, [.ref h16, .ref h17, .ref h18, .ref h19, .ref h20, .int 0, .int 0, .int 0, .int 2, .int 0, .int 0, .int 0]))]) hD hS hA [0, 1] rfl
  refine vx_calll (vx_runV (As := [.int p0, .int p1]) (rest := [.int 0, .ref o]) ⟨hx, hb, hml, hown, hts⟩ (kx_X11_risk l hst dC dI ad h0 h1 h2 h3 h4 h5 h6 h7 h8 h9 h10 h11 h12 h13 h14 h15 h16 h17 h18 h19 h20 p0 p1 s.heap.size) (cwV 2 hts gL_risk_X11_risk rfl rfl rfl (by decide +kernel) ⟨Nat.le_of_ble_eq_true rfl, Nat.le_of_ble_eq_true rfl⟩) ⟨fun a U g mk q => ⟨q.1, CP.blind q.2.1, EX.blind q.2.2⟩, va_recv hKc hPc (ci := 10) (q0 := 0) rfl rfl, fun U hU hW => ⟨rfl, CP.of hPc hKc hDc hE hS hFc hU hW, EX.call hEX hS hFc hU hW⟩⟩ rfl rfl hl.1 rfl (lv_room (Nat.le_of_ble_eq_true rfl)) dL_risk_5 ⟨Nat.le_of_ble_eq_true rfl, Nat.le_of_ble_eq_true rfl⟩) hS (fun q _ h => hFc q h) hFc (fun q _ h => hFc q h) (fun E ce q9 u t H1 locs ht hvm hpx hBX hz1 hk1 hS hq9 hce hcl => ?_) (fun r u t H1 locs ht hvm hw hB hz1 hk1 hS => hw.elim)
  obtain rfl : E = "java/util/NoSuchElementException" := hBX
  refine vx_catch (own := RL) (name := "java/util/NoSuchElementException") hown [] (⟨0, 9, 12, 13⟩ : ExceptionTableEntry) [] (htab.trans rfl) (fun z hz => nomatch hz) (by decide) (by decide) (hts _ mm_L_risk_1) (va_Nw.use rfl hEX.1.2.2.2) hq9 hce hcl ?_
  refine lv_astore (lv' := [(4, .ref q9), (0, .ref h0), (1, .int p0), (2, .int p1), (3, .ref o)]) hx hb dL_risk_12 hl (by decide) rfl (fun ls hl => ?_)
  refine lv_iconst (v := 1) hx hb dL_risk_14 (by decide) ?_
  refine W.widen (k := 1) (n := 6) (Nat.le_of_ble_eq_true rfl) (Nat.le_of_ble_eq_true rfl) ?_
  exact W.iret (v := 1) hx hb hr (fun t ht hW => ⟨⟨1, (), rfl, rfl, fun k q h => by simp at h, va_K.moved hW.alike (hK.sub (tys' := []) [] rfl), ⟨fun i j p q h => by simp at h, fun k q h => by simp at h⟩⟩, hS.F ht⟩) hS.2.2 dL_risk_15
