set_option maxHeartbeats 4000000 in
set_option maxRecDepth 100000 in
theorem y_X10_of (l : Launch) (dC : Nat → ClassId) (dI : Nat → Nat → Nat) (ad : Nat → Nat) (E : EP) (hEE : EC ad E) (A : Nat → Nat) (C : Nat → ClassId) (nb sz : Nat) (hN : XN A) (st : Nat → Nat → Int32) (sl : Nat → Nat → Int64) (so : Nat → XR) (va : Nat) (vb : Nat) (B : Nat → Nat) (g m : Nat) (hva : va < 941) (hvb : vb < 941) (hI : XI st) (hB : CBt B g m st) (hab : va < vb) (hbg : vb ≤ g) (hall : cnL B va (vb - va) = (vb - va)) (h7 : (vb - va) ≤ 7) : Met l yX10_of wsX10_of ({ frames := 4, cells := 0, slots := 0, locals := 85 }) (va_Pc [.ref (A 2), .int (nI va), .int (nI vb)] (xPre E dC dI A C nb sz st sl so)) (va_Qr (fun (_ : XT) => True) (fun (x : XT) (r : Nat) (t : State) => (x = (st, sl, so) ∧ (∃ j : Nat, r = ad j ∧ j = kwi 24 (cd5 B va (vb - va)) ∧ j < 26)) ∧ xB dC dI A C nb x t) (XA A sz)) 0 0 (XA A sz) := by
  refine Met.ofW (cc := cX10_of) (maxL := 6) (ret := (some (.object "OffTheLead$Word"))) (by decide) rfl ?_
  intro p9 e s m9 args below meth c9 s₁ B9 hml hv
  obtain ⟨rfl, hsz, hP, hK, hE⟩ := hv
  have hx := B9.exec
  have hb := B9.bytes
  have hr := B9.returns
  have hts := atoms_spec (ws := wsX10_of) B9.pre
  have hown : s.vm.findClass RX10 = some m9.cls := findClass_of_methodNamed B9.named
  subst hsz
  have hEv := hEE.1 _ _ _ hE
  have hS : va_S (XA A s.heap.size) s.heap s.heap [] := va_S.rf
  have hG : XG [1, 2, 3, 4, 5, 6, 7, 8, 9, 10, 11, 12, 13, 14, 15] st st := XG.rf hI
  have hl := lv_entry ([.ref (A 2), .int (nI va), .int (nI vb)]) (n := 6) (Nat.le_of_ble_eq_true rfl)
  rw [lg_entry_eq]
  generalize (lg_sl ([.ref (A 2), .int (nI va), .int (nI vb)]) ++ List.replicate (6 - (lg_sl ([.ref (A 2), .int (nI va), .int (nI vb)])).length) Slot.unset).toArray = ls at hl ⊢
  have hl : lv_has ls 6 [(0, .ref (A 2)), (1, .int (nI va)), (2, .int (nI vb))] := hl
  have hB1 := hB.2.2.1
  have hB2 := hB.2.2.2.1
  have hF : FX 0 st sl so st sl so := FX.rf
  refine lv_iconst (v := 0) hx hb dX10_of_0 (by decide) ?_
  refine lv_istore_n (lv' := [(3, .int 0), (0, .ref (A 2)), (1, .int (nI va)), (2, .int (nI vb))]) hx hb dX10_of_1 rfl hl (by decide) rfl (fun ls hl => ?_)
  refine zz_wf (fun n stk H locs ls => ∃ k1 : Nat, n = 27 - k1 ∧ 0 ≤ k1 ∧ k1 < 27 ∧ (∀ k, k < k1 → k < 24 → ¬ cd5 B va (vb - va) = kw5 k) ∧ va_P (dC, dI) vwCl (xw A C nb st sl so) H ∧ va_S (XA A s.heap.size) s.heap H locs ∧ lv_has ls 6 [(3, .int (nI k1)), (0, .ref (A 2)), (1, .int (nI va)), (2, .int (nI vb))] ∧ stk = []) ?_ (27 - 0) _ _ _ _ ⟨0, rfl, by omega, by omega, fun k hk => absurd hk (by omega), hP, hS, lv_sub hl [0, 1, 2, 3] rfl, rfl⟩
  rintro nn stk H locs ls ⟨k1, hm4, hv2_0, hv3_1, hv4_0, hP, hS, hl, rfl⟩ ih5
  refine lv_iload_n hx hb dX10_of_2 rfl (lv_at hl 0 rfl) ?_
  refine va_gets (v := .ref (ad 300)) hx hb (hEv.sv.1.1) hS hown (hts _ mm_X10_of_1) (fun _ hh => hh) dX10_of_3 ?_
  refine va_tlen (v := 26) hx hb hEv.sv.1.2.1 hS (by decide) dX10_of_6 ?_
  refine lv_icmp_ge (tgt := 93) hx hb dX10_of_7 (by decide) (fun c1 => ?_) (fun c1 => ?_)
  · have c1 : 26 ≤ k1 := (nI_leI (a := 26) (b := k1) (by omega) (by omega)).mp c1
    refine va_gets (v := .ref (ad 24)) hx hb (EV.word hEv (i := 24) (by decide)) hS hown (hts _ mm_X10_of_3) (fun _ hh => hh) dX10_of_93 ?_
    have hns := hv4_0
    exact W.aret (v := .ref (ad 24)) hx hb hr (Or.inl ⟨_, rfl⟩) (Or.inr ⟨_, rfl⟩) (fun t ht hW => ⟨⟨(st, sl, so), (ad 24), rfl, trivial, ⟨rfl, ⟨24, rfl, (kwi_n 24 _ (fun i h1 => hns i (by omega) h1) (by omega)).symm, by omega⟩⟩, xB.of ht hP⟩, hS.F ht⟩) hS.2.2 dX10_of_96
  · have c1 : ¬ 26 ≤ k1 := fun hh => c1 ((nI_leI (a := 26) (b := k1) (by omega) (by omega)).mpr hh)
    refine va_gets (v := .ref (ad 300)) hx hb (hEv.sv.1.1) hS hown (hts _ mm_X10_of_1) (fun _ hh => hh) dX10_of_10 ?_
    refine lv_iload_n hx hb dX10_of_13 rfl (lv_at hl 0 rfl) ?_
    refine vb_tq (v := .ref (ad k1)) hx hb hEv.sv.1.2.1 hS (i := (nI k1)) (vp_in_nI (by omega) (by decide)) (by show Value.ref (ad (nI k1).toNatClampNeg) = _; rw [nI_clamp (by omega)]) dX10_of_14 ?_
    refine vk_getf (v := .ref (ad (100 + k1))) hx hb (hEv.sv.1.2.2 k1 (by omega)) hS hown (hts _ mm_X10_of_2) (fun _ hh => hh) dX10_of_15 ?_
    refine lv_astore (lv' := [(4, .ref (ad (100 + k1))), (3, .int (nI k1)), (0, .ref (A 2)), (1, .int (nI va)), (2, .int (nI vb))]) hx hb dX10_of_18 hl (by decide) rfl (fun ls hl => ?_)
    refine lv_iconst (v := 0) hx hb dX10_of_20 (by decide) ?_
    refine lv_istore (lv' := [(5, .int 0), (4, .ref (ad (100 + k1))), (3, .int (nI k1)), (0, .ref (A 2)), (1, .int (nI va)), (2, .int (nI vb))]) hx hb dX10_of_21 hl (by decide) rfl (fun ls hl => ?_)
    refine zz_wf (fun n stk H locs ls => ∃ k6 : Nat, n = 14 - k6 ∧ 0 ≤ k6 ∧ k6 < 14 ∧ k6 ≤ sv_len.getD k1 0 ∧ va + k6 ≤ vb ∧ (∀ j, j < k6 → B (va + j) = kwB k1 j) ∧ va_P (dC, dI) vwCl (xw A C nb st sl so) H ∧ va_S (XA A s.heap.size) s.heap H locs ∧ lv_has ls 6 [(5, .int (nI k6)), (4, .ref (ad (100 + k1))), (3, .int (nI k1)), (0, .ref (A 2)), (1, .int (nI va)), (2, .int (nI vb))] ∧ stk = []) ?_ (14 - 0) _ _ _ _ ⟨0, rfl, by omega, by omega, by omega, by omega, fun j hj => absurd hj (by omega), hP, hS, lv_sub hl [0, 1, 2, 3, 4, 5] rfl, rfl⟩
    rintro nn stk H locs ls ⟨k6, hm11, hv7_0, hv8_1, hv9_0, hv10_1, hv11_2, hP, hS, hl, rfl⟩ ih12
    refine lv_iload hx hb dX10_of_23 (lv_at hl 0 rfl) ?_
    refine lv_aload hx hb dX10_of_25 (lv_at hl 1 rfl) ?_
    refine va_calli (va_runV (As := []) (rest := [.int (nI k6)]) ⟨hx, hb, hml, hown, hts⟩ (x_J0_length_8abf5 l dC dI ad E hEE A C nb _ hN st sl so k1 (by omega) hG.1 ) (cwV 0 hts gX10_of_J0_length_8abf5 rfl rfl rfl (by decide +kernel) ⟨Nat.le_of_ble_eq_true rfl, Nat.le_of_ble_eq_true rfl⟩) ⟨fun a U g mk q => ⟨q.1, xPre.blind hEE q.2⟩, SV.recv hEv.sv hS (i := k1) (by omega), fun U hU hW => ⟨rfl, xPre.of hEE hP hK hE hS hU hW⟩⟩ rfl rfl hl.1 rfl (lv_room (Nat.le_of_ble_eq_true rfl)) dX10_of_27 ⟨Nat.le_of_ble_eq_true rfl, Nat.le_of_ble_eq_true rfl⟩) hS (fun q _ h => XA.le hS.1 q h) (XA.le hS.1) (fun r13 x t H locs ht hvm hw hB9 _ _ hS => ?_)
    have hP := xB.at ht hB9
    clear hB9 ht hvm
    obtain ⟨rfl, hw⟩ := hw
    have hP : va_P (dC, dI) vwCl (xw A C nb st sl so) _ := hP
    obtain ⟨n14, rfl, hf15, hf16⟩ := hw
    have h24 : k6 < n14 → k1 < 24 := fun h => sv_i24 k1 (by omega) (by omega)
    refine lv_icmp_ge (tgt := 63) hx hb dX10_of_30 (by decide) (fun c2 => ?_) (fun c2 => ?_)
    · have c2 : n14 ≤ k6 := (nI_leI (a := n14) (b := k6) (by omega) (by omega)).mp c2
      refine lv_iload hx hb dX10_of_63 (lv_at hl 0 rfl) ?_
      refine lv_iload_n hx hb dX10_of_65 rfl (lv_at hl 5 rfl) ?_
      refine lv_iload_n hx hb dX10_of_66 rfl (lv_at hl 4 rfl) ?_
      refine lv_isub hx hb dX10_of_67 ?_
      refine zz_top (v := nI (vb - va)) (nI_subN (a := vb) (b := va) (by omega) (by omega)) ?_
      refine lv_icmp_ne (tgt := 87) hx hb dX10_of_68 (by decide) (fun c3 => ?_) (fun c3 => ?_)
      · have c3 : ¬ k6 = (vb - va) := fun hh => c3 ((nI_eq (a := k6) (b := (vb - va)) (by omega) (by omega)).mpr hh)
        have hne : k1 < 24 → ¬ cd5 B va (vb - va) = kw5 k1 := fun h24 hz => by
          obtain ⟨h8, h9⟩ := cd_kw h24 (cnL_all _ hall) hz
          have h10 := sv_kwL k1 h24
          have h11 := h9 k6
          omega
        refine lv_iinc (v := (nI (k1 + 1))) (lv' := [(3, .int (nI (k1 + 1))), (5, .int (nI k6)), (4, .ref (ad (100 + k1))), (0, .ref (A 2)), (1, .int (nI va)), (2, .int (nI vb))]) hx hb dX10_of_87 hl (k := 2) rfl (nI_add k1 1) (by decide) rfl (fun ls hl => ?_)
        refine lv_goto (tgt := 2) hx hb dX10_of_90 (by decide) ?_
        have hns := hv4_0
        exact ih5 (27 - (k1 + 1)) _ _ _ _ (by omega) ⟨(k1 + 1), rfl, by omega, by omega, fun k hk h24 => if h9 : k = k1 then (by rw [h9]; exact hne (by omega)) else hns k (by omega) h24, hP, hS, lv_sub hl [0, 3, 4, 5] rfl, rfl⟩
      · have c3 : k6 = (vb - va) := (nI_eq (a := k6) (b := (vb - va)) (by omega) (by omega)).mp c3
        refine lv_iload hx hb dX10_of_71 (lv_at hl 0 rfl) ?_
        refine lv_aload hx hb dX10_of_73 (lv_at hl 1 rfl) ?_
        refine va_calli (va_runV (As := []) (rest := [.int (nI k6)]) ⟨hx, hb, hml, hown, hts⟩ (x_J0_length_8abf5 l dC dI ad E hEE A C nb _ hN st sl so k1 (by omega) hG.1 ) (cwV 0 hts gX10_of_J0_length_8abf5 rfl rfl rfl (by decide +kernel) ⟨Nat.le_of_ble_eq_true rfl, Nat.le_of_ble_eq_true rfl⟩) ⟨fun a U g mk q => ⟨q.1, xPre.blind hEE q.2⟩, SV.recv hEv.sv hS (i := k1) (by omega), fun U hU hW => ⟨rfl, xPre.of hEE hP hK hE hS hU hW⟩⟩ rfl rfl hl.1 rfl (lv_room (Nat.le_of_ble_eq_true rfl)) dX10_of_75 ⟨Nat.le_of_ble_eq_true rfl, Nat.le_of_ble_eq_true rfl⟩) hS (fun q _ h => XA.le hS.1 q h) (XA.le hS.1) (fun r17 x t H locs ht hvm hw hB9 _ _ hS => ?_)
        have hP := xB.at ht hB9
        clear hB9 ht hvm
        obtain ⟨rfl, hw⟩ := hw
        have hP : va_P (dC, dI) vwCl (xw A C nb st sl so) _ := hP
        obtain ⟨n18, rfl, hf19, hf20⟩ := hw
        refine lv_icmp_ne (tgt := 87) hx hb dX10_of_78 (by decide) (fun c4 => ?_) (fun c4 => ?_)
        · have c4 : ¬ k6 = n18 := fun hh => c4 ((nI_eq (a := k6) (b := n18) (by omega) (by omega)).mpr hh)
          have hne : k1 < 24 → ¬ cd5 B va (vb - va) = kw5 k1 := fun h24 hz => by
            obtain ⟨h8, h9⟩ := cd_kw h24 (cnL_all _ hall) hz
            have h10 := sv_kwL k1 h24
            have h11 := h9 k6
            omega
          refine lv_iinc (v := (nI (k1 + 1))) (lv' := [(3, .int (nI (k1 + 1))), (5, .int (nI k6)), (4, .ref (ad (100 + k1))), (0, .ref (A 2)), (1, .int (nI va)), (2, .int (nI vb))]) hx hb dX10_of_87 hl (k := 2) rfl (nI_add k1 1) (by decide) rfl (fun ls hl => ?_)
          refine lv_goto (tgt := 2) hx hb dX10_of_90 (by decide) ?_
          have hns := hv4_0
          exact ih5 (27 - (k1 + 1)) _ _ _ _ (by omega) ⟨(k1 + 1), rfl, by omega, by omega, fun k hk h24 => if h9 : k = k1 then (by rw [h9]; exact hne (by omega)) else hns k (by omega) h24, hP, hS, lv_sub hl [0, 3, 4, 5] rfl, rfl⟩
        · have c4 : k6 = n18 := (nI_eq (a := k6) (b := n18) (by omega) (by omega)).mp c4
          refine va_gets (v := .ref (ad 300)) hx hb (hEv.sv.1.1) hS hown (hts _ mm_X10_of_1) (fun _ hh => hh) dX10_of_81 ?_
          refine lv_iload_n hx hb dX10_of_84 rfl (lv_at hl 2 rfl) ?_
          refine vb_tq (v := .ref (ad k1)) hx hb hEv.sv.1.2.1 hS (i := (nI k1)) (vp_in_nI (by omega) (by decide)) (by show Value.ref (ad (nI k1).toNatClampNeg) = _; rw [nI_clamp (by omega)]) dX10_of_85 ?_
          have h24 : k1 < 24 := sv_i24 k1 (by omega) (by omega)
          have h10 := sv_kwL k1 h24
          exact W.aret (v := .ref (ad k1)) hx hb hr (Or.inl ⟨_, rfl⟩) (Or.inr ⟨_, rfl⟩) (fun t ht hW => ⟨⟨(st, sl, so), (ad k1), rfl, trivial, ⟨rfl, ⟨k1, rfl, (kwi_y 24 _ k1 h24 (by omega) (kw_cd h24 (by omega) (fun j hj => hv11_2 j (by omega))) (by omega)).symm, by omega⟩⟩, xB.of ht hP⟩, hS.F ht⟩) hS.2.2 dX10_of_86
    · have c2 : ¬ n14 ≤ k6 := fun hh => c2 ((nI_leI (a := n14) (b := k6) (by omega) (by omega)).mpr hh)
      refine lv_iload_n hx hb dX10_of_33 rfl (lv_at hl 4 rfl) ?_
      refine lv_iload hx hb dX10_of_34 (lv_at hl 0 rfl) ?_
      refine lv_iadd hx hb dX10_of_36 ?_
      refine zz_top (v := nI (va + k6)) (nI_add va k6) ?_
      refine lv_iload_n hx hb dX10_of_37 rfl (lv_at hl 5 rfl) ?_
      refine lv_icmp_ge (tgt := 63) hx hb dX10_of_38 (by decide) (fun c5 => ?_) (fun c5 => ?_)
      · have c5 : vb ≤ (va + k6) := (nI_leI (a := vb) (b := (va + k6)) (by omega) (by omega)).mp c5
        refine lv_iload hx hb dX10_of_63 (lv_at hl 0 rfl) ?_
        refine lv_iload_n hx hb dX10_of_65 rfl (lv_at hl 5 rfl) ?_
        refine lv_iload_n hx hb dX10_of_66 rfl (lv_at hl 4 rfl) ?_
        refine lv_isub hx hb dX10_of_67 ?_
        refine zz_top (v := nI (vb - va)) (nI_subN (a := vb) (b := va) (by omega) (by omega)) ?_
        refine lv_icmp_ne (tgt := 87) hx hb dX10_of_68 (by decide) (fun c6 => ?_) (fun c6 => ?_)
        · have c6 : ¬ k6 = (vb - va) := fun hh => c6 ((nI_eq (a := k6) (b := (vb - va)) (by omega) (by omega)).mpr hh)
          have hne : k1 < 24 → ¬ cd5 B va (vb - va) = kw5 k1 := fun h24 hz => by
            obtain ⟨h8, h9⟩ := cd_kw h24 (cnL_all _ hall) hz
            have h10 := sv_kwL k1 h24
            have h11 := h9 k6
            omega
          refine lv_iinc (v := (nI (k1 + 1))) (lv' := [(3, .int (nI (k1 + 1))), (5, .int (nI k6)), (4, .ref (ad (100 + k1))), (0, .ref (A 2)), (1, .int (nI va)), (2, .int (nI vb))]) hx hb dX10_of_87 hl (k := 2) rfl (nI_add k1 1) (by decide) rfl (fun ls hl => ?_)
          refine lv_goto (tgt := 2) hx hb dX10_of_90 (by decide) ?_
          have hns := hv4_0
          exact ih5 (27 - (k1 + 1)) _ _ _ _ (by omega) ⟨(k1 + 1), rfl, by omega, by omega, fun k hk h24 => if h9 : k = k1 then (by rw [h9]; exact hne (by omega)) else hns k (by omega) h24, hP, hS, lv_sub hl [0, 3, 4, 5] rfl, rfl⟩
        · have c6 : k6 = (vb - va) := (nI_eq (a := k6) (b := (vb - va)) (by omega) (by omega)).mp c6
          refine lv_iload hx hb dX10_of_71 (lv_at hl 0 rfl) ?_
          refine lv_aload hx hb dX10_of_73 (lv_at hl 1 rfl) ?_
          refine va_calli (va_runV (As := []) (rest := [.int (nI k6)]) ⟨hx, hb, hml, hown, hts⟩ (x_J0_length_8abf5 l dC dI ad E hEE A C nb _ hN st sl so k1 (by omega) hG.1 ) (cwV 0 hts gX10_of_J0_length_8abf5 rfl rfl rfl (by decide +kernel) ⟨Nat.le_of_ble_eq_true rfl, Nat.le_of_ble_eq_true rfl⟩) ⟨fun a U g mk q => ⟨q.1, xPre.blind hEE q.2⟩, SV.recv hEv.sv hS (i := k1) (by omega), fun U hU hW => ⟨rfl, xPre.of hEE hP hK hE hS hU hW⟩⟩ rfl rfl hl.1 rfl (lv_room (Nat.le_of_ble_eq_true rfl)) dX10_of_75 ⟨Nat.le_of_ble_eq_true rfl, Nat.le_of_ble_eq_true rfl⟩) hS (fun q _ h => XA.le hS.1 q h) (XA.le hS.1) (fun r21 x t H locs ht hvm hw hB9 _ _ hS => ?_)
          have hP := xB.at ht hB9
          clear hB9 ht hvm
          obtain ⟨rfl, hw⟩ := hw
          have hP : va_P (dC, dI) vwCl (xw A C nb st sl so) _ := hP
          obtain ⟨n22, rfl, hf23, hf24⟩ := hw
          refine lv_icmp_ne (tgt := 87) hx hb dX10_of_78 (by decide) (fun c7 => ?_) (fun c7 => ?_)
          · have c7 : ¬ k6 = n22 := fun hh => c7 ((nI_eq (a := k6) (b := n22) (by omega) (by omega)).mpr hh)
            have hne : k1 < 24 → ¬ cd5 B va (vb - va) = kw5 k1 := fun h24 hz => by
              obtain ⟨h8, h9⟩ := cd_kw h24 (cnL_all _ hall) hz
              have h10 := sv_kwL k1 h24
              have h11 := h9 k6
              omega
            refine lv_iinc (v := (nI (k1 + 1))) (lv' := [(3, .int (nI (k1 + 1))), (5, .int (nI k6)), (4, .ref (ad (100 + k1))), (0, .ref (A 2)), (1, .int (nI va)), (2, .int (nI vb))]) hx hb dX10_of_87 hl (k := 2) rfl (nI_add k1 1) (by decide) rfl (fun ls hl => ?_)
            refine lv_goto (tgt := 2) hx hb dX10_of_90 (by decide) ?_
            have hns := hv4_0
            exact ih5 (27 - (k1 + 1)) _ _ _ _ (by omega) ⟨(k1 + 1), rfl, by omega, by omega, fun k hk h24 => if h9 : k = k1 then (by rw [h9]; exact hne (by omega)) else hns k (by omega) h24, hP, hS, lv_sub hl [0, 3, 4, 5] rfl, rfl⟩
          · have c7 : k6 = n22 := (nI_eq (a := k6) (b := n22) (by omega) (by omega)).mp c7
            refine va_gets (v := .ref (ad 300)) hx hb (hEv.sv.1.1) hS hown (hts _ mm_X10_of_1) (fun _ hh => hh) dX10_of_81 ?_
            refine lv_iload_n hx hb dX10_of_84 rfl (lv_at hl 2 rfl) ?_
            refine vb_tq (v := .ref (ad k1)) hx hb hEv.sv.1.2.1 hS (i := (nI k1)) (vp_in_nI (by omega) (by decide)) (by show Value.ref (ad (nI k1).toNatClampNeg) = _; rw [nI_clamp (by omega)]) dX10_of_85 ?_
            have h24 : k1 < 24 := sv_i24 k1 (by omega) (by omega)
            have h10 := sv_kwL k1 h24
            exact W.aret (v := .ref (ad k1)) hx hb hr (Or.inl ⟨_, rfl⟩) (Or.inr ⟨_, rfl⟩) (fun t ht hW => ⟨⟨(st, sl, so), (ad k1), rfl, trivial, ⟨rfl, ⟨k1, rfl, (kwi_y 24 _ k1 h24 (by omega) (kw_cd h24 (by omega) (fun j hj => hv11_2 j (by omega))) (by omega)).symm, by omega⟩⟩, xB.of ht hP⟩, hS.F ht⟩) hS.2.2 dX10_of_86
      · have c5 : ¬ vb ≤ (va + k6) := fun hh => c5 ((nI_leI (a := vb) (b := (va + k6)) (by omega) (by omega)).mpr hh)
        refine lv_aload hx hb dX10_of_41 (lv_at hl 1 rfl) ?_
        refine lv_iload hx hb dX10_of_43 (lv_at hl 0 rfl) ?_
        refine va_calli (va_runV (As := [.int (nI k6)]) (rest := []) ⟨hx, hb, hml, hown, hts⟩ (y_J0_charAt_5068e l dC dI ad E hEE A C nb _ hN st sl so k1 k6 (by omega) (by omega) hG.1 (by omega) (by omega)) (cwV 1 hts gX10_of_J0_charAt_5068e rfl rfl rfl (by decide +kernel) ⟨Nat.le_of_ble_eq_true rfl, Nat.le_of_ble_eq_true rfl⟩) ⟨fun a U g mk q => ⟨q.1, xPre.blind hEE q.2⟩, SV.recv hEv.sv hS (i := k1) (by omega), fun U hU hW => ⟨rfl, xPre.of hEE hP hK hE hS hU hW⟩⟩ rfl rfl hl.1 rfl (lv_room (Nat.le_of_ble_eq_true rfl)) dX10_of_45 ⟨Nat.le_of_ble_eq_true rfl, Nat.le_of_ble_eq_true rfl⟩) hS (fun q _ h => XA.le hS.1 q h) (XA.le hS.1) (fun r25 x t H locs ht hvm hw hB9 _ _ hS => ?_)
        have hP := xB.at ht hB9
        clear hB9 ht hvm
        obtain ⟨rfl, hw⟩ := hw
        have hP : va_P (dC, dI) vwCl (xw A C nb st sl so) _ := hP
        obtain rfl := hw
        have hk128 := (zz_chr0 k1 (by omega) k6 (by omega) (by omega)).2
        refine lv_aload_n hx hb dX10_of_48 rfl (lv_at hl 3 rfl) ?_
        refine lv_iload_n hx hb dX10_of_49 rfl (lv_at hl 4 rfl) ?_
        refine lv_iload hx hb dX10_of_50 (lv_at hl 0 rfl) ?_
        refine lv_iadd hx hb dX10_of_52 ?_
        refine zz_top (v := nI (va + k6)) (nI_add va k6) ?_
        refine va_bald hx hb hK hP 2 2 (xw_is (r := 2) (by omega) (xc_fix (r := 2) (by omega))) (xt_is (r := 2) (by omega) rfl) (i := (nI (va + k6))) (vp_in_nI (by omega) (by decide)) dX10_of_53 ?_
        refine zz_top (v := sbt (B (va + k6))) (by rw [nI_clamp (by omega)]; exact ((CBt.fr hB hF).2.2.2.2 (va + k6) (by omega)).1) ?_
        have hq26 := (hB.2.2.2.2 (va + k6) (by omega)).2
        refine lv_icmp_ne (tgt := 63) hx hb dX10_of_54 (by decide) (fun c8 => ?_) (fun c8 => ?_)
        · have c8 : ¬ B (va + k6) = kwB k1 k6 := fun hh => c8 ((sbt_eq (b := B (va + k6)) (c := kwB k1 k6) (by omega) (by omega)).mpr hh)
          refine lv_iload hx hb dX10_of_63 (lv_at hl 0 rfl) ?_
          refine lv_iload_n hx hb dX10_of_65 rfl (lv_at hl 5 rfl) ?_
          refine lv_iload_n hx hb dX10_of_66 rfl (lv_at hl 4 rfl) ?_
          refine lv_isub hx hb dX10_of_67 ?_
          refine zz_top (v := nI (vb - va)) (nI_subN (a := vb) (b := va) (by omega) (by omega)) ?_
          refine lv_icmp_ne (tgt := 87) hx hb dX10_of_68 (by decide) (fun c9 => ?_) (fun c9 => ?_)
          · have c9 : ¬ k6 = (vb - va) := fun hh => c9 ((nI_eq (a := k6) (b := (vb - va)) (by omega) (by omega)).mpr hh)
            have hne : k1 < 24 → ¬ cd5 B va (vb - va) = kw5 k1 := fun h24 hz => by
              obtain ⟨h8, h9⟩ := cd_kw h24 (cnL_all _ hall) hz
              have h10 := sv_kwL k1 h24
              have h11 := h9 k6
              omega
            refine lv_iinc (v := (nI (k1 + 1))) (lv' := [(3, .int (nI (k1 + 1))), (5, .int (nI k6)), (4, .ref (ad (100 + k1))), (0, .ref (A 2)), (1, .int (nI va)), (2, .int (nI vb))]) hx hb dX10_of_87 hl (k := 2) rfl (nI_add k1 1) (by decide) rfl (fun ls hl => ?_)
            refine lv_goto (tgt := 2) hx hb dX10_of_90 (by decide) ?_
            have hns := hv4_0
            exact ih5 (27 - (k1 + 1)) _ _ _ _ (by omega) ⟨(k1 + 1), rfl, by omega, by omega, fun k hk h24 => if h9 : k = k1 then (by rw [h9]; exact hne (by omega)) else hns k (by omega) h24, hP, hS, lv_sub hl [0, 3, 4, 5] rfl, rfl⟩
          · have c9 : k6 = (vb - va) := (nI_eq (a := k6) (b := (vb - va)) (by omega) (by omega)).mp c9
            refine lv_iload hx hb dX10_of_71 (lv_at hl 0 rfl) ?_
            refine lv_aload hx hb dX10_of_73 (lv_at hl 1 rfl) ?_
            refine va_calli (va_runV (As := []) (rest := [.int (nI k6)]) ⟨hx, hb, hml, hown, hts⟩ (x_J0_length_8abf5 l dC dI ad E hEE A C nb _ hN st sl so k1 (by omega) hG.1 ) (cwV 0 hts gX10_of_J0_length_8abf5 rfl rfl rfl (by decide +kernel) ⟨Nat.le_of_ble_eq_true rfl, Nat.le_of_ble_eq_true rfl⟩) ⟨fun a U g mk q => ⟨q.1, xPre.blind hEE q.2⟩, SV.recv hEv.sv hS (i := k1) (by omega), fun U hU hW => ⟨rfl, xPre.of hEE hP hK hE hS hU hW⟩⟩ rfl rfl hl.1 rfl (lv_room (Nat.le_of_ble_eq_true rfl)) dX10_of_75 ⟨Nat.le_of_ble_eq_true rfl, Nat.le_of_ble_eq_true rfl⟩) hS (fun q _ h => XA.le hS.1 q h) (XA.le hS.1) (fun r27 x t H locs ht hvm hw hB9 _ _ hS => ?_)
            have hP := xB.at ht hB9
            clear hB9 ht hvm
            obtain ⟨rfl, hw⟩ := hw
            have hP : va_P (dC, dI) vwCl (xw A C nb st sl so) _ := hP
            obtain ⟨n28, rfl, hf29, hf30⟩ := hw
            refine lv_icmp_ne (tgt := 87) hx hb dX10_of_78 (by decide) (fun c10 => ?_) (fun c10 => ?_)
            · have c10 : ¬ k6 = n28 := fun hh => c10 ((nI_eq (a := k6) (b := n28) (by omega) (by omega)).mpr hh)
              have hne : k1 < 24 → ¬ cd5 B va (vb - va) = kw5 k1 := fun h24 hz => by
                obtain ⟨h8, h9⟩ := cd_kw h24 (cnL_all _ hall) hz
                have h10 := sv_kwL k1 h24
                have h11 := h9 k6
                omega
              refine lv_iinc (v := (nI (k1 + 1))) (lv' := [(3, .int (nI (k1 + 1))), (5, .int (nI k6)), (4, .ref (ad (100 + k1))), (0, .ref (A 2)), (1, .int (nI va)), (2, .int (nI vb))]) hx hb dX10_of_87 hl (k := 2) rfl (nI_add k1 1) (by decide) rfl (fun ls hl => ?_)
              refine lv_goto (tgt := 2) hx hb dX10_of_90 (by decide) ?_
              have hns := hv4_0
              exact ih5 (27 - (k1 + 1)) _ _ _ _ (by omega) ⟨(k1 + 1), rfl, by omega, by omega, fun k hk h24 => if h9 : k = k1 then (by rw [h9]; exact hne (by omega)) else hns k (by omega) h24, hP, hS, lv_sub hl [0, 3, 4, 5] rfl, rfl⟩
            · have c10 : k6 = n28 := (nI_eq (a := k6) (b := n28) (by omega) (by omega)).mp c10
              refine va_gets (v := .ref (ad 300)) hx hb (hEv.sv.1.1) hS hown (hts _ mm_X10_of_1) (fun _ hh => hh) dX10_of_81 ?_
              refine lv_iload_n hx hb dX10_of_84 rfl (lv_at hl 2 rfl) ?_
              refine vb_tq (v := .ref (ad k1)) hx hb hEv.sv.1.2.1 hS (i := (nI k1)) (vp_in_nI (by omega) (by decide)) (by show Value.ref (ad (nI k1).toNatClampNeg) = _; rw [nI_clamp (by omega)]) dX10_of_85 ?_
              have h24 : k1 < 24 := sv_i24 k1 (by omega) (by omega)
              have h10 := sv_kwL k1 h24
              exact W.aret (v := .ref (ad k1)) hx hb hr (Or.inl ⟨_, rfl⟩) (Or.inr ⟨_, rfl⟩) (fun t ht hW => ⟨⟨(st, sl, so), (ad k1), rfl, trivial, ⟨rfl, ⟨k1, rfl, (kwi_y 24 _ k1 h24 (by omega) (kw_cd h24 (by omega) (fun j hj => hv11_2 j (by omega))) (by omega)).symm, by omega⟩⟩, xB.of ht hP⟩, hS.F ht⟩) hS.2.2 dX10_of_86
        · have c8 : B (va + k6) = kwB k1 k6 := (sbt_eq (b := B (va + k6)) (c := kwB k1 k6) (by omega) (by omega)).mp c8
          refine lv_iinc (v := (nI (k6 + 1))) (lv' := [(5, .int (nI (k6 + 1))), (4, .ref (ad (100 + k1))), (3, .int (nI k1)), (0, .ref (A 2)), (1, .int (nI va)), (2, .int (nI vb))]) hx hb dX10_of_57 hl (k := 0) rfl (nI_add k6 1) (by decide) rfl (fun ls hl => ?_)
          refine lv_goto (tgt := 23) hx hb dX10_of_60 (by decide) ?_
          exact ih12 (14 - (k6 + 1)) _ _ _ _ (by omega) ⟨(k6 + 1), rfl, by omega, by omega, by omega, by omega, fun j hj => if h9 : j = k6 then (by rw [h9]; exact c8) else hv11_2 j (by omega), hP, hS, lv_sub hl [0, 1, 2, 3, 4, 5] rfl, rfl⟩
set_option maxHeartbeats 4000000 in
set_option maxRecDepth 100000 in
theorem y_X8_step (l : Launch) (dC : Nat → ClassId) (dI : Nat → Nat → Nat) (ad : Nat → Nat) (E : EP) (hEE : EC ad E) (A : Nat → Nat) (C : Nat → ClassId) (nb sz : Nat) (hN : XN A) (st : Nat → Nat → Int32) (sl : Nat → Nat → Int64) (so : Nat → XR) (B : Nat → Nat) (g m : Nat) (p : Nat) (hI : XI st) (hOI : OI ad so) (hB : CBt B g m st) (hp : st 1 3 = nI p) (hpg : p ≤ g) : Met l yX8_step wsX8_step ({ frames := 5, cells := 0, slots := 0, locals := 110 }) (va_Pc [.ref (A 1)] (xPre E dC dI A C nb sz st sl so)) (va_Qv (fun (x : XT) => XG [1, 2, 3, 4, 5, 6, 7, 8, 9, 10, 11, 12, 13, 14, 15] st x.1 ∧ OG ad [2, 3, 4] so x.2.2 ∧ FX 1 st sl so x.1 x.2.1 x.2.2 ∧ (TC B g m p ad x.1 x.2.1 x.2.2)) (xB dC dI A C nb) (XA A sz)) 0 0 (XA A sz) := by
  refine Met.ofW (cc := cX8_step) (maxL := 1) (ret := none) (by decide) rfl ?_
  intro p9 e s m9 args below meth c9 s₁ B9 hml hv
  obtain ⟨rfl, hsz, hP, hK, hE⟩ := hv
  have hx := B9.exec
  have hb := B9.bytes
  have hr := B9.returns
  have hts := atoms_spec (ws := wsX8_step) B9.pre
  have hown : s.vm.findClass RX8 = some m9.cls := findClass_of_methodNamed B9.named
  subst hsz
  have hEv := hEE.1 _ _ _ hE
  have hS : va_S (XA A s.heap.size) s.heap s.heap [] := va_S.rf
  have hG : XG [1, 2, 3, 4, 5, 6, 7, 8, 9, 10, 11, 12, 13, 14, 15] st st := XG.rf hI
  have hO : OG ad [2, 3, 4] so so := OG.rf hOI
  have hl := lv_entry ([.ref (A 1)]) (n := 1) (Nat.le_of_ble_eq_true rfl)
  rw [lg_entry_eq]
  generalize (lg_sl ([.ref (A 1)]) ++ List.replicate (1 - (lg_sl ([.ref (A 1)])).length) Slot.unset).toArray = ls at hl ⊢
  have hl : lv_has ls 1 [(0, .ref (A 1))] := hl
  have hB1 := hB.2.2.1
  have hB2 := hB.2.2.2.1
  have hF : FX 1 st sl so st sl so := FX.rf
  refine lv_aload_n hx hb dX8_step_0 rfl (lv_at hl 0 rfl) ?_
  refine va_gets (v := .ref (ad 25)) hx hb (EV.word hEv (i := 25) (by decide)) hS hown (hts _ mm_X8_step_1) (fun _ hh => hh) dX8_step_1 ?_
  refine va_put (D := (dC, dI)) (ci := 9) (v := .ref (ad 25)) (ty := .object "OffTheLead$Word") (C := RX8) (T := TX8) (N := 15) hx hb hts ii_X8_step_X8 tyX8 tyX8_ok nmX8 hown hK hP (xD hN _ _ _ _ _ _) hS 1 (xw_is (r := 1) (by omega) (xc_fix (r := 1) (by omega))) rfl 7 (by decide) (hts _ mm_X8_step_2) (fun _ hh => hh) rfl (by decide +kernel) rfl rfl (Nat.le_of_ble_eq_true rfl) dX8_step_4 (fun H locs hP _ hS => ?_)
  have hP : va_P (dC, dI) vwCl (xw A C nb st sl (upO so 1 7 (some (ad 25)))) H := by rw [← xsetO (r := 1) (k := 7) (v := (some (ad 25))) (xc_fix (r := 1) (by omega))]; exact hP
  obtain ⟨so1, eso1⟩ : ∃ y, y = upO so 1 7 (some (ad 25)) := ⟨_, rfl⟩
  have hO : OG ad [2, 3, 4] so so1 := by rw [eso1]; exact hO.up (isW.of (by omega)) (fun _ _ => ⟨_, by omega, rfl⟩) (by decide)
  rw [← eso1] at hP
  have hF : FX 1 st sl so st sl so1 := by rw [eso1]; exact hF.upO (by decide)
  refine zz_wf (fun n stk H locs ls => ∃ st2 : Nat → Nat → Int32, ∃ sl3 : Nat → Nat → Int64, ∃ so4 : Nat → XR, ∃ u5 : Nat, n = 941 - u5 ∧ u5 < 941 ∧ st2 1 3 = nI u5 ∧ u5 ≤ g ∧ skp B g (941 - u5) u5 = tkq B g p ∧ so4 1 7 = some (ad 25) ∧ FX 1 st sl so st2 sl3 so4 ∧ va_P (dC, dI) vwCl (xw A C nb st2 sl3 so4) H ∧ XG [1, 2, 3, 4, 5, 6, 7, 8, 9, 10, 11, 12, 13, 14, 15] st st2 ∧ OG ad [2, 3, 4] so so4 ∧ va_S (XA A s.heap.size) s.heap H locs ∧ lv_has ls 1 [(0, .ref (A 1))] ∧ stk = []) ?_ (941 - p) _ _ _ _ ⟨st, sl, so1, p, rfl, by omega, by rw [hp], hpg, rfl, by rw [eso1, upO_same], hF, hP, hG, hO, hS, lv_sub hl [0] rfl, rfl⟩
  rintro nn stk H locs ls ⟨st2, sl3, so4, u5, hm10, hv6_0, eu5, hv7_0, hv8_1, hv9_2, hv10_3, hP, hG, hO, hS, hl, rfl⟩ ih11
  have hF := hv10_3
  refine lv_aload_n hx hb dX8_step_7 rfl (lv_at hl 0 rfl) ?_
  refine va_get (D := (dC, dI)) (ci := 9) (v := .int (st2 1 3)) (C := RX8) (T := TX8) (N := 15) hx hb hts ii_X8_step_X8 hown hK hP 1 (xw_is (r := 1) (by omega) (xc_fix (r := 1) (by omega))) rfl 3 (by decide) (hts _ mm_X8_step_3) (fun _ hh => hh) rfl dX8_step_8 ?_
  refine zz_top (v := (nI u5)) (by show st2 1 3 = _; rw [eu5]) ?_
  refine lv_aload_n hx hb dX8_step_11 rfl (lv_at hl 0 rfl) ?_
  refine va_get (D := (dC, dI)) (ci := 9) (v := .int (st2 1 1)) (C := RX8) (T := TX8) (N := 15) hx hb hts ii_X8_step_X8 hown hK hP 1 (xw_is (r := 1) (by omega) (xc_fix (r := 1) (by omega))) rfl 1 (by decide) (hts _ mm_X8_step_4) (fun _ hh => hh) rfl dX8_step_12 ?_
  refine zz_top (v := (nI g)) (by show st2 1 1 = _; rw [(CBt.fr hB hF).1]) ?_
  refine zz_join (pcJ := 59) (fun stk H locs ls => st2 1 3 = nI (tkq B g p) ∧ va_P (dC, dI) vwCl (xw A C nb st2 sl3 so4) H ∧ va_S (XA A s.heap.size) s.heap H locs ∧ lv_has ls 1 [(0, .ref (A 1))] ∧ stk = []) ?_ (fun kj12 => ?_)
  · rintro stk H locs ls ⟨hv13_0, hP, hS, hl, rfl⟩
    have hq1 := tkq_le (B := B) (g := g) (p := p)
    have hq2 := hq1.2 hpg
    refine lv_aload_n hx hb dX8_step_59 rfl (lv_at hl 0 rfl) ?_
    refine lv_aload_n hx hb dX8_step_60 rfl (lv_at hl 0 rfl) ?_
    refine va_get (D := (dC, dI)) (ci := 9) (v := .int (st2 1 3)) (C := RX8) (T := TX8) (N := 15) hx hb hts ii_X8_step_X8 hown hK hP 1 (xw_is (r := 1) (by omega) (xc_fix (r := 1) (by omega))) rfl 3 (by decide) (hts _ mm_X8_step_3) (fun _ hh => hh) rfl dX8_step_61 ?_
    refine zz_top (v := (nI (tkq B g p))) (by show st2 1 3 = _; rw [hv13_0]) ?_
    refine va_put (D := (dC, dI)) (ci := 9) (v := .int (nI (tkq B g p))) (ty := .int) (C := RX8) (T := TX8) (N := 15) hx hb hts ii_X8_step_X8 tyX8 tyX8_ok nmX8 hown hK hP (xD hN _ _ _ _ _ _) hS 1 (xw_is (r := 1) (by omega) (xc_fix (r := 1) (by omega))) rfl 5 (by decide) (hts _ mm_X8_step_6) (fun _ hh => hh) rfl (by decide +kernel) rfl rfl (Nat.le_of_ble_eq_true rfl) dX8_step_64 (fun H locs hP _ hS => ?_)
    have hP : va_P (dC, dI) vwCl (xw A C nb (up2 st2 1 5 (nI (tkq B g p))) sl3 so4) H := by rw [← xset (r := 1) (k := 5) (v := (nI (tkq B g p))) (xc_fix (r := 1) (by omega))]; exact hP
    obtain ⟨st14, est14⟩ : ∃ y, y = up2 st2 1 5 (nI (tkq B g p)) := ⟨_, rfl⟩
    have hG : XG [1, 2, 3, 4, 5, 6, 7, 8, 9, 10, 11, 12, 13, 14, 15] st st14 := by rw [est14]; exact hG.up (xn (n := (tkq B g p)) (b := 941) (by decide : xrg 1 5 = 941) (by omega)) (xpn (c := 0) (by decide : xcl 1 5 = 0) (by decide))
    rw [← est14] at hP
    have hF : FX 1 st sl so st14 sl3 so4 := by rw [est14]; exact hF.up (by decide)
    refine lv_aload_n hx hb dX8_step_67 rfl (lv_at hl 0 rfl) ?_
    refine va_get (D := (dC, dI)) (ci := 9) (v := .int (st14 1 1)) (C := RX8) (T := TX8) (N := 15) hx hb hts ii_X8_step_X8 hown hK hP 1 (xw_is (r := 1) (by omega) (xc_fix (r := 1) (by omega))) rfl 1 (by decide) (hts _ mm_X8_step_4) (fun _ hh => hh) rfl dX8_step_68 ?_
    refine zz_top (v := (nI g)) (by show st14 1 1 = _; rw [(CBt.fr hB hF).1]) ?_
    refine lv_aload_n hx hb dX8_step_71 rfl (lv_at hl 0 rfl) ?_
    refine va_get (D := (dC, dI)) (ci := 9) (v := .int (st14 1 2)) (C := RX8) (T := TX8) (N := 15) hx hb hts ii_X8_step_X8 hown hK hP 1 (xw_is (r := 1) (by omega) (xc_fix (r := 1) (by omega))) rfl 2 (by decide) (hts _ mm_X8_step_7) (fun _ hh => hh) rfl dX8_step_72 ?_
    refine zz_top (v := (nI m)) (by show st14 1 2 = _; rw [(CBt.fr hB hF).2.1]) ?_
    refine zz_join (pcJ := 105) (fun stk H locs ls => ¬ (m < g ∧ m ≤ tkq B g p) ∧ va_P (dC, dI) vwCl (xw A C nb st14 sl3 so4) H ∧ va_S (XA A s.heap.size) s.heap H locs ∧ lv_has ls 1 [(0, .ref (A 1))] ∧ stk = []) ?_ (fun kj15 => ?_)
    · rintro stk H locs ls ⟨hv16_0, hP, hS, hl, rfl⟩
      refine lv_aload_n hx hb dX8_step_105 rfl (lv_at hl 0 rfl) ?_
      refine va_get (D := (dC, dI)) (ci := 9) (v := .int (st14 1 3)) (C := RX8) (T := TX8) (N := 15) hx hb hts ii_X8_step_X8 hown hK hP 1 (xw_is (r := 1) (by omega) (xc_fix (r := 1) (by omega))) rfl 3 (by decide) (hts _ mm_X8_step_3) (fun _ hh => hh) rfl dX8_step_106 ?_
      refine zz_top (v := (nI (tkq B g p))) (by show st14 1 3 = _; rw [est14, up2_ne (r := 1) (k := 5) (a := 1) (j := 3) _ _ (by omega), hv13_0]) ?_
      refine lv_aload_n hx hb dX8_step_109 rfl (lv_at hl 0 rfl) ?_
      refine va_get (D := (dC, dI)) (ci := 9) (v := .int (st14 1 1)) (C := RX8) (T := TX8) (N := 15) hx hb hts ii_X8_step_X8 hown hK hP 1 (xw_is (r := 1) (by omega) (xc_fix (r := 1) (by omega))) rfl 1 (by decide) (hts _ mm_X8_step_4) (fun _ hh => hh) rfl dX8_step_110 ?_
      refine zz_top (v := (nI g)) (by show st14 1 1 = _; rw [(CBt.fr hB hF).1]) ?_
      refine lv_icmp_lt (tgt := 124) hx hb dX8_step_113 (by decide) (fun c1 => ?_) (fun c1 => ?_)
      · have c1 : (tkq B g p) < g := (nI_ltI (a := (tkq B g p)) (b := g) (by omega) (by omega)).mp c1
        refine zz_join (pcJ := 154) (fun stk H locs ls => (qL (B (tkq B g p)) ∨ qD (B (tkq B g p))) ∧ va_P (dC, dI) vwCl (xw A C nb st14 sl3 so4) H ∧ va_S (XA A s.heap.size) s.heap H locs ∧ lv_has ls 1 [(0, .ref (A 1))] ∧ stk = []) ?_ (fun kj17 => ?_)
        · rintro stk H locs ls ⟨hv18_0, hP, hS, hl, rfl⟩
          refine lv_aload_n hx hb dX8_step_154 rfl (lv_at hl 0 rfl) ?_
          refine va_callv (va_runV (As := []) (rest := []) ⟨hx, hb, hml, hown, hts⟩ (y_X8_stepOverRun l dC dI ad E hEE A C nb _ hN st14 sl3 so4 B g m (tkq B g p) hG.1 hO.1 (CBt.fr hB hF) (by show st14 1 3 = _; rw [est14, up2_ne (r := 1) (k := 5) (a := 1) (j := 3) _ _ (by omega), hv13_0]) (by show st14 1 5 = _; rw [est14, up2_same]) (by omega)) (cwV 0 hts gX8_step_X8_stepOverRun rfl rfl rfl (by decide +kernel) ⟨Nat.le_of_ble_eq_true rfl, Nat.le_of_ble_eq_true rfl⟩) ⟨fun a U g mk q => ⟨q.1, xPre.blind hEE q.2⟩, va_recv hK hP (ci := 9) (q0 := 1) rfl (xw_is (r := 1) (by omega) (xc_fix (r := 1) (by omega))), fun U hU hW => ⟨rfl, xPre.of hEE hP hK hE hS hU hW⟩⟩ rfl rfl hl.1 rfl (lv_room (Nat.le_of_ble_eq_true rfl)) dX8_step_155 ⟨Nat.le_of_ble_eq_true rfl, Nat.le_of_ble_eq_true rfl⟩) hS (fun q _ h => XA.le hS.1 q h) (XA.le hS.1) (fun x t H locs ht hvm hw hB9 _ _ hS => ?_)
          have hP := xB.at ht hB9
          clear hB9 ht hvm
          obtain ⟨st20, sl21, so22⟩ := x
          obtain ⟨hGst20, hOst20, hFst20, hw⟩ := hw
          dsimp only at hGst20 hOst20 hFst20 hw
          have hO : OG ad [2, 3, 4] so so22 := hO.tr hOst20 (by decide)
          have hP : va_P (dC, dI) vwCl (xw A C nb st20 sl21 so22) _ := hP
          have hG : XG [1, 2, 3, 4, 5, 6, 7, 8, 9, 10, 11, 12, 13, 14, 15] st st20 := hG.tr hGst20 (by decide)
          have hF : FX 1 st sl so st20 sl21 so22 := hF.tr hFst20 (by omega) (by omega)
          obtain ⟨n23, hf24, hf25, hf26, hf27, hf28, hf29, hf30⟩ := hw
          refine lv_aload_n hx hb dX8_step_158 rfl (lv_at hl 0 rfl) ?_
          refine lv_aload_n hx hb dX8_step_159 rfl (lv_at hl 0 rfl) ?_
          refine va_get (D := (dC, dI)) (ci := 9) (v := .int (st20 1 4)) (C := RX8) (T := TX8) (N := 15) hx hb hts ii_X8_step_X8 hown hK hP 1 (xw_is (r := 1) (by omega) (xc_fix (r := 1) (by omega))) rfl 4 (by decide) (hts _ mm_X8_step_8) (fun _ hh => hh) rfl dX8_step_160 ?_
          refine zz_top (v := (nI n23)) (by show st20 1 4 = _; rw [hf26]) ?_
          refine lv_if_ne (tgt := 184) hx hb dX8_step_163 (by decide) (fun c2 => ?_) (fun c2 => ?_)
          · have c2 : ¬ n23 = 0 := fun hh => c2 ((nI_eq (a := n23) (b := 0) (by omega) (by omega)).mpr hh)
            refine va_gets (v := .ref (ad 25)) hx hb (EV.word hEv (i := 25) (by decide)) hS hown (hts _ mm_X8_step_1) (fun _ hh => hh) dX8_step_184 ?_
            refine va_put (D := (dC, dI)) (ci := 9) (v := .ref (ad 25)) (ty := .object "OffTheLead$Word") (C := RX8) (T := TX8) (N := 15) hx hb hts ii_X8_step_X8 tyX8 tyX8_ok nmX8 hown hK hP (xD hN _ _ _ _ _ _) hS 1 (xw_is (r := 1) (by omega) (xc_fix (r := 1) (by omega))) rfl 7 (by decide) (hts _ mm_X8_step_2) (fun _ hh => hh) rfl (by decide +kernel) rfl rfl (Nat.le_of_ble_eq_true rfl) dX8_step_187 (fun H locs hP _ hS => ?_)
            have hP : va_P (dC, dI) vwCl (xw A C nb st20 sl21 (upO so22 1 7 (some (ad 25)))) H := by rw [← xsetO (r := 1) (k := 7) (v := (some (ad 25))) (xc_fix (r := 1) (by omega))]; exact hP
            obtain ⟨so31, eso31⟩ : ∃ y, y = upO so22 1 7 (some (ad 25)) := ⟨_, rfl⟩
            have hO : OG ad [2, 3, 4] so so31 := by rw [eso31]; exact hO.up (isW.of (by omega)) (fun _ _ => ⟨_, by omega, rfl⟩) (by decide)
            rw [← eso31] at hP
            have hF : FX 1 st sl so st20 sl21 so31 := by rw [eso31]; exact hF.upO (by decide)
            refine lv_goto (tgt := 235) hx hb dX8_step_190 (by decide) ?_
            exact W.vret hx hb hr (fun t ht hW => ⟨⟨(st20, sl21, so31), rfl, ⟨hG, hO, hF, TC.run hpg hB1 hv16_0 (by omega) hv18_0 n23 hf27 hf24 hf25 hf26 (fun hh => hf28 hh) (fun hh => hf29 hh) (by show so31 1 7 = _; rw [eso31, upO_same, if_neg (by omega)])⟩, xB.of ht hP⟩, hS.F ht⟩) hS.2.2 dX8_step_235
          · have c2 : n23 = 0 := (nI_eq (a := n23) (b := 0) (by omega) (by omega)).mp c2
            have hte := (tke_le (B := B) (g := g) (p := p)).2 hpg
            unfold tke at hte
            refine lv_aload_n hx hb dX8_step_166 rfl (lv_at hl 0 rfl) ?_
            refine va_get (D := (dC, dI)) (ci := 9) (v := .ref (A 2)) (C := RX8) (T := TX8) (N := 15) hx hb hts ii_X8_step_X8 hown hK hP 1 (xw_is (r := 1) (by omega) (xc_fix (r := 1) (by omega))) rfl 0 (by decide) (hts _ mm_X8_step_5) (fun _ hh => hh) rfl dX8_step_167 ?_
            refine lv_aload_n hx hb dX8_step_170 rfl (lv_at hl 0 rfl) ?_
            refine va_get (D := (dC, dI)) (ci := 9) (v := .int (st20 1 5)) (C := RX8) (T := TX8) (N := 15) hx hb hts ii_X8_step_X8 hown hK hP 1 (xw_is (r := 1) (by omega) (xc_fix (r := 1) (by omega))) rfl 5 (by decide) (hts _ mm_X8_step_6) (fun _ hh => hh) rfl dX8_step_171 ?_
            refine zz_top (v := (nI (tkq B g p))) (by show st20 1 5 = _; rw [hf25]) ?_
            refine lv_aload_n hx hb dX8_step_174 rfl (lv_at hl 0 rfl) ?_
            refine va_get (D := (dC, dI)) (ci := 9) (v := .int (st20 1 3)) (C := RX8) (T := TX8) (N := 15) hx hb hts ii_X8_step_X8 hown hK hP 1 (xw_is (r := 1) (by omega) (xc_fix (r := 1) (by omega))) rfl 3 (by decide) (hts _ mm_X8_step_3) (fun _ hh => hh) rfl dX8_step_175 ?_
            refine zz_top (v := (nI (rne B g (941 - (tkq B g p)) (tkq B g p)))) (by show st20 1 3 = _; rw [hf24]) ?_
            refine va_callr (va_runS (As := [.ref (A 2), .int (nI (tkq B g p)), .int (nI (rne B g (941 - (tkq B g p)) (tkq B g p)))]) (rest := [.ref (A 1)]) ⟨hx, hb, hml, hown, hts⟩ (y_X10_of l dC dI ad E hEE A C nb _ hN st20 sl21 so22 (tkq B g p) (rne B g (941 - (tkq B g p)) (tkq B g p)) B g m (by omega) (by omega) hG.1 (CBt.fr hB hF) (by have h9 := tkn_pos (B := B) (g := g) (p := p) (by omega) hB1 (by omega) hv18_0; unfold tkn tke at h9; omega) (by have h9 := (tke_le (B := B) (g := g) (p := p)).2 hpg; unfold tke at h9; omega) (by have h9 := hf27; omega) (by have h9 := hf27; omega)) (va_cwS 3 hts gX8_step_X10_of rfl rfl rfl (by decide +kernel) ⟨Nat.le_of_ble_eq_true rfl, Nat.le_of_ble_eq_true rfl⟩) ⟨fun a U g mk q => ⟨q.1, xPre.blind hEE q.2⟩, fun U hU hW => ⟨rfl, xPre.of hEE hP hK hE hS hU hW⟩⟩ rfl rfl hl.1 rfl (lv_room (Nat.le_of_ble_eq_true rfl)) dX8_step_178 ⟨Nat.le_of_ble_eq_true rfl, Nat.le_of_ble_eq_true rfl⟩) hS (fun q _ h => XA.le hS.1 q h) (XA.le hS.1) (fun x r32 t H locs ht hvm hw hB9 _ _ hS => ?_)
            obtain ⟨hw, hB9⟩ := hB9
            have hP := xB.at ht hB9
            clear hB9 ht hvm
            obtain ⟨rfl, hw⟩ := hw
            have hP : va_P (dC, dI) vwCl (xw A C nb st20 sl21 so22) _ := hP
            obtain ⟨n33, rfl, hf34, hf35⟩ := hw
            refine lv_goto (tgt := 187) hx hb dX8_step_181 (by decide) ?_
            refine va_put (D := (dC, dI)) (ci := 9) (v := .ref (ad n33)) (ty := .object "OffTheLead$Word") (C := RX8) (T := TX8) (N := 15) hx hb hts ii_X8_step_X8 tyX8 tyX8_ok nmX8 hown hK hP (xD hN _ _ _ _ _ _) hS 1 (xw_is (r := 1) (by omega) (xc_fix (r := 1) (by omega))) rfl 7 (by decide) (hts _ mm_X8_step_2) (fun _ hh => hh) rfl (by decide +kernel) rfl rfl (Nat.le_of_ble_eq_true rfl) dX8_step_187 (fun H locs hP _ hS => ?_)
            have hP : va_P (dC, dI) vwCl (xw A C nb st20 sl21 (upO so22 1 7 (some (ad n33)))) H := by rw [← xsetO (r := 1) (k := 7) (v := (some (ad n33))) (xc_fix (r := 1) (by omega))]; exact hP
            obtain ⟨so36, eso36⟩ : ∃ y, y = upO so22 1 7 (some (ad n33)) := ⟨_, rfl⟩
            have hO : OG ad [2, 3, 4] so so36 := by rw [eso36]; exact hO.up (isW.of (by omega)) (fun _ _ => ⟨_, by omega, rfl⟩) (by decide)
            rw [← eso36] at hP
            have hF : FX 1 st sl so st20 sl21 so36 := by rw [eso36]; exact hF.upO (by decide)
            refine lv_goto (tgt := 235) hx hb dX8_step_190 (by decide) ?_
            exact W.vret hx hb hr (fun t ht hW => ⟨⟨(st20, sl21, so36), rfl, ⟨hG, hO, hF, TC.run hpg hB1 hv16_0 (by omega) hv18_0 n23 hf27 hf24 hf25 hf26 (fun hh => hf28 hh) (fun hh => hf29 hh) (by show so36 1 7 = _; rw [eso36, upO_same, if_pos (by omega), hf34]; rfl)⟩, xB.of ht hP⟩, hS.F ht⟩) hS.2.2 dX8_step_235
        refine lv_aload_n hx hb dX8_step_124 rfl (lv_at hl 0 rfl) ?_
        refine va_get (D := (dC, dI)) (ci := 9) (v := .ref (A 2)) (C := RX8) (T := TX8) (N := 15) hx hb hts ii_X8_step_X8 hown hK hP 1 (xw_is (r := 1) (by omega) (xc_fix (r := 1) (by omega))) rfl 0 (by decide) (hts _ mm_X8_step_5) (fun _ hh => hh) rfl dX8_step_125 ?_
        refine lv_aload_n hx hb dX8_step_128 rfl (lv_at hl 0 rfl) ?_
        refine va_get (D := (dC, dI)) (ci := 9) (v := .int (st14 1 3)) (C := RX8) (T := TX8) (N := 15) hx hb hts ii_X8_step_X8 hown hK hP 1 (xw_is (r := 1) (by omega) (xc_fix (r := 1) (by omega))) rfl 3 (by decide) (hts _ mm_X8_step_3) (fun _ hh => hh) rfl dX8_step_129 ?_
        refine zz_top (v := (nI (tkq B g p))) (by show st14 1 3 = _; rw [est14, up2_ne (r := 1) (k := 5) (a := 1) (j := 3) _ _ (by omega), hv13_0]) ?_
        refine va_bald hx hb hK hP 2 2 (xw_is (r := 2) (by omega) (xc_fix (r := 2) (by omega))) (xt_is (r := 2) (by omega) rfl) (i := (nI (tkq B g p))) (vp_in_nI (by omega) (by decide)) dX8_step_132 ?_
        refine zz_top (v := sbt (B (tkq B g p))) (by rw [nI_clamp (by omega)]; exact ((CBt.fr hB hF).2.2.2.2 (tkq B g p) (by omega)).1) ?_
        have hq37 := (hB.2.2.2.2 (tkq B g p) (by omega)).2
        refine va_calli (va_runS (As := [.int (sbt (B (tkq B g p)))]) (rest := []) ⟨hx, hb, hml, hown, hts⟩ (y_X8_isLetter l dC dI ad E hEE A C nb _ hN st14 sl3 so4 (sbt (B (tkq B g p))) hG.1 ) (va_cwS 1 hts gX8_step_X8_isLetter rfl rfl rfl (by decide +kernel) ⟨Nat.le_of_ble_eq_true rfl, Nat.le_of_ble_eq_true rfl⟩) ⟨fun a U g mk q => ⟨q.1, xPre.blind hEE q.2⟩, fun U hU hW => ⟨rfl, xPre.of hEE hP hK hE hS hU hW⟩⟩ rfl rfl hl.1 rfl (lv_room (Nat.le_of_ble_eq_true rfl)) dX8_step_133 ⟨Nat.le_of_ble_eq_true rfl, Nat.le_of_ble_eq_true rfl⟩) hS (fun q _ h => XA.le hS.1 q h) (XA.le hS.1) (fun r38 x t H locs ht hvm hw hB9 _ _ hS => ?_)
        have hP := xB.at ht hB9
        clear hB9 ht hvm
        obtain ⟨rfl, hw⟩ := hw
        have hP : va_P (dC, dI) vwCl (xw A C nb st14 sl3 so4) _ := hP
        rcases hw with ⟨rfl, hf39, hf40⟩ | ⟨rfl, hf41⟩
        · have hshf39 := (sbt_L (B (tkq B g p)) (by omega)).mp ⟨hf39, hf40⟩
          refine lv_if_ne (tgt := 154) hx hb dX8_step_136 (by decide) (fun _ => ?_) (fun cc => absurd cc (by decide))
          exact kj17 _ _ _ _ ⟨show (97 ≤ B (tkq B g p) ∧ B (tkq B g p) ≤ 122) ∨ (48 ≤ B (tkq B g p) ∧ B (tkq B g p) ≤ 57) by omega, hP, hS, lv_sub hl [0] rfl, rfl⟩
        · have hshf41 : ¬ (97 ≤ B (tkq B g p) ∧ B (tkq B g p) ≤ 122) := fun hh => hf41 ((sbt_L (B (tkq B g p)) (by omega)).mpr hh)
          refine lv_if_ne (tgt := 154) hx hb dX8_step_136 (by decide) (fun cc => absurd (by decide) cc) (fun _ => ?_)
          refine lv_aload_n hx hb dX8_step_139 rfl (lv_at hl 0 rfl) ?_
          refine va_get (D := (dC, dI)) (ci := 9) (v := .ref (A 2)) (C := RX8) (T := TX8) (N := 15) hx hb hts ii_X8_step_X8 hown hK hP 1 (xw_is (r := 1) (by omega) (xc_fix (r := 1) (by omega))) rfl 0 (by decide) (hts _ mm_X8_step_5) (fun _ hh => hh) rfl dX8_step_140 ?_
          refine lv_aload_n hx hb dX8_step_143 rfl (lv_at hl 0 rfl) ?_
          refine va_get (D := (dC, dI)) (ci := 9) (v := .int (st14 1 3)) (C := RX8) (T := TX8) (N := 15) hx hb hts ii_X8_step_X8 hown hK hP 1 (xw_is (r := 1) (by omega) (xc_fix (r := 1) (by omega))) rfl 3 (by decide) (hts _ mm_X8_step_3) (fun _ hh => hh) rfl dX8_step_144 ?_
          refine zz_top (v := (nI (tkq B g p))) (by show st14 1 3 = _; rw [est14, up2_ne (r := 1) (k := 5) (a := 1) (j := 3) _ _ (by omega), hv13_0]) ?_
          refine va_bald hx hb hK hP 2 2 (xw_is (r := 2) (by omega) (xc_fix (r := 2) (by omega))) (xt_is (r := 2) (by omega) rfl) (i := (nI (tkq B g p))) (vp_in_nI (by omega) (by decide)) dX8_step_147 ?_
          refine zz_top (v := sbt (B (tkq B g p))) (by rw [nI_clamp (by omega)]; exact ((CBt.fr hB hF).2.2.2.2 (tkq B g p) (by omega)).1) ?_
          have hq42 := (hB.2.2.2.2 (tkq B g p) (by omega)).2
          refine va_calli (va_runS (As := [.int (sbt (B (tkq B g p)))]) (rest := []) ⟨hx, hb, hml, hown, hts⟩ (y_X8_isDigit l dC dI ad E hEE A C nb _ hN st14 sl3 so4 (sbt (B (tkq B g p))) hG.1 ) (va_cwS 1 hts gX8_step_X8_isDigit rfl rfl rfl (by decide +kernel) ⟨Nat.le_of_ble_eq_true rfl, Nat.le_of_ble_eq_true rfl⟩) ⟨fun a U g mk q => ⟨q.1, xPre.blind hEE q.2⟩, fun U hU hW => ⟨rfl, xPre.of hEE hP hK hE hS hU hW⟩⟩ rfl rfl hl.1 rfl (lv_room (Nat.le_of_ble_eq_true rfl)) dX8_step_148 ⟨Nat.le_of_ble_eq_true rfl, Nat.le_of_ble_eq_true rfl⟩) hS (fun q _ h => XA.le hS.1 q h) (XA.le hS.1) (fun r43 x t H locs ht hvm hw hB9 _ _ hS => ?_)
          have hP := xB.at ht hB9
          clear hB9 ht hvm
          obtain ⟨rfl, hw⟩ := hw
          have hP : va_P (dC, dI) vwCl (xw A C nb st14 sl3 so4) _ := hP
          rcases hw with ⟨rfl, hf44, hf45⟩ | ⟨rfl, hf46⟩
          · have hshf44 := (sbt_D (B (tkq B g p)) (by omega)).mp ⟨hf44, hf45⟩
            refine lv_if_eq (tgt := 193) hx hb dX8_step_151 (by decide) (fun cc => absurd cc (by decide)) (fun _ => ?_)
            exact kj17 _ _ _ _ ⟨show (97 ≤ B (tkq B g p) ∧ B (tkq B g p) ≤ 122) ∨ (48 ≤ B (tkq B g p) ∧ B (tkq B g p) ≤ 57) by omega, hP, hS, lv_sub hl [0] rfl, rfl⟩
          · have hshf46 : ¬ (48 ≤ B (tkq B g p) ∧ B (tkq B g p) ≤ 57) := fun hh => hf46 ((sbt_D (B (tkq B g p)) (by omega)).mpr hh)
            refine lv_if_eq (tgt := 193) hx hb dX8_step_151 (by decide) (fun _ => ?_) (fun cc => absurd (by decide) cc)
            refine lv_aload_n hx hb dX8_step_193 rfl (lv_at hl 0 rfl) ?_
            refine lv_aload_n hx hb dX8_step_194 rfl (lv_at hl 0 rfl) ?_
            refine va_get (D := (dC, dI)) (ci := 9) (v := .ref (A 2)) (C := RX8) (T := TX8) (N := 15) hx hb hts ii_X8_step_X8 hown hK hP 1 (xw_is (r := 1) (by omega) (xc_fix (r := 1) (by omega))) rfl 0 (by decide) (hts _ mm_X8_step_5) (fun _ hh => hh) rfl dX8_step_195 ?_
            refine lv_aload_n hx hb dX8_step_198 rfl (lv_at hl 0 rfl) ?_
            refine va_get (D := (dC, dI)) (ci := 9) (v := .int (st14 1 3)) (C := RX8) (T := TX8) (N := 15) hx hb hts ii_X8_step_X8 hown hK hP 1 (xw_is (r := 1) (by omega) (xc_fix (r := 1) (by omega))) rfl 3 (by decide) (hts _ mm_X8_step_3) (fun _ hh => hh) rfl dX8_step_199 ?_
            refine zz_top (v := (nI (tkq B g p))) (by show st14 1 3 = _; rw [est14, up2_ne (r := 1) (k := 5) (a := 1) (j := 3) _ _ (by omega), hv13_0]) ?_
            refine va_bald hx hb hK hP 2 2 (xw_is (r := 2) (by omega) (xc_fix (r := 2) (by omega))) (xt_is (r := 2) (by omega) rfl) (i := (nI (tkq B g p))) (vp_in_nI (by omega) (by decide)) dX8_step_202 ?_
            refine zz_top (v := sbt (B (tkq B g p))) (by rw [nI_clamp (by omega)]; exact ((CBt.fr hB hF).2.2.2.2 (tkq B g p) (by omega)).1) ?_
            have hq47 := (hB.2.2.2.2 (tkq B g p) (by omega)).2
            refine va_put (D := (dC, dI)) (ci := 9) (v := .int (sbt (B (tkq B g p)))) (ty := .int) (C := RX8) (T := TX8) (N := 15) hx hb hts ii_X8_step_X8 tyX8 tyX8_ok nmX8 hown hK hP (xD hN _ _ _ _ _ _) hS 1 (xw_is (r := 1) (by omega) (xc_fix (r := 1) (by omega))) rfl 6 (by decide) (hts _ mm_X8_step_9) (fun _ hh => hh) rfl (by decide +kernel) rfl rfl (Nat.le_of_ble_eq_true rfl) dX8_step_203 (fun H locs hP _ hS => ?_)
            have hP : va_P (dC, dI) vwCl (xw A C nb (up2 st14 1 6 (sbt (B (tkq B g p)))) sl3 so4) H := by rw [← xset (r := 1) (k := 6) (v := (sbt (B (tkq B g p)))) (xc_fix (r := 1) (by omega))]; exact hP
            obtain ⟨st48, est48⟩ : ∃ y, y = up2 st14 1 6 (sbt (B (tkq B g p))) := ⟨_, rfl⟩
            have hG : XG [1, 2, 3, 4, 5, 6, 7, 8, 9, 10, 11, 12, 13, 14, 15] st st48 := by rw [est48]; exact hG.up (xz (r := 1) (k := 6) (by decide : xrg 1 6 = 0)) (xpn (c := 0) (by decide : xcl 1 6 = 0) (by decide))
            rw [← est48] at hP
            have hF : FX 1 st sl so st48 sl3 so4 := by rw [est48]; exact hF.up (by decide)
            refine lv_aload_n hx hb dX8_step_206 rfl (lv_at hl 0 rfl) ?_
            refine lv_aload_n hx hb dX8_step_207 rfl (lv_at hl 0 rfl) ?_
            refine va_get (D := (dC, dI)) (ci := 9) (v := .int (st48 1 6)) (C := RX8) (T := TX8) (N := 15) hx hb hts ii_X8_step_X8 hown hK hP 1 (xw_is (r := 1) (by omega) (xc_fix (r := 1) (by omega))) rfl 6 (by decide) (hts _ mm_X8_step_9) (fun _ hh => hh) rfl dX8_step_208 ?_
            refine zz_top (v := (sbt (B (tkq B g p)))) (by show st48 1 6 = _; rw [est48, up2_same]) ?_
            refine va_calli (va_runS (As := [.int (sbt (B (tkq B g p)))]) (rest := [.ref (A 1)]) ⟨hx, hb, hml, hown, hts⟩ (y_X8_isMark l dC dI ad E hEE A C nb _ hN st48 sl3 so4 (sbt (B (tkq B g p))) hG.1 ) (va_cwS 1 hts gX8_step_X8_isMark rfl rfl rfl (by decide +kernel) ⟨Nat.le_of_ble_eq_true rfl, Nat.le_of_ble_eq_true rfl⟩) ⟨fun a U g mk q => ⟨q.1, xPre.blind hEE q.2⟩, fun U hU hW => ⟨rfl, xPre.of hEE hP hK hE hS hU hW⟩⟩ rfl rfl hl.1 rfl (lv_room (Nat.le_of_ble_eq_true rfl)) dX8_step_211 ⟨Nat.le_of_ble_eq_true rfl, Nat.le_of_ble_eq_true rfl⟩) hS (fun q _ h => XA.le hS.1 q h) (XA.le hS.1) (fun r49 x t H locs ht hvm hw hB9 _ _ hS => ?_)
            have hP := xB.at ht hB9
            clear hB9 ht hvm
            obtain ⟨rfl, hw⟩ := hw
            have hP : va_P (dC, dI) vwCl (xw A C nb st48 sl3 so4) _ := hP
            rcases hw with ⟨rfl, hf50⟩ | ⟨rfl, hf51⟩
            · have hm9 : B (tkq B g p) = 59 ∨ B (tkq B g p) = 60 ∨ B (tkq B g p) = 61 ∨ B (tkq B g p) = 62 ∨ B (tkq B g p) = 40 ∨ B (tkq B g p) = 41 := by
                rcases hf50 with h9 | h9 | h9 | h9 | h9 | h9
                · exact Or.inl (((sbt_c (B (tkq B g p)) (by omega)).2.2.1).mp h9)
                · exact Or.inr (Or.inl (((sbt_c (B (tkq B g p)) (by omega)).2.2.2.1).mp h9))
                · exact Or.inr (Or.inr (Or.inl (((sbt_c (B (tkq B g p)) (by omega)).2.2.2.2.1).mp h9)))
                · exact Or.inr (Or.inr (Or.inr (Or.inl (((sbt_c (B (tkq B g p)) (by omega)).2.2.2.2.2.1).mp h9))))
                · exact Or.inr (Or.inr (Or.inr (Or.inr (Or.inl (((sbt_c (B (tkq B g p)) (by omega)).2.2.2.2.2.2.1).mp h9)))))
                · exact Or.inr (Or.inr (Or.inr (Or.inr (Or.inr (((sbt_c (B (tkq B g p)) (by omega)).2.2.2.2.2.2.2).mp h9)))))
              refine lv_if_eq (tgt := 221) hx hb dX8_step_214 (by decide) (fun cc => absurd cc (by decide)) (fun _ => ?_)
              refine lv_iconst (v := 2) hx hb dX8_step_217 (by decide) ?_
              refine lv_goto (tgt := 222) hx hb dX8_step_218 (by decide) ?_
              refine va_put (D := (dC, dI)) (ci := 9) (v := .int 2) (ty := .int) (C := RX8) (T := TX8) (N := 15) hx hb hts ii_X8_step_X8 tyX8 tyX8_ok nmX8 hown hK hP (xD hN _ _ _ _ _ _) hS 1 (xw_is (r := 1) (by omega) (xc_fix (r := 1) (by omega))) rfl 4 (by decide) (hts _ mm_X8_step_8) (fun _ hh => hh) rfl (by decide +kernel) rfl rfl (Nat.le_of_ble_eq_true rfl) dX8_step_222 (fun H locs hP _ hS => ?_)
              have hP : va_P (dC, dI) vwCl (xw A C nb (up2 st48 1 4 2) sl3 so4) H := by rw [← xset (r := 1) (k := 4) (v := 2) (xc_fix (r := 1) (by omega))]; exact hP
              obtain ⟨st52, est52⟩ : ∃ y, y = up2 st48 1 4 2 := ⟨_, rfl⟩
              have hG : XG [1, 2, 3, 4, 5, 6, 7, 8, 9, 10, 11, 12, 13, 14, 15] st st52 := by rw [est52]; exact hG.up (xz (r := 1) (k := 4) (by decide : xrg 1 4 = 0)) (xpn (c := 0) (by decide : xcl 1 4 = 0) (by decide))
              rw [← est52] at hP
              have hF : FX 1 st sl so st52 sl3 so4 := by rw [est52]; exact hF.up (by decide)
              refine lv_aload_n hx hb dX8_step_225 rfl (lv_at hl 0 rfl) ?_
              refine lv_dup hx hb dX8_step_226 rfl ?_
              refine va_get (D := (dC, dI)) (ci := 9) (v := .int (st52 1 3)) (C := RX8) (T := TX8) (N := 15) hx hb hts ii_X8_step_X8 hown hK hP 1 (xw_is (r := 1) (by omega) (xc_fix (r := 1) (by omega))) rfl 3 (by decide) (hts _ mm_X8_step_3) (fun _ hh => hh) rfl dX8_step_227 ?_
              refine zz_top (v := (nI (tkq B g p))) (by show st52 1 3 = _; rw [est52, up2_ne (r := 1) (k := 4) (a := 1) (j := 3) _ _ (by omega), est48, up2_ne (r := 1) (k := 6) (a := 1) (j := 3) _ _ (by omega), est14, up2_ne (r := 1) (k := 5) (a := 1) (j := 3) _ _ (by omega), hv13_0]) ?_
              refine lv_iconst (v := 1) hx hb dX8_step_230 (by decide) ?_
              refine lv_iadd hx hb dX8_step_231 ?_
              refine zz_top (v := nI ((tkq B g p) + 1)) (nI_add (tkq B g p) 1) ?_
              refine va_put (D := (dC, dI)) (ci := 9) (v := .int (nI ((tkq B g p) + 1))) (ty := .int) (C := RX8) (T := TX8) (N := 15) hx hb hts ii_X8_step_X8 tyX8 tyX8_ok nmX8 hown hK hP (xD hN _ _ _ _ _ _) hS 1 (xw_is (r := 1) (by omega) (xc_fix (r := 1) (by omega))) rfl 3 (by decide) (hts _ mm_X8_step_3) (fun _ hh => hh) rfl (by decide +kernel) rfl rfl (Nat.le_of_ble_eq_true rfl) dX8_step_232 (fun H locs hP _ hS => ?_)
              have hP : va_P (dC, dI) vwCl (xw A C nb (up2 st52 1 3 (nI ((tkq B g p) + 1))) sl3 so4) H := by rw [← xset (r := 1) (k := 3) (v := (nI ((tkq B g p) + 1))) (xc_fix (r := 1) (by omega))]; exact hP
              obtain ⟨st53, est53⟩ : ∃ y, y = up2 st52 1 3 (nI ((tkq B g p) + 1)) := ⟨_, rfl⟩
              have hG : XG [1, 2, 3, 4, 5, 6, 7, 8, 9, 10, 11, 12, 13, 14, 15] st st53 := by rw [est53]; exact hG.up (xn (n := ((tkq B g p) + 1)) (b := 941) (by decide : xrg 1 3 = 941) (by omega)) (xpn (c := 0) (by decide : xcl 1 3 = 0) (by decide))
              rw [← est53] at hP
              have hF : FX 1 st sl so st53 sl3 so4 := by rw [est53]; exact hF.up (by decide)
              exact W.vret hx hb hr (fun t ht hW => ⟨⟨(st53, sl3, so4), rfl, ⟨hG, hO, hF, TC.sign hpg hv16_0 (by omega) (fun hh => by have h3 : (97 ≤ B (tkq B g p) ∧ B (tkq B g p) ≤ 122) ∨ (48 ≤ B (tkq B g p) ∧ B (tkq B g p) ≤ 57) := hh; omega) (by omega) 2 (Or.inl ⟨rfl, hm9⟩) (by show st53 1 3 = _; rw [est53, up2_same]) (by show st53 1 5 = _; rw [est53, up2_ne (r := 1) (k := 3) (a := 1) (j := 5) _ _ (by omega), est52, up2_ne (r := 1) (k := 4) (a := 1) (j := 5) _ _ (by omega), est48, up2_ne (r := 1) (k := 6) (a := 1) (j := 5) _ _ (by omega), est14, up2_same]) (by show st53 1 4 = _; rw [est53, up2_ne (r := 1) (k := 3) (a := 1) (j := 4) _ _ (by omega), est52, up2_same]; rfl) (by show st53 1 6 = _; rw [est53, up2_ne (r := 1) (k := 3) (a := 1) (j := 6) _ _ (by omega), est52, up2_ne (r := 1) (k := 4) (a := 1) (j := 6) _ _ (by omega), est48, up2_same]) (by show so4 1 7 = _; rw [hv9_2])⟩, xB.of ht hP⟩, hS.F ht⟩) hS.2.2 dX8_step_235
            · have hm9 : ¬ (B (tkq B g p) = 59 ∨ B (tkq B g p) = 60 ∨ B (tkq B g p) = 61 ∨ B (tkq B g p) = 62 ∨ B (tkq B g p) = 40 ∨ B (tkq B g p) = 41) := fun hh => hf51 (by
                rcases hh with h9 | h9 | h9 | h9 | h9 | h9
                · exact Or.inl (((sbt_c (B (tkq B g p)) (by omega)).2.2.1).mpr h9)
                · exact Or.inr (Or.inl (((sbt_c (B (tkq B g p)) (by omega)).2.2.2.1).mpr h9))
                · exact Or.inr (Or.inr (Or.inl (((sbt_c (B (tkq B g p)) (by omega)).2.2.2.2.1).mpr h9)))
                · exact Or.inr (Or.inr (Or.inr (Or.inl (((sbt_c (B (tkq B g p)) (by omega)).2.2.2.2.2.1).mpr h9))))
                · exact Or.inr (Or.inr (Or.inr (Or.inr (Or.inl (((sbt_c (B (tkq B g p)) (by omega)).2.2.2.2.2.2.1).mpr h9)))))
                · exact Or.inr (Or.inr (Or.inr (Or.inr (Or.inr (((sbt_c (B (tkq B g p)) (by omega)).2.2.2.2.2.2.2).mpr h9))))))
              refine lv_if_eq (tgt := 221) hx hb dX8_step_214 (by decide) (fun _ => ?_) (fun cc => absurd (by decide) cc)
              refine lv_iconst (v := 4) hx hb dX8_step_221 (by decide) ?_
              refine va_put (D := (dC, dI)) (ci := 9) (v := .int 4) (ty := .int) (C := RX8) (T := TX8) (N := 15) hx hb hts ii_X8_step_X8 tyX8 tyX8_ok nmX8 hown hK hP (xD hN _ _ _ _ _ _) hS 1 (xw_is (r := 1) (by omega) (xc_fix (r := 1) (by omega))) rfl 4 (by decide) (hts _ mm_X8_step_8) (fun _ hh => hh) rfl (by decide +kernel) rfl rfl (Nat.le_of_ble_eq_true rfl) dX8_step_222 (fun H locs hP _ hS => ?_)
              have hP : va_P (dC, dI) vwCl (xw A C nb (up2 st48 1 4 4) sl3 so4) H := by rw [← xset (r := 1) (k := 4) (v := 4) (xc_fix (r := 1) (by omega))]; exact hP
              obtain ⟨st54, est54⟩ : ∃ y, y = up2 st48 1 4 4 := ⟨_, rfl⟩
              have hG : XG [1, 2, 3, 4, 5, 6, 7, 8, 9, 10, 11, 12, 13, 14, 15] st st54 := by rw [est54]; exact hG.up (xz (r := 1) (k := 4) (by decide : xrg 1 4 = 0)) (xpn (c := 0) (by decide : xcl 1 4 = 0) (by decide))
              rw [← est54] at hP
              have hF : FX 1 st sl so st54 sl3 so4 := by rw [est54]; exact hF.up (by decide)
              refine lv_aload_n hx hb dX8_step_225 rfl (lv_at hl 0 rfl) ?_
              refine lv_dup hx hb dX8_step_226 rfl ?_
              refine va_get (D := (dC, dI)) (ci := 9) (v := .int (st54 1 3)) (C := RX8) (T := TX8) (N := 15) hx hb hts ii_X8_step_X8 hown hK hP 1 (xw_is (r := 1) (by omega) (xc_fix (r := 1) (by omega))) rfl 3 (by decide) (hts _ mm_X8_step_3) (fun _ hh => hh) rfl dX8_step_227 ?_
              refine zz_top (v := (nI (tkq B g p))) (by show st54 1 3 = _; rw [est54, up2_ne (r := 1) (k := 4) (a := 1) (j := 3) _ _ (by omega), est48, up2_ne (r := 1) (k := 6) (a := 1) (j := 3) _ _ (by omega), est14, up2_ne (r := 1) (k := 5) (a := 1) (j := 3) _ _ (by omega), hv13_0]) ?_
              refine lv_iconst (v := 1) hx hb dX8_step_230 (by decide) ?_
              refine lv_iadd hx hb dX8_step_231 ?_
              refine zz_top (v := nI ((tkq B g p) + 1)) (nI_add (tkq B g p) 1) ?_
              refine va_put (D := (dC, dI)) (ci := 9) (v := .int (nI ((tkq B g p) + 1))) (ty := .int) (C := RX8) (T := TX8) (N := 15) hx hb hts ii_X8_step_X8 tyX8 tyX8_ok nmX8 hown hK hP (xD hN _ _ _ _ _ _) hS 1 (xw_is (r := 1) (by omega) (xc_fix (r := 1) (by omega))) rfl 3 (by decide) (hts _ mm_X8_step_3) (fun _ hh => hh) rfl (by decide +kernel) rfl rfl (Nat.le_of_ble_eq_true rfl) dX8_step_232 (fun H locs hP _ hS => ?_)
              have hP : va_P (dC, dI) vwCl (xw A C nb (up2 st54 1 3 (nI ((tkq B g p) + 1))) sl3 so4) H := by rw [← xset (r := 1) (k := 3) (v := (nI ((tkq B g p) + 1))) (xc_fix (r := 1) (by omega))]; exact hP
              obtain ⟨st55, est55⟩ : ∃ y, y = up2 st54 1 3 (nI ((tkq B g p) + 1)) := ⟨_, rfl⟩
              have hG : XG [1, 2, 3, 4, 5, 6, 7, 8, 9, 10, 11, 12, 13, 14, 15] st st55 := by rw [est55]; exact hG.up (xn (n := ((tkq B g p) + 1)) (b := 941) (by decide : xrg 1 3 = 941) (by omega)) (xpn (c := 0) (by decide : xcl 1 3 = 0) (by decide))
              rw [← est55] at hP
              have hF : FX 1 st sl so st55 sl3 so4 := by rw [est55]; exact hF.up (by decide)
              exact W.vret hx hb hr (fun t ht hW => ⟨⟨(st55, sl3, so4), rfl, ⟨hG, hO, hF, TC.sign hpg hv16_0 (by omega) (fun hh => by have h3 : (97 ≤ B (tkq B g p) ∧ B (tkq B g p) ≤ 122) ∨ (48 ≤ B (tkq B g p) ∧ B (tkq B g p) ≤ 57) := hh; omega) (by omega) 4 (Or.inr ⟨rfl, hm9⟩) (by show st55 1 3 = _; rw [est55, up2_same]) (by show st55 1 5 = _; rw [est55, up2_ne (r := 1) (k := 3) (a := 1) (j := 5) _ _ (by omega), est54, up2_ne (r := 1) (k := 4) (a := 1) (j := 5) _ _ (by omega), est48, up2_ne (r := 1) (k := 6) (a := 1) (j := 5) _ _ (by omega), est14, up2_same]) (by show st55 1 4 = _; rw [est55, up2_ne (r := 1) (k := 3) (a := 1) (j := 4) _ _ (by omega), est54, up2_same]; rfl) (by show st55 1 6 = _; rw [est55, up2_ne (r := 1) (k := 3) (a := 1) (j := 6) _ _ (by omega), est54, up2_ne (r := 1) (k := 4) (a := 1) (j := 6) _ _ (by omega), est48, up2_same]) (by show so4 1 7 = _; rw [hv9_2])⟩, xB.of ht hP⟩, hS.F ht⟩) hS.2.2 dX8_step_235
      · have c1 : ¬ (tkq B g p) < g := fun hh => c1 ((nI_ltI (a := (tkq B g p)) (b := g) (by omega) (by omega)).mpr hh)
        refine lv_aload_n hx hb dX8_step_116 rfl (lv_at hl 0 rfl) ?_
        refine lv_iconst (v := 3) hx hb dX8_step_117 (by decide) ?_
        refine va_put (D := (dC, dI)) (ci := 9) (v := .int 3) (ty := .int) (C := RX8) (T := TX8) (N := 15) hx hb hts ii_X8_step_X8 tyX8 tyX8_ok nmX8 hown hK hP (xD hN _ _ _ _ _ _) hS 1 (xw_is (r := 1) (by omega) (xc_fix (r := 1) (by omega))) rfl 4 (by decide) (hts _ mm_X8_step_8) (fun _ hh => hh) rfl (by decide +kernel) rfl rfl (Nat.le_of_ble_eq_true rfl) dX8_step_118 (fun H locs hP _ hS => ?_)
        have hP : va_P (dC, dI) vwCl (xw A C nb (up2 st14 1 4 3) sl3 so4) H := by rw [← xset (r := 1) (k := 4) (v := 3) (xc_fix (r := 1) (by omega))]; exact hP
        obtain ⟨st56, est56⟩ : ∃ y, y = up2 st14 1 4 3 := ⟨_, rfl⟩
        have hG : XG [1, 2, 3, 4, 5, 6, 7, 8, 9, 10, 11, 12, 13, 14, 15] st st56 := by rw [est56]; exact hG.up (xz (r := 1) (k := 4) (by decide : xrg 1 4 = 0)) (xpn (c := 0) (by decide : xcl 1 4 = 0) (by decide))
        rw [← est56] at hP
        have hF : FX 1 st sl so st56 sl3 so4 := by rw [est56]; exact hF.up (by decide)
        refine lv_goto (tgt := 235) hx hb dX8_step_121 (by decide) ?_
        exact W.vret hx hb hr (fun t ht hW => ⟨⟨(st56, sl3, so4), rfl, ⟨hG, hO, hF, TC.stop hpg hv16_0 (by omega) (by show st56 1 3 = _; rw [est56, up2_ne (r := 1) (k := 4) (a := 1) (j := 3) _ _ (by omega), est14, up2_ne (r := 1) (k := 5) (a := 1) (j := 3) _ _ (by omega), hv13_0]) (by show st56 1 5 = _; rw [est56, up2_ne (r := 1) (k := 4) (a := 1) (j := 5) _ _ (by omega), est14, up2_same]) (by show st56 1 4 = _; rw [est56, up2_same]; rfl) (by show so4 1 7 = _; rw [hv9_2])⟩, xB.of ht hP⟩, hS.F ht⟩) hS.2.2 dX8_step_235
    refine lv_icmp_le (tgt := 105) hx hb dX8_step_75 (by decide) (fun c9 => ?_) (fun c9 => ?_)
    · have c9 : g ≤ m := (nI_leI (a := g) (b := m) (by omega) (by omega)).mp c9
      exact kj15 _ _ _ _ ⟨by omega, hP, hS, lv_sub hl [0] rfl, rfl⟩
    · have c9 : ¬ g ≤ m := fun hh => c9 ((nI_leI (a := g) (b := m) (by omega) (by omega)).mpr hh)
      refine lv_aload_n hx hb dX8_step_78 rfl (lv_at hl 0 rfl) ?_
      refine va_get (D := (dC, dI)) (ci := 9) (v := .int (st14 1 3)) (C := RX8) (T := TX8) (N := 15) hx hb hts ii_X8_step_X8 hown hK hP 1 (xw_is (r := 1) (by omega) (xc_fix (r := 1) (by omega))) rfl 3 (by decide) (hts _ mm_X8_step_3) (fun _ hh => hh) rfl dX8_step_79 ?_
      refine zz_top (v := (nI (tkq B g p))) (by show st14 1 3 = _; rw [est14, up2_ne (r := 1) (k := 5) (a := 1) (j := 3) _ _ (by omega), hv13_0]) ?_
      refine lv_aload_n hx hb dX8_step_82 rfl (lv_at hl 0 rfl) ?_
      refine va_get (D := (dC, dI)) (ci := 9) (v := .int (st14 1 2)) (C := RX8) (T := TX8) (N := 15) hx hb hts ii_X8_step_X8 hown hK hP 1 (xw_is (r := 1) (by omega) (xc_fix (r := 1) (by omega))) rfl 2 (by decide) (hts _ mm_X8_step_7) (fun _ hh => hh) rfl dX8_step_83 ?_
      refine zz_top (v := (nI m)) (by show st14 1 2 = _; rw [(CBt.fr hB hF).2.1]) ?_
      refine lv_icmp_lt (tgt := 105) hx hb dX8_step_86 (by decide) (fun c10 => ?_) (fun c10 => ?_)
      · have c10 : (tkq B g p) < m := (nI_ltI (a := (tkq B g p)) (b := m) (by omega) (by omega)).mp c10
        exact kj15 _ _ _ _ ⟨by omega, hP, hS, lv_sub hl [0] rfl, rfl⟩
      · have c10 : ¬ (tkq B g p) < m := fun hh => c10 ((nI_ltI (a := (tkq B g p)) (b := m) (by omega) (by omega)).mpr hh)
        refine lv_aload_n hx hb dX8_step_89 rfl (lv_at hl 0 rfl) ?_
        refine lv_aload_n hx hb dX8_step_90 rfl (lv_at hl 0 rfl) ?_
        refine va_get (D := (dC, dI)) (ci := 9) (v := .int (st14 1 2)) (C := RX8) (T := TX8) (N := 15) hx hb hts ii_X8_step_X8 hown hK hP 1 (xw_is (r := 1) (by omega) (xc_fix (r := 1) (by omega))) rfl 2 (by decide) (hts _ mm_X8_step_7) (fun _ hh => hh) rfl dX8_step_91 ?_
        refine zz_top (v := (nI m)) (by show st14 1 2 = _; rw [(CBt.fr hB hF).2.1]) ?_
        refine va_put (D := (dC, dI)) (ci := 9) (v := .int (nI m)) (ty := .int) (C := RX8) (T := TX8) (N := 15) hx hb hts ii_X8_step_X8 tyX8 tyX8_ok nmX8 hown hK hP (xD hN _ _ _ _ _ _) hS 1 (xw_is (r := 1) (by omega) (xc_fix (r := 1) (by omega))) rfl 5 (by decide) (hts _ mm_X8_step_6) (fun _ hh => hh) rfl (by decide +kernel) rfl rfl (Nat.le_of_ble_eq_true rfl) dX8_step_94 (fun H locs hP _ hS => ?_)
        have hP : va_P (dC, dI) vwCl (xw A C nb (up2 st14 1 5 (nI m)) sl3 so4) H := by rw [← xset (r := 1) (k := 5) (v := (nI m)) (xc_fix (r := 1) (by omega))]; exact hP
        obtain ⟨st57, est57⟩ : ∃ y, y = up2 st14 1 5 (nI m) := ⟨_, rfl⟩
        have hG : XG [1, 2, 3, 4, 5, 6, 7, 8, 9, 10, 11, 12, 13, 14, 15] st st57 := by rw [est57]; exact hG.up (xn (n := m) (b := 941) (by decide : xrg 1 5 = 941) (by omega)) (xpn (c := 0) (by decide : xcl 1 5 = 0) (by decide))
        rw [← est57] at hP
        have hF : FX 1 st sl so st57 sl3 so4 := by rw [est57]; exact hF.up (by decide)
        refine lv_aload_n hx hb dX8_step_97 rfl (lv_at hl 0 rfl) ?_
        refine lv_iconst (v := 4) hx hb dX8_step_98 (by decide) ?_
        refine va_put (D := (dC, dI)) (ci := 9) (v := .int 4) (ty := .int) (C := RX8) (T := TX8) (N := 15) hx hb hts ii_X8_step_X8 tyX8 tyX8_ok nmX8 hown hK hP (xD hN _ _ _ _ _ _) hS 1 (xw_is (r := 1) (by omega) (xc_fix (r := 1) (by omega))) rfl 4 (by decide) (hts _ mm_X8_step_8) (fun _ hh => hh) rfl (by decide +kernel) rfl rfl (Nat.le_of_ble_eq_true rfl) dX8_step_99 (fun H locs hP _ hS => ?_)
        have hP : va_P (dC, dI) vwCl (xw A C nb (up2 st57 1 4 4) sl3 so4) H := by rw [← xset (r := 1) (k := 4) (v := 4) (xc_fix (r := 1) (by omega))]; exact hP
        obtain ⟨st58, est58⟩ : ∃ y, y = up2 st57 1 4 4 := ⟨_, rfl⟩
        have hG : XG [1, 2, 3, 4, 5, 6, 7, 8, 9, 10, 11, 12, 13, 14, 15] st st58 := by rw [est58]; exact hG.up (xz (r := 1) (k := 4) (by decide : xrg 1 4 = 0)) (xpn (c := 0) (by decide : xcl 1 4 = 0) (by decide))
        rw [← est58] at hP
        have hF : FX 1 st sl so st58 sl3 so4 := by rw [est58]; exact hF.up (by decide)
        refine lv_goto (tgt := 235) hx hb dX8_step_102 (by decide) ?_
        exact W.vret hx hb hr (fun t ht hW => ⟨⟨(st58, sl3, so4), rfl, ⟨hG, hO, hF, TC.lim hpg (by omega) (by show st58 1 3 = _; rw [est58, up2_ne (r := 1) (k := 4) (a := 1) (j := 3) _ _ (by omega), est57, up2_ne (r := 1) (k := 5) (a := 1) (j := 3) _ _ (by omega), est14, up2_ne (r := 1) (k := 5) (a := 1) (j := 3) _ _ (by omega), hv13_0]) (by show st58 1 5 = _; rw [est58, up2_ne (r := 1) (k := 4) (a := 1) (j := 5) _ _ (by omega), est57, up2_same]) (by show st58 1 4 = _; rw [est58, up2_same]; rfl) (by show so4 1 7 = _; rw [hv9_2])⟩, xB.of ht hP⟩, hS.F ht⟩) hS.2.2 dX8_step_235
  refine lv_icmp_ge (tgt := 59) hx hb dX8_step_15 (by decide) (fun c11 => ?_) (fun c11 => ?_)
  · have c11 : g ≤ u5 := (nI_leI (a := g) (b := u5) (by omega) (by omega)).mp c11
    exact kj12 _ _ _ _ ⟨by rw [show (tkq B g p) = u5 from hv8_1.symm.trans (skp_n (fun hh => by have h1 := hh.1; have h2 : B u5 = 32 ∨ B u5 = 10 := hh.2; omega))]; exact eu5, hP, hS, lv_sub hl [0] rfl, rfl⟩
  · have c11 : ¬ g ≤ u5 := fun hh => c11 ((nI_leI (a := g) (b := u5) (by omega) (by omega)).mpr hh)
    refine lv_aload_n hx hb dX8_step_18 rfl (lv_at hl 0 rfl) ?_
    refine va_get (D := (dC, dI)) (ci := 9) (v := .ref (A 2)) (C := RX8) (T := TX8) (N := 15) hx hb hts ii_X8_step_X8 hown hK hP 1 (xw_is (r := 1) (by omega) (xc_fix (r := 1) (by omega))) rfl 0 (by decide) (hts _ mm_X8_step_5) (fun _ hh => hh) rfl dX8_step_19 ?_
    refine lv_aload_n hx hb dX8_step_22 rfl (lv_at hl 0 rfl) ?_
    refine va_get (D := (dC, dI)) (ci := 9) (v := .int (st2 1 3)) (C := RX8) (T := TX8) (N := 15) hx hb hts ii_X8_step_X8 hown hK hP 1 (xw_is (r := 1) (by omega) (xc_fix (r := 1) (by omega))) rfl 3 (by decide) (hts _ mm_X8_step_3) (fun _ hh => hh) rfl dX8_step_23 ?_
    refine zz_top (v := (nI u5)) (by show st2 1 3 = _; rw [eu5]) ?_
    refine va_bald hx hb hK hP 2 2 (xw_is (r := 2) (by omega) (xc_fix (r := 2) (by omega))) (xt_is (r := 2) (by omega) rfl) (i := (nI u5)) (vp_in_nI (by omega) (by decide)) dX8_step_26 ?_
    refine zz_top (v := sbt (B u5)) (by rw [nI_clamp (by omega)]; exact ((CBt.fr hB hF).2.2.2.2 u5 (by omega)).1) ?_
    have hq59 := (hB.2.2.2.2 u5 (by omega)).2
    refine lv_bipush (v := 32) hx hb dX8_step_27 (by decide) ?_
    refine lv_icmp_eq (tgt := 46) hx hb dX8_step_29 (by decide) (fun c12 => ?_) (fun c12 => ?_)
    · have c12 : B u5 = 32 := ((sbt_c (B u5) (by omega)).1).mp c12
      refine lv_aload_n hx hb dX8_step_46 rfl (lv_at hl 0 rfl) ?_
      refine lv_dup hx hb dX8_step_47 rfl ?_
      refine va_get (D := (dC, dI)) (ci := 9) (v := .int (st2 1 3)) (C := RX8) (T := TX8) (N := 15) hx hb hts ii_X8_step_X8 hown hK hP 1 (xw_is (r := 1) (by omega) (xc_fix (r := 1) (by omega))) rfl 3 (by decide) (hts _ mm_X8_step_3) (fun _ hh => hh) rfl dX8_step_48 ?_
      refine zz_top (v := (nI u5)) (by show st2 1 3 = _; rw [eu5]) ?_
      refine lv_iconst (v := 1) hx hb dX8_step_51 (by decide) ?_
      refine lv_iadd hx hb dX8_step_52 ?_
      refine zz_top (v := nI (u5 + 1)) (nI_add u5 1) ?_
      refine va_put (D := (dC, dI)) (ci := 9) (v := .int (nI (u5 + 1))) (ty := .int) (C := RX8) (T := TX8) (N := 15) hx hb hts ii_X8_step_X8 tyX8 tyX8_ok nmX8 hown hK hP (xD hN _ _ _ _ _ _) hS 1 (xw_is (r := 1) (by omega) (xc_fix (r := 1) (by omega))) rfl 3 (by decide) (hts _ mm_X8_step_3) (fun _ hh => hh) rfl (by decide +kernel) rfl rfl (Nat.le_of_ble_eq_true rfl) dX8_step_53 (fun H locs hP _ hS => ?_)
      have hP : va_P (dC, dI) vwCl (xw A C nb (up2 st2 1 3 (nI (u5 + 1))) sl3 so4) H := by rw [← xset (r := 1) (k := 3) (v := (nI (u5 + 1))) (xc_fix (r := 1) (by omega))]; exact hP
      obtain ⟨st60, est60⟩ : ∃ y, y = up2 st2 1 3 (nI (u5 + 1)) := ⟨_, rfl⟩
      have hG : XG [1, 2, 3, 4, 5, 6, 7, 8, 9, 10, 11, 12, 13, 14, 15] st st60 := by rw [est60]; exact hG.up (xn (n := (u5 + 1)) (b := 941) (by decide : xrg 1 3 = 941) (by omega)) (xpn (c := 0) (by decide : xcl 1 3 = 0) (by decide))
      rw [← est60] at hP
      have hF : FX 1 st sl so st60 sl3 so4 := by rw [est60]; exact hF.up (by decide)
      refine lv_goto (tgt := 7) hx hb dX8_step_56 (by decide) ?_
      exact ih11 (941 - (u5 + 1)) _ _ _ _ (by omega) ⟨st60, sl3, so4, (u5 + 1), rfl, by omega, by rw [est60, up2_same], by omega, (skp_y (p := u5) (m := 941) ⟨by omega, show B u5 = 32 ∨ B u5 = 10 by omega⟩ (by omega)).symm.trans hv8_1, by rw [hv9_2], hF, hP, hG, hO, hS, lv_sub hl [0] rfl, rfl⟩
    · have c12 : ¬ B u5 = 32 := fun hh => c12 (((sbt_c (B u5) (by omega)).1).mpr hh)
      refine lv_aload_n hx hb dX8_step_32 rfl (lv_at hl 0 rfl) ?_
      refine va_get (D := (dC, dI)) (ci := 9) (v := .ref (A 2)) (C := RX8) (T := TX8) (N := 15) hx hb hts ii_X8_step_X8 hown hK hP 1 (xw_is (r := 1) (by omega) (xc_fix (r := 1) (by omega))) rfl 0 (by decide) (hts _ mm_X8_step_5) (fun _ hh => hh) rfl dX8_step_33 ?_
      refine lv_aload_n hx hb dX8_step_36 rfl (lv_at hl 0 rfl) ?_
      refine va_get (D := (dC, dI)) (ci := 9) (v := .int (st2 1 3)) (C := RX8) (T := TX8) (N := 15) hx hb hts ii_X8_step_X8 hown hK hP 1 (xw_is (r := 1) (by omega) (xc_fix (r := 1) (by omega))) rfl 3 (by decide) (hts _ mm_X8_step_3) (fun _ hh => hh) rfl dX8_step_37 ?_
      refine zz_top (v := (nI u5)) (by show st2 1 3 = _; rw [eu5]) ?_
      refine va_bald hx hb hK hP 2 2 (xw_is (r := 2) (by omega) (xc_fix (r := 2) (by omega))) (xt_is (r := 2) (by omega) rfl) (i := (nI u5)) (vp_in_nI (by omega) (by decide)) dX8_step_40 ?_
      refine zz_top (v := sbt (B u5)) (by rw [nI_clamp (by omega)]; exact ((CBt.fr hB hF).2.2.2.2 u5 (by omega)).1) ?_
      have hq61 := (hB.2.2.2.2 u5 (by omega)).2
      refine lv_bipush (v := 10) hx hb dX8_step_41 (by decide) ?_
      refine lv_icmp_ne (tgt := 59) hx hb dX8_step_43 (by decide) (fun c13 => ?_) (fun c13 => ?_)
      · have c13 : ¬ B u5 = 10 := fun hh => c13 (((sbt_c (B u5) (by omega)).2.1).mpr hh)
        exact kj12 _ _ _ _ ⟨by rw [show (tkq B g p) = u5 from hv8_1.symm.trans (skp_n (fun hh => by have h1 := hh.1; have h2 : B u5 = 32 ∨ B u5 = 10 := hh.2; omega))]; exact eu5, hP, hS, lv_sub hl [0] rfl, rfl⟩
      · have c13 : B u5 = 10 := ((sbt_c (B u5) (by omega)).2.1).mp c13
        refine lv_aload_n hx hb dX8_step_46 rfl (lv_at hl 0 rfl) ?_
        refine lv_dup hx hb dX8_step_47 rfl ?_
        refine va_get (D := (dC, dI)) (ci := 9) (v := .int (st2 1 3)) (C := RX8) (T := TX8) (N := 15) hx hb hts ii_X8_step_X8 hown hK hP 1 (xw_is (r := 1) (by omega) (xc_fix (r := 1) (by omega))) rfl 3 (by decide) (hts _ mm_X8_step_3) (fun _ hh => hh) rfl dX8_step_48 ?_
        refine zz_top (v := (nI u5)) (by show st2 1 3 = _; rw [eu5]) ?_
        refine lv_iconst (v := 1) hx hb dX8_step_51 (by decide) ?_
        refine lv_iadd hx hb dX8_step_52 ?_
        refine zz_top (v := nI (u5 + 1)) (nI_add u5 1) ?_
        refine va_put (D := (dC, dI)) (ci := 9) (v := .int (nI (u5 + 1))) (ty := .int) (C := RX8) (T := TX8) (N := 15) hx hb hts ii_X8_step_X8 tyX8 tyX8_ok nmX8 hown hK hP (xD hN _ _ _ _ _ _) hS 1 (xw_is (r := 1) (by omega) (xc_fix (r := 1) (by omega))) rfl 3 (by decide) (hts _ mm_X8_step_3) (fun _ hh => hh) rfl (by decide +kernel) rfl rfl (Nat.le_of_ble_eq_true rfl) dX8_step_53 (fun H locs hP _ hS => ?_)
        have hP : va_P (dC, dI) vwCl (xw A C nb (up2 st2 1 3 (nI (u5 + 1))) sl3 so4) H := by rw [← xset (r := 1) (k := 3) (v := (nI (u5 + 1))) (xc_fix (r := 1) (by omega))]; exact hP
        obtain ⟨st62, est62⟩ : ∃ y, y = up2 st2 1 3 (nI (u5 + 1)) := ⟨_, rfl⟩
        have hG : XG [1, 2, 3, 4, 5, 6, 7, 8, 9, 10, 11, 12, 13, 14, 15] st st62 := by rw [est62]; exact hG.up (xn (n := (u5 + 1)) (b := 941) (by decide : xrg 1 3 = 941) (by omega)) (xpn (c := 0) (by decide : xcl 1 3 = 0) (by decide))
        rw [← est62] at hP
        have hF : FX 1 st sl so st62 sl3 so4 := by rw [est62]; exact hF.up (by decide)
        refine lv_goto (tgt := 7) hx hb dX8_step_56 (by decide) ?_
        exact ih11 (941 - (u5 + 1)) _ _ _ _ (by omega) ⟨st62, sl3, so4, (u5 + 1), rfl, by omega, by rw [est62, up2_same], by omega, (skp_y (p := u5) (m := 941) ⟨by omega, show B u5 = 32 ∨ B u5 = 10 by omega⟩ (by omega)).symm.trans hv8_1, by rw [hv9_2], hF, hP, hG, hO, hS, lv_sub hl [0] rfl, rfl⟩
set_option maxHeartbeats 4000000 in
set_option maxRecDepth 100000 in
theorem y_X8_refuse (l : Launch) (dC : Nat → ClassId) (dI : Nat → Nat → Nat) (ad : Nat → Nat) (E : EP) (hEE : EC ad E) (A : Nat → Nat) (C : Nat → ClassId) (nb sz : Nat) (hN : XN A) (st : Nat → Nat → Int32) (sl : Nat → Nat → Int64) (so : Nat → XR) (va : Nat) (B : Nat → Nat) (g m : Nat) (p : Nat) (hva : va < 5) (hI : XI st) (hOI : OI ad so) (hB : CBt B g m st) (hT : TC B g m p ad st sl so) : Met l yX8_refuse wsX8_refuse ({ frames := 0, cells := 0, slots := 0, locals := 0 }) (va_Pc [.ref (A 1), .int (nI va)] (xPre E dC dI A C nb sz st sl so)) (va_Qi (fun (r : Int32) (x : XT) => XG [1, 2, 3, 4, 5, 6, 7, 8, 9, 12, 13, 14, 15] st x.1 ∧ OG ad [2, 3, 4] so x.2.2 ∧ FX 2 st sl so x.1 x.2.1 x.2.2 ∧ (r = 0 ∧ x.1 1 13 = nI va ∧ x.1 1 14 = nI (tka B g m p) ∧ TC B g m p ad x.1 x.2.1 x.2.2)) (xB dC dI A C nb) (XA A sz)) 0 0 (XA A sz) := by
  refine Met.ofW (cc := cX8_refuse) (maxL := 2) (ret := (some .boolean)) (by decide) rfl ?_
  intro p9 e s m9 args below meth c9 s₁ B9 hml hv
  obtain ⟨rfl, hsz, hP, hK, hE⟩ := hv
  have hx := B9.exec
  have hb := B9.bytes
  have hr := B9.returns
  have hts := atoms_spec (ws := wsX8_refuse) B9.pre
  have hown : s.vm.findClass RX8 = some m9.cls := findClass_of_methodNamed B9.named
  subst hsz
  have hEv := hEE.1 _ _ _ hE
  have hS : va_S (XA A s.heap.size) s.heap s.heap [] := va_S.rf
  have hG : XG [1, 2, 3, 4, 5, 6, 7, 8, 9, 12, 13, 14, 15] st st := XG.rf hI
  have hO : OG ad [2, 3, 4] so so := OG.rf hOI
  have hl := lv_entry ([.ref (A 1), .int (nI va)]) (n := 2) (Nat.le_of_ble_eq_true rfl)
  rw [lg_entry_eq]
  generalize (lg_sl ([.ref (A 1), .int (nI va)]) ++ List.replicate (2 - (lg_sl ([.ref (A 1), .int (nI va)])).length) Slot.unset).toArray = ls at hl ⊢
  have hl : lv_has ls 2 [(0, .ref (A 1)), (1, .int (nI va))] := hl
  have hB1 := hB.2.2.1
  have hB2 := hB.2.2.2.1
  have hF : FX 2 st sl so st sl so := FX.rf
  have hp9 := hT.2.2.2.2.2.2
  have hk1 := tkd_lt (B := B) (g := g) (m := m) (p := p)
  have hk2 := tkx_le (B := B) (g := g) (m := m) (p := p) hp9
  have hk3 := tka_le (B := B) (g := g) (m := m) (p := p) hp9 hB.2.2.1
  have hk4 := tkv_ltc (p := p) hB hp9
  have hk5 := tkw_lt (B := B) (g := g) (m := m) (p := p)
  refine lv_aload_n hx hb dX8_refuse_0 rfl (lv_at hl 0 rfl) ?_
  refine lv_iload_n hx hb dX8_refuse_1 rfl (lv_at hl 1 rfl) ?_
  refine va_put (D := (dC, dI)) (ci := 9) (v := .int (nI va)) (ty := .int) (C := RX8) (T := TX8) (N := 15) hx hb hts ii_X8_refuse_X8 tyX8 tyX8_ok nmX8 hown hK hP (xD hN _ _ _ _ _ _) hS 1 (xw_is (r := 1) (by omega) (xc_fix (r := 1) (by omega))) rfl 13 (by decide) (hts _ mm_X8_refuse_1) (fun _ hh => hh) rfl (by decide +kernel) rfl rfl (Nat.le_of_ble_eq_true rfl) dX8_refuse_2 (fun H locs hP _ hS => ?_)
  have hP : va_P (dC, dI) vwCl (xw A C nb (up2 st 1 13 (nI va)) sl so) H := by rw [← xset (r := 1) (k := 13) (v := (nI va)) (xc_fix (r := 1) (by omega))]; exact hP
  obtain ⟨st1, est1⟩ : ∃ y, y = up2 st 1 13 (nI va) := ⟨_, rfl⟩
  have hG : XG [1, 2, 3, 4, 5, 6, 7, 8, 9, 12, 13, 14, 15] st st1 := by rw [est1]; exact hG.up (xz (r := 1) (k := 13) (by decide : xrg 1 13 = 0)) (xpn (c := 10) (by decide : xcl 1 13 = 10) (by decide))
  rw [← est1] at hP
  have hF : FX 2 st sl so st1 sl so := by rw [est1]; exact hF.up (by decide)
  have hT : TC B g m p ad st1 sl so := by rw [est1]; exact hT.up (by omega)
  refine lv_aload_n hx hb dX8_refuse_5 rfl (lv_at hl 0 rfl) ?_
  refine lv_aload_n hx hb dX8_refuse_6 rfl (lv_at hl 0 rfl) ?_
  refine va_get (D := (dC, dI)) (ci := 9) (v := .int (st1 1 5)) (C := RX8) (T := TX8) (N := 15) hx hb hts ii_X8_refuse_X8 hown hK hP 1 (xw_is (r := 1) (by omega) (xc_fix (r := 1) (by omega))) rfl 5 (by decide) (hts _ mm_X8_refuse_2) (fun _ hh => hh) rfl dX8_refuse_7 ?_
  refine zz_top (v := (nI (tka B g m p))) (by show st1 1 5 = _; rw [hT.2.1]) ?_
  refine va_put (D := (dC, dI)) (ci := 9) (v := .int (nI (tka B g m p))) (ty := .int) (C := RX8) (T := TX8) (N := 15) hx hb hts ii_X8_refuse_X8 tyX8 tyX8_ok nmX8 hown hK hP (xD hN _ _ _ _ _ _) hS 1 (xw_is (r := 1) (by omega) (xc_fix (r := 1) (by omega))) rfl 14 (by decide) (hts _ mm_X8_refuse_3) (fun _ hh => hh) rfl (by decide +kernel) rfl rfl (Nat.le_of_ble_eq_true rfl) dX8_refuse_10 (fun H locs hP _ hS => ?_)
  have hP : va_P (dC, dI) vwCl (xw A C nb (up2 st1 1 14 (nI (tka B g m p))) sl so) H := by rw [← xset (r := 1) (k := 14) (v := (nI (tka B g m p))) (xc_fix (r := 1) (by omega))]; exact hP
  obtain ⟨st2, est2⟩ : ∃ y, y = up2 st1 1 14 (nI (tka B g m p)) := ⟨_, rfl⟩
  have hG : XG [1, 2, 3, 4, 5, 6, 7, 8, 9, 12, 13, 14, 15] st st2 := by rw [est2]; exact hG.up (xz (r := 1) (k := 14) (by decide : xrg 1 14 = 0)) (xpn (c := 0) (by decide : xcl 1 14 = 0) (by decide))
  rw [← est2] at hP
  have hF : FX 2 st sl so st2 sl so := by rw [est2]; exact hF.up (by decide)
  have hT : TC B g m p ad st2 sl so := by rw [est2]; exact hT.up (by omega)
  refine lv_iconst (v := 0) hx hb dX8_refuse_13 (by decide) ?_
  exact W.zret (v := 0) hx hb hr rfl (fun t ht hW => ⟨⟨0, (st2, sl, so), rfl, ⟨hG, hO, hF, ⟨rfl, by show st2 1 13 = _; rw [est2, up2_ne (r := 1) (k := 14) (a := 1) (j := 13) _ _ (by omega), est1, up2_same], by show st2 1 14 = _; rw [est2, up2_same], hT⟩⟩, xB.of ht hP⟩, hS.F ht⟩) hS.2.2 dX8_refuse_14
set_option maxHeartbeats 4000000 in
set_option maxRecDepth 100000 in
theorem y_X8_looksAtMark (l : Launch) (dC : Nat → ClassId) (dI : Nat → Nat → Nat) (ad : Nat → Nat) (E : EP) (hEE : EC ad E) (A : Nat → Nat) (C : Nat → ClassId) (nb sz : Nat) (hN : XN A) (st : Nat → Nat → Int32) (sl : Nat → Nat → Int64) (so : Nat → XR) (B : Nat → Nat) (g m : Nat) (p : Nat) (hI : XI st) (hB : CBt B g m st) (hT : TC B g m p ad st sl so) : Met l yX8_looksAtMark wsX8_looksAtMark ({ frames := 0, cells := 0, slots := 0, locals := 0 }) (va_Pc [.ref (A 1), .int 59] (xPre E dC dI A C nb sz st sl so)) (va_Qi (fun (r : Int32) (x : XT) => x = (st, sl, so) ∧ ((r = 1 ∧ tkd B g m p = 4 ∧ tkv B g p = 59) ∨ (r = 0 ∧ ¬ (tkd B g m p = 4 ∧ tkv B g p = 59)))) (xB dC dI A C nb) (XA A sz)) 0 0 (XA A sz) := by
  refine Met.ofW (cc := cX8_looksAtMark) (maxL := 2) (ret := (some .boolean)) (by decide) rfl ?_
  intro p9 e s m9 args below meth c9 s₁ B9 hml hv
  obtain ⟨rfl, hsz, hP, hK, hE⟩ := hv
  have hx := B9.exec
  have hb := B9.bytes
  have hr := B9.returns
  have hts := atoms_spec (ws := wsX8_looksAtMark) B9.pre
  have hown : s.vm.findClass RX8 = some m9.cls := findClass_of_methodNamed B9.named
  subst hsz
  have hEv := hEE.1 _ _ _ hE
  have hS : va_S (XA A s.heap.size) s.heap s.heap [] := va_S.rf
  have hG : XG [1, 2, 3, 4, 5, 6, 7, 8, 9, 10, 11, 12, 13, 14, 15] st st := XG.rf hI
  have hl := lv_entry ([.ref (A 1), .int 59]) (n := 2) (Nat.le_of_ble_eq_true rfl)
  rw [lg_entry_eq]
  generalize (lg_sl ([.ref (A 1), .int 59]) ++ List.replicate (2 - (lg_sl ([.ref (A 1), .int 59])).length) Slot.unset).toArray = ls at hl ⊢
  have hl : lv_has ls 2 [(0, .ref (A 1)), (1, .int 59)] := hl
  have hB1 := hB.2.2.1
  have hB2 := hB.2.2.2.1
  have hF : FX 0 st sl so st sl so := FX.rf
  have hp9 := hT.2.2.2.2.2.2
  have hk1 := tkd_lt (B := B) (g := g) (m := m) (p := p)
  have hk2 := tkx_le (B := B) (g := g) (m := m) (p := p) hp9
  have hk3 := tka_le (B := B) (g := g) (m := m) (p := p) hp9 hB.2.2.1
  have hk4 := tkv_ltc (p := p) hB hp9
  have hk5 := tkw_lt (B := B) (g := g) (m := m) (p := p)
  refine lv_aload_n hx hb dX8_looksAtMark_0 rfl (lv_at hl 0 rfl) ?_
  refine va_get (D := (dC, dI)) (ci := 9) (v := .int (st 1 4)) (C := RX8) (T := TX8) (N := 15) hx hb hts ii_X8_looksAtMark_X8 hown hK hP 1 (xw_is (r := 1) (by omega) (xc_fix (r := 1) (by omega))) rfl 4 (by decide) (hts _ mm_X8_looksAtMark_1) (fun _ hh => hh) rfl dX8_looksAtMark_1 ?_
  refine zz_top (v := (nI ((tkd B g m p + 3) % 5))) (by show st 1 4 = _; rw [hT.2.2.1]) ?_
  refine lv_iconst (v := 2) hx hb dX8_looksAtMark_4 (by decide) ?_
  refine lv_icmp_ne (tgt := 20) hx hb dX8_looksAtMark_5 (by decide) (fun c1 => ?_) (fun c1 => ?_)
  · have c1 : ¬ ((tkd B g m p + 3) % 5) = 2 := fun hh => c1 ((nI_eq (a := ((tkd B g m p + 3) % 5)) (b := 2) (by omega) (by omega)).mpr hh)
    refine lv_iconst (v := 0) hx hb dX8_looksAtMark_20 (by decide) ?_
    exact W.zret (v := 0) hx hb hr rfl (fun t ht hW => ⟨⟨0, (st, sl, so), rfl, ⟨rfl, Or.inr (⟨rfl, by omega⟩)⟩, xB.of ht hP⟩, hS.F ht⟩) hS.2.2 dX8_looksAtMark_21
  · have c1 : ((tkd B g m p + 3) % 5) = 2 := (nI_eq (a := ((tkd B g m p + 3) % 5)) (b := 2) (by omega) (by omega)).mp c1
    refine lv_aload_n hx hb dX8_looksAtMark_8 rfl (lv_at hl 0 rfl) ?_
    refine va_get (D := (dC, dI)) (ci := 9) (v := .int (st 1 6)) (C := RX8) (T := TX8) (N := 15) hx hb hts ii_X8_looksAtMark_X8 hown hK hP 1 (xw_is (r := 1) (by omega) (xc_fix (r := 1) (by omega))) rfl 6 (by decide) (hts _ mm_X8_looksAtMark_2) (fun _ hh => hh) rfl dX8_looksAtMark_9 ?_
    refine zz_top (v := (nI (tkv B g p))) (by show st 1 6 = _; rw [(hT.2.2.2.1 (by omega))]) ?_
    refine lv_iload_n hx hb dX8_looksAtMark_12 rfl (lv_at hl 1 rfl) ?_
    refine lv_icmp_ne (tgt := 20) hx hb dX8_looksAtMark_13 (by decide) (fun c2 => ?_) (fun c2 => ?_)
    · have c2 : ¬ (tkv B g p) = 59 := fun hh => c2 ((nI_eq (a := (tkv B g p)) (b := 59) (by omega) (by omega)).mpr hh)
      refine lv_iconst (v := 0) hx hb dX8_looksAtMark_20 (by decide) ?_
      exact W.zret (v := 0) hx hb hr rfl (fun t ht hW => ⟨⟨0, (st, sl, so), rfl, ⟨rfl, Or.inr (⟨rfl, by omega⟩)⟩, xB.of ht hP⟩, hS.F ht⟩) hS.2.2 dX8_looksAtMark_21
    · have c2 : (tkv B g p) = 59 := (nI_eq (a := (tkv B g p)) (b := 59) (by omega) (by omega)).mp c2
      refine lv_iconst (v := 1) hx hb dX8_looksAtMark_16 (by decide) ?_
      refine lv_goto (tgt := 21) hx hb dX8_looksAtMark_17 (by decide) ?_
      exact W.zret (v := 1) hx hb hr rfl (fun t ht hW => ⟨⟨1, (st, sl, so), rfl, ⟨rfl, Or.inl (⟨rfl, by omega, by omega⟩)⟩, xB.of ht hP⟩, hS.F ht⟩) hS.2.2 dX8_looksAtMark_21
