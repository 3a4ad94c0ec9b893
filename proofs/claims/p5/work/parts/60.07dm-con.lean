set_option maxHeartbeats 4000000 in
set_option maxRecDepth 100000 in
theorem x_readCond_3 (l : Launch) (dC : Nat → ClassId) (dI : Nat → Nat → Nat) (ad : Nat → Nat) (E : EP) (hEE : EC ad E) (A : Nat → Nat) (C : Nat → ClassId) (nb sz : Nat) (hN : XN A) (st : Nat → Nat → Int32) (sl : Nat → Nat → Int64) (so : Nat → XR) (hI : XI st) (hOI : OI ad so) : Met l yX7_readCond wsX7_readCond ({ frames := 19, cells := 0, slots := 0, locals := 463 }) (va_Pc [.ref (A (20 + 4 * 1)), .ref (A 1), .ref (A (36 + 20 * 0)), .int 3] (xPre E dC dI A C nb sz st sl so)) (va_Qi (fun (r : Int32) (x : XT) => XG [1, 2, 3, 4, 5, 6, 7, 12, 13, 14, 15] st x.1 ∧ LGq sl x.2.1 ∧ OG ad [2, 4] so x.2.2 ∧ ((r = 1 ∧ (SKs ad st so 1 → SKs ad x.1 x.2.2 1)) ∨ (r = 0 ∧ ¬ x.1 1 13 = 0))) (xB dC dI A C nb) (XA A sz)) 0 0 (XA A sz) := by
  refine Met.ofW (cc := cX7_readCond) (maxL := 7) (ret := (some .boolean)) (by decide) rfl ?_
  intro p e s m args below meth c s₁ B hml hv
  obtain ⟨rfl, hsz, hP, hK, hE⟩ := hv
  have hx := B.exec
  have hb := B.bytes
  have hr := B.returns
  have hts := atoms_spec (ws := wsX7_readCond) B.pre
  have hown : s.vm.findClass RX7 = some m.cls := findClass_of_methodNamed B.named
  subst hsz
  have hEv := hEE.1 _ _ _ hE
  have hS : va_S (XA A s.heap.size) s.heap s.heap [] := va_S.rf
  have hG : XG [1, 2, 3, 4, 5, 6, 7, 12, 13, 14, 15] st st := XG.rf hI
  have hO : OG ad [2, 4] so so := OG.rf hOI
  have hl := lv_entry ([.ref (A (20 + 4 * 1)), .ref (A 1), .ref (A (36 + 20 * 0)), .int 3]) (n := 7) (Nat.le_of_ble_eq_true rfl)
  rw [lg_entry_eq]
  generalize (lg_sl ([.ref (A (20 + 4 * 1)), .ref (A 1), .ref (A (36 + 20 * 0)), .int 3]) ++ List.replicate (7 - (lg_sl ([.ref (A (20 + 4 * 1)), .ref (A 1), .ref (A (36 + 20 * 0)), .int 3])).length) Slot.unset).toArray = ls at hl ⊢
  have hl : lv_has ls 7 [(0, .ref (A (20 + 4 * 1))), (1, .ref (A 1)), (2, .ref (A (36 + 20 * 0))), (3, .int 3)] := hl
  have hL : LGq sl sl := LGq.rf
  have hsk : SKs ad st so 1 → SKs ad st so 1 := fun hh => hh
  refine lv_aload_n hx hb dX7_readCond_0 rfl (lv_at hl 0 rfl) ?_
  refine lv_aload_n hx hb dX7_readCond_1 rfl (lv_at hl 1 rfl) ?_
  refine lv_aload_n hx hb dX7_readCond_2 rfl (lv_at hl 2 rfl) ?_
  refine lv_iload_n hx hb dX7_readCond_3 rfl (lv_at hl 3 rfl) ?_
  refine va_calli (va_runV (As := [.ref (A 1), .ref (A (36 + 20 * 0)), .int 3]) (rest := []) ⟨hx, hb, hml, hown, hts⟩ (x_readOne_3 l dC dI ad E hEE A C nb _ hN st sl so  hG.1 hO.1) (cwV 3 hts gX7_readCond_X7_readOne rfl rfl rfl (by decide +kernel) ⟨Nat.le_of_ble_eq_true rfl, Nat.le_of_ble_eq_true rfl⟩) ⟨fun a U g mk q => ⟨q.1, xPre.blind hEE q.2⟩, va_recv hK hP (ci := 8) (q0 := (20 + 4 * 1)) rfl (xw_is (r := (20 + 4 * 1)) (by omega) (xc_sn (q := 1) (o := 0) (by omega) (by omega))), fun U hU hW => ⟨rfl, xPre.of hEE hP hK hE hS hU hW⟩⟩ rfl rfl hl.1 rfl (lv_room (Nat.le_of_ble_eq_true rfl)) dX7_readCond_4 ⟨Nat.le_of_ble_eq_true rfl, Nat.le_of_ble_eq_true rfl⟩) hS (fun q _ h => XA.le hS.1 q h) (XA.le hS.1) (fun r1 x t H locs ht hvm hw hB _ _ hS => ?_)
  have hP := xB.at ht hB
  clear hB ht hvm
  obtain ⟨st2, sl3, so4⟩ := x
  obtain ⟨hGst2, hLGst2, hOst2, hw⟩ := hw
  dsimp only at hGst2 hLGst2 hOst2 hw
  have hL : LGq sl sl3 := hL.tr hLGst2
  have hO : OG ad [2, 4] so so4 := hO.tr hOst2 (by decide)
  have hP : va_P (dC, dI) vwCl (xw A C nb st2 sl3 so4) _ := hP
  have hG : XG [1, 2, 3, 4, 5, 6, 7, 12, 13, 14, 15] st st2 := hG.tr hGst2 (by decide)
  rcases hw with ⟨rfl, hf5⟩ | ⟨rfl, hf6⟩
  · have hsk : SKs ad st so 1 → SKs ad st2 so4 1 := fun hh => hf5 (hsk hh)
    refine lv_istore (lv' := [(4, .int 1), (0, .ref (A (20 + 4 * 1))), (1, .ref (A 1)), (2, .ref (A (36 + 20 * 0))), (3, .int 3)]) hx hb dX7_readCond_7 hl (by decide) rfl (fun ls hl => ?_)
    refine lv_iconst (v := 0) hx hb dX7_readCond_9 (by decide) ?_
    refine lv_istore (lv' := [(5, .int 0), (4, .int 1), (0, .ref (A (20 + 4 * 1))), (1, .ref (A 1)), (2, .ref (A (36 + 20 * 0))), (3, .int 3)]) hx hb dX7_readCond_10 hl (by decide) rfl (fun ls hl => ?_)
    refine lv_iconst (v := 0) hx hb dX7_readCond_12 (by decide) ?_
    refine lv_istore (lv' := [(6, .int 0), (5, .int 0), (4, .int 1), (0, .ref (A (20 + 4 * 1))), (1, .ref (A 1)), (2, .ref (A (36 + 20 * 0))), (3, .int 3)]) hx hb dX7_readCond_13 hl (by decide) rfl (fun ls hl => ?_)
    refine zz_wf (fun n stk H locs ls => ∃ k7 : Nat, ∃ k8 : Nat, ∃ k9 : Nat, ∃ st10 : Nat → Nat → Int32, ∃ sl11 : Nat → Nat → Int64, ∃ so12 : Nat → XR, n = 21 - k7 ∧ 0 ≤ k7 ∧ k7 < 21 ∧ 0 ≤ k8 ∧ k8 < 2 ∧ 0 ≤ k9 ∧ k9 < 2 ∧ ((k9 = 1 → SKs ad st so 1 → SKs ad st10 so12 1)) ∧ ((k9 = 0 → ¬ st10 1 13 = 0)) ∧ va_P (dC, dI) vwCl (xw A C nb st10 sl11 so12) H ∧ XG [1, 2, 3, 4, 5, 6, 7, 12, 13, 14, 15] st st10 ∧ OG ad [2, 4] so so12 ∧ LGq sl sl11 ∧ va_S (XA A s.heap.size) s.heap H locs ∧ lv_has ls 7 [(6, .int (nI k7)), (5, .int (nI k8)), (4, .int (nI k9)), (0, .ref (A (20 + 4 * 1))), (1, .ref (A 1)), (2, .ref (A (36 + 20 * 0))), (3, .int 3)] ∧ stk = []) ?_ (21 - 0) _ _ _ _ ⟨0, 0, 1, st2, sl3, so4, rfl, by omega, by omega, by omega, by omega, by omega, by omega, fun _ => hsk, fun h9 => absurd h9 (by omega), hP, hG, hO, hL, hS, lv_sub hl [0, 1, 2, 3, 4, 5, 6] rfl, rfl⟩
    rintro nn stk H locs ls ⟨k7, k8, k9, st10, sl11, so12, hm20, hv13_0, hv14_1, hv15_2, hv16_3, hv17_4, hv18_5, hv19_0, hv20_1, hP, hG, hO, hL, hS, hl, rfl⟩ ih21
    refine lv_iload hx hb dX7_readCond_15 (lv_at hl 0 rfl) ?_
    refine lv_bipush (v := 20) hx hb dX7_readCond_17 (by decide) ?_
    refine lv_icmp_ge (tgt := 108) hx hb dX7_readCond_19 (by decide) (fun c1 => ?_) (fun c1 => ?_)
    · have c1 : 20 ≤ k7 := (nI_leI (a := 20) (b := k7) (by omega) (by omega)).mp c1
      by_cases cg : k9 = 1
      · have hsk : SKs ad st so 1 → SKs ad st10 so12 1 := hv19_0 cg
        have hl : lv_has ls 7 [(6, .int (nI k7)), (5, .int (nI k8)), (4, .int 1), (0, .ref (A (20 + 4 * 1))), (1, .ref (A 1)), (2, .ref (A (36 + 20 * 0))), (3, .int 3)] := by rw [cg] at hl; exact hl
        refine lv_iload hx hb dX7_readCond_108 (lv_at hl 1 rfl) ?_
        refine lv_if_eq (tgt := 122) hx hb dX7_readCond_110 (by decide) (fun c2 => ?_) (fun c2 => ?_)
        · have c2 : k8 = 0 := (nI_eq (a := k8) (b := 0) (by omega) (by omega)).mp c2
          refine lv_iload hx hb dX7_readCond_122 (lv_at hl 2 rfl) ?_
          refine lv_if_eq (tgt := 146) hx hb dX7_readCond_124 (by decide) (fun cc => absurd cc (by decide)) (fun _ => ?_)
          refine lv_iload_n hx hb dX7_readCond_127 rfl (lv_at hl 6 rfl) ?_
          refine lv_iconst (v := 1) hx hb dX7_readCond_128 (by decide) ?_
          refine lv_icmp_ne (tgt := 146) hx hb dX7_readCond_129 (by decide) (fun _ => ?_) (fun cc => absurd cc (by decide))
          refine lv_iload hx hb dX7_readCond_146 (lv_at hl 2 rfl) ?_
          exact W.zret (v := 1) hx hb hr rfl (fun t ht hW => ⟨⟨1, (st10, sl11, so12), rfl, ⟨hG, hL, hO, Or.inl ⟨rfl, hsk⟩⟩, xB.of ht hP⟩, hS.F ht⟩) hS.2.2 dX7_readCond_148
        · have c2 : ¬ k8 = 0 := fun hh => c2 ((nI_eq (a := k8) (b := 0) (by omega) (by omega)).mpr hh)
          refine lv_aload_n hx hb dX7_readCond_113 rfl (lv_at hl 3 rfl) ?_
          refine va_gets (v := .ref (ad 13)) hx hb (EV.word hEv (i := 13) (by decide)) hS hown (hts _ mm_X7_readCond_2) (fun _ hh => hh) dX7_readCond_114 ?_
          refine lv_iconst (v := 0) hx hb dX7_readCond_117 (by decide) ?_
          refine lv_iconst (v := 0) hx hb dX7_readCond_118 (by decide) ?_
          refine va_callv (va_runV (As := [.ref (ad 13), .int 0, .int 0]) (rest := []) ⟨hx, hb, hml, hown, hts⟩ (x_X7_add l dC dI ad E hEE A C nb _ hN st10 sl11 so12 13 0 0 (by omega) hG.1 hO.1) (cwV 3 hts gX7_readCond_X7_add rfl rfl rfl (by decide +kernel) ⟨Nat.le_of_ble_eq_true rfl, Nat.le_of_ble_eq_true rfl⟩) ⟨fun a U g mk q => ⟨q.1, xPre.blind hEE q.2⟩, va_recv hK hP (ci := 8) (q0 := (20 + 4 * 1)) rfl (xw_is (r := (20 + 4 * 1)) (by omega) (xc_sn (q := 1) (o := 0) (by omega) (by omega))), fun U hU hW => ⟨rfl, xPre.of hEE hP hK hE hS hU hW⟩⟩ rfl rfl hl.1 rfl (lv_room (Nat.le_of_ble_eq_true rfl)) dX7_readCond_119 ⟨Nat.le_of_ble_eq_true rfl, Nat.le_of_ble_eq_true rfl⟩) hS (fun q _ h => XA.le hS.1 q h) (XA.le hS.1) (fun x t H locs ht hvm hw hB _ _ hS => ?_)
          have hP := xB.at ht hB
          clear hB ht hvm
          obtain ⟨st23, sl24, so25⟩ := x
          obtain ⟨hGst23, hLGst23, hOst23, hw⟩ := hw
          dsimp only at hGst23 hLGst23 hOst23 hw
          have hL : LGq sl sl24 := hL.tr hLGst23
          have hO : OG ad [2, 4] so so25 := hO.tr hOst23 (by decide)
          have hP : va_P (dC, dI) vwCl (xw A C nb st23 sl24 so25) _ := hP
          have hG : XG [1, 2, 3, 4, 5, 6, 7, 12, 13, 14, 15] st st23 := hG.tr hGst23 (by decide)
          have hf26 := hw
          have hsk : SKs ad st so 1 → SKs ad st23 so25 1 := fun hh => hf26 (hsk hh) (fun h9 => absurd h9 (by omega))
          refine lv_iload hx hb dX7_readCond_122 (lv_at hl 2 rfl) ?_
          refine lv_if_eq (tgt := 146) hx hb dX7_readCond_124 (by decide) (fun cc => absurd cc (by decide)) (fun _ => ?_)
          refine lv_iload_n hx hb dX7_readCond_127 rfl (lv_at hl 6 rfl) ?_
          refine lv_iconst (v := 1) hx hb dX7_readCond_128 (by decide) ?_
          refine lv_icmp_ne (tgt := 146) hx hb dX7_readCond_129 (by decide) (fun _ => ?_) (fun cc => absurd cc (by decide))
          refine lv_iload hx hb dX7_readCond_146 (lv_at hl 2 rfl) ?_
          exact W.zret (v := 1) hx hb hr rfl (fun t ht hW => ⟨⟨1, (st23, sl24, so25), rfl, ⟨hG, hL, hO, Or.inl ⟨rfl, hsk⟩⟩, xB.of ht hP⟩, hS.F ht⟩) hS.2.2 dX7_readCond_148
      · have cg : k9 = 0 := by omega
        have hfa : ¬ st10 1 13 = 0 := hv20_1 cg
        have hl : lv_has ls 7 [(6, .int (nI k7)), (5, .int (nI k8)), (4, .int 0), (0, .ref (A (20 + 4 * 1))), (1, .ref (A 1)), (2, .ref (A (36 + 20 * 0))), (3, .int 3)] := by rw [cg] at hl; exact hl
        refine lv_iload hx hb dX7_readCond_108 (lv_at hl 1 rfl) ?_
        refine lv_if_eq (tgt := 122) hx hb dX7_readCond_110 (by decide) (fun c7 => ?_) (fun c7 => ?_)
        · have c7 : k8 = 0 := (nI_eq (a := k8) (b := 0) (by omega) (by omega)).mp c7
          refine lv_iload hx hb dX7_readCond_122 (lv_at hl 2 rfl) ?_
          refine lv_if_eq (tgt := 146) hx hb dX7_readCond_124 (by decide) (fun _ => ?_) (fun cc => absurd (by decide) cc)
          refine lv_iload hx hb dX7_readCond_146 (lv_at hl 2 rfl) ?_
          exact W.zret (v := 0) hx hb hr rfl (fun t ht hW => ⟨⟨0, (st10, sl11, so12), rfl, ⟨hG, hL, hO, Or.inr (⟨rfl, by show ¬ st10 1 13 = 0; exact hfa⟩)⟩, xB.of ht hP⟩, hS.F ht⟩) hS.2.2 dX7_readCond_148
        · have c7 : ¬ k8 = 0 := fun hh => c7 ((nI_eq (a := k8) (b := 0) (by omega) (by omega)).mpr hh)
          refine lv_aload_n hx hb dX7_readCond_113 rfl (lv_at hl 3 rfl) ?_
          refine va_gets (v := .ref (ad 13)) hx hb (EV.word hEv (i := 13) (by decide)) hS hown (hts _ mm_X7_readCond_2) (fun _ hh => hh) dX7_readCond_114 ?_
          refine lv_iconst (v := 0) hx hb dX7_readCond_117 (by decide) ?_
          refine lv_iconst (v := 0) hx hb dX7_readCond_118 (by decide) ?_
          refine va_callv (va_runV (As := [.ref (ad 13), .int 0, .int 0]) (rest := []) ⟨hx, hb, hml, hown, hts⟩ (x_X7_add l dC dI ad E hEE A C nb _ hN st10 sl11 so12 13 0 0 (by omega) hG.1 hO.1) (cwV 3 hts gX7_readCond_X7_add rfl rfl rfl (by decide +kernel) ⟨Nat.le_of_ble_eq_true rfl, Nat.le_of_ble_eq_true rfl⟩) ⟨fun a U g mk q => ⟨q.1, xPre.blind hEE q.2⟩, va_recv hK hP (ci := 8) (q0 := (20 + 4 * 1)) rfl (xw_is (r := (20 + 4 * 1)) (by omega) (xc_sn (q := 1) (o := 0) (by omega) (by omega))), fun U hU hW => ⟨rfl, xPre.of hEE hP hK hE hS hU hW⟩⟩ rfl rfl hl.1 rfl (lv_room (Nat.le_of_ble_eq_true rfl)) dX7_readCond_119 ⟨Nat.le_of_ble_eq_true rfl, Nat.le_of_ble_eq_true rfl⟩) hS (fun q _ h => XA.le hS.1 q h) (XA.le hS.1) (fun x t H locs ht hvm hw hB _ _ hS => ?_)
          have hP := xB.at ht hB
          clear hB ht hvm
          obtain ⟨st28, sl29, so30⟩ := x
          obtain ⟨hGst28, hLGst28, hOst28, hw⟩ := hw
          dsimp only at hGst28 hLGst28 hOst28 hw
          have hL : LGq sl sl29 := hL.tr hLGst28
          have hO : OG ad [2, 4] so so30 := hO.tr hOst28 (by decide)
          have hP : va_P (dC, dI) vwCl (xw A C nb st28 sl29 so30) _ := hP
          have hG : XG [1, 2, 3, 4, 5, 6, 7, 12, 13, 14, 15] st st28 := hG.tr hGst28 (by decide)
          have hf31 := hw
          refine lv_iload hx hb dX7_readCond_122 (lv_at hl 2 rfl) ?_
          refine lv_if_eq (tgt := 146) hx hb dX7_readCond_124 (by decide) (fun _ => ?_) (fun cc => absurd (by decide) cc)
          refine lv_iload hx hb dX7_readCond_146 (lv_at hl 2 rfl) ?_
          exact W.zret (v := 0) hx hb hr rfl (fun t ht hW => ⟨⟨0, (st28, sl29, so30), rfl, ⟨hG, hL, hO, Or.inr (⟨rfl, by show ¬ st28 1 13 = 0; rw [hGst28.2 1 13 (by rw [(by decide : xcl 1 13 = 10)]; decide)]; exact hfa⟩)⟩, xB.of ht hP⟩, hS.F ht⟩) hS.2.2 dX7_readCond_148
    · have c1 : ¬ 20 ≤ k7 := fun hh => c1 ((nI_leI (a := 20) (b := k7) (by omega) (by omega)).mpr hh)
      refine lv_iload hx hb dX7_readCond_22 (lv_at hl 2 rfl) ?_
      refine lv_if_eq (tgt := 108) hx hb dX7_readCond_24 (by decide) (fun c10 => ?_) (fun c10 => ?_)
      · have c10 : k9 = 0 := (nI_eq (a := k9) (b := 0) (by omega) (by omega)).mp c10
        by_cases cg : k9 = 1
        · have hsk : SKs ad st so 1 → SKs ad st10 so12 1 := hv19_0 cg
          have hl : lv_has ls 7 [(6, .int (nI k7)), (5, .int (nI k8)), (4, .int 1), (0, .ref (A (20 + 4 * 1))), (1, .ref (A 1)), (2, .ref (A (36 + 20 * 0))), (3, .int 3)] := by rw [cg] at hl; exact hl
          refine lv_iload hx hb dX7_readCond_108 (lv_at hl 1 rfl) ?_
          refine lv_if_eq (tgt := 122) hx hb dX7_readCond_110 (by decide) (fun c11 => ?_) (fun c11 => ?_)
          · have c11 : k8 = 0 := (nI_eq (a := k8) (b := 0) (by omega) (by omega)).mp c11
            refine lv_iload hx hb dX7_readCond_122 (lv_at hl 2 rfl) ?_
            refine lv_if_eq (tgt := 146) hx hb dX7_readCond_124 (by decide) (fun cc => absurd cc (by decide)) (fun _ => ?_)
            refine lv_iload_n hx hb dX7_readCond_127 rfl (lv_at hl 6 rfl) ?_
            refine lv_iconst (v := 1) hx hb dX7_readCond_128 (by decide) ?_
            refine lv_icmp_ne (tgt := 146) hx hb dX7_readCond_129 (by decide) (fun _ => ?_) (fun cc => absurd cc (by decide))
            refine lv_iload hx hb dX7_readCond_146 (lv_at hl 2 rfl) ?_
            exact W.zret (v := 1) hx hb hr rfl (fun t ht hW => ⟨⟨1, (st10, sl11, so12), rfl, ⟨hG, hL, hO, Or.inl ⟨rfl, hsk⟩⟩, xB.of ht hP⟩, hS.F ht⟩) hS.2.2 dX7_readCond_148
          · have c11 : ¬ k8 = 0 := fun hh => c11 ((nI_eq (a := k8) (b := 0) (by omega) (by omega)).mpr hh)
            refine lv_aload_n hx hb dX7_readCond_113 rfl (lv_at hl 3 rfl) ?_
            refine va_gets (v := .ref (ad 13)) hx hb (EV.word hEv (i := 13) (by decide)) hS hown (hts _ mm_X7_readCond_2) (fun _ hh => hh) dX7_readCond_114 ?_
            refine lv_iconst (v := 0) hx hb dX7_readCond_117 (by decide) ?_
            refine lv_iconst (v := 0) hx hb dX7_readCond_118 (by decide) ?_
            refine va_callv (va_runV (As := [.ref (ad 13), .int 0, .int 0]) (rest := []) ⟨hx, hb, hml, hown, hts⟩ (x_X7_add l dC dI ad E hEE A C nb _ hN st10 sl11 so12 13 0 0 (by omega) hG.1 hO.1) (cwV 3 hts gX7_readCond_X7_add rfl rfl rfl (by decide +kernel) ⟨Nat.le_of_ble_eq_true rfl, Nat.le_of_ble_eq_true rfl⟩) ⟨fun a U g mk q => ⟨q.1, xPre.blind hEE q.2⟩, va_recv hK hP (ci := 8) (q0 := (20 + 4 * 1)) rfl (xw_is (r := (20 + 4 * 1)) (by omega) (xc_sn (q := 1) (o := 0) (by omega) (by omega))), fun U hU hW => ⟨rfl, xPre.of hEE hP hK hE hS hU hW⟩⟩ rfl rfl hl.1 rfl (lv_room (Nat.le_of_ble_eq_true rfl)) dX7_readCond_119 ⟨Nat.le_of_ble_eq_true rfl, Nat.le_of_ble_eq_true rfl⟩) hS (fun q _ h => XA.le hS.1 q h) (XA.le hS.1) (fun x t H locs ht hvm hw hB _ _ hS => ?_)
            have hP := xB.at ht hB
            clear hB ht hvm
            obtain ⟨st33, sl34, so35⟩ := x
            obtain ⟨hGst33, hLGst33, hOst33, hw⟩ := hw
            dsimp only at hGst33 hLGst33 hOst33 hw
            have hL : LGq sl sl34 := hL.tr hLGst33
            have hO : OG ad [2, 4] so so35 := hO.tr hOst33 (by decide)
            have hP : va_P (dC, dI) vwCl (xw A C nb st33 sl34 so35) _ := hP
            have hG : XG [1, 2, 3, 4, 5, 6, 7, 12, 13, 14, 15] st st33 := hG.tr hGst33 (by decide)
            have hf36 := hw
            have hsk : SKs ad st so 1 → SKs ad st33 so35 1 := fun hh => hf36 (hsk hh) (fun h9 => absurd h9 (by omega))
            refine lv_iload hx hb dX7_readCond_122 (lv_at hl 2 rfl) ?_
            refine lv_if_eq (tgt := 146) hx hb dX7_readCond_124 (by decide) (fun cc => absurd cc (by decide)) (fun _ => ?_)
            refine lv_iload_n hx hb dX7_readCond_127 rfl (lv_at hl 6 rfl) ?_
            refine lv_iconst (v := 1) hx hb dX7_readCond_128 (by decide) ?_
            refine lv_icmp_ne (tgt := 146) hx hb dX7_readCond_129 (by decide) (fun _ => ?_) (fun cc => absurd cc (by decide))
            refine lv_iload hx hb dX7_readCond_146 (lv_at hl 2 rfl) ?_
            exact W.zret (v := 1) hx hb hr rfl (fun t ht hW => ⟨⟨1, (st33, sl34, so35), rfl, ⟨hG, hL, hO, Or.inl ⟨rfl, hsk⟩⟩, xB.of ht hP⟩, hS.F ht⟩) hS.2.2 dX7_readCond_148
        · have cg : k9 = 0 := by omega
          have hfa : ¬ st10 1 13 = 0 := hv20_1 cg
          have hl : lv_has ls 7 [(6, .int (nI k7)), (5, .int (nI k8)), (4, .int 0), (0, .ref (A (20 + 4 * 1))), (1, .ref (A 1)), (2, .ref (A (36 + 20 * 0))), (3, .int 3)] := by rw [cg] at hl; exact hl
          refine lv_iload hx hb dX7_readCond_108 (lv_at hl 1 rfl) ?_
          refine lv_if_eq (tgt := 122) hx hb dX7_readCond_110 (by decide) (fun c16 => ?_) (fun c16 => ?_)
          · have c16 : k8 = 0 := (nI_eq (a := k8) (b := 0) (by omega) (by omega)).mp c16
            refine lv_iload hx hb dX7_readCond_122 (lv_at hl 2 rfl) ?_
            refine lv_if_eq (tgt := 146) hx hb dX7_readCond_124 (by decide) (fun _ => ?_) (fun cc => absurd (by decide) cc)
            refine lv_iload hx hb dX7_readCond_146 (lv_at hl 2 rfl) ?_
            exact W.zret (v := 0) hx hb hr rfl (fun t ht hW => ⟨⟨0, (st10, sl11, so12), rfl, ⟨hG, hL, hO, Or.inr (⟨rfl, by show ¬ st10 1 13 = 0; exact hfa⟩)⟩, xB.of ht hP⟩, hS.F ht⟩) hS.2.2 dX7_readCond_148
          · have c16 : ¬ k8 = 0 := fun hh => c16 ((nI_eq (a := k8) (b := 0) (by omega) (by omega)).mpr hh)
            refine lv_aload_n hx hb dX7_readCond_113 rfl (lv_at hl 3 rfl) ?_
            refine va_gets (v := .ref (ad 13)) hx hb (EV.word hEv (i := 13) (by decide)) hS hown (hts _ mm_X7_readCond_2) (fun _ hh => hh) dX7_readCond_114 ?_
            refine lv_iconst (v := 0) hx hb dX7_readCond_117 (by decide) ?_
            refine lv_iconst (v := 0) hx hb dX7_readCond_118 (by decide) ?_
            refine va_callv (va_runV (As := [.ref (ad 13), .int 0, .int 0]) (rest := []) ⟨hx, hb, hml, hown, hts⟩ (x_X7_add l dC dI ad E hEE A C nb _ hN st10 sl11 so12 13 0 0 (by omega) hG.1 hO.1) (cwV 3 hts gX7_readCond_X7_add rfl rfl rfl (by decide +kernel) ⟨Nat.le_of_ble_eq_true rfl, Nat.le_of_ble_eq_true rfl⟩) ⟨fun a U g mk q => ⟨q.1, xPre.blind hEE q.2⟩, va_recv hK hP (ci := 8) (q0 := (20 + 4 * 1)) rfl (xw_is (r := (20 + 4 * 1)) (by omega) (xc_sn (q := 1) (o := 0) (by omega) (by omega))), fun U hU hW => ⟨rfl, xPre.of hEE hP hK hE hS hU hW⟩⟩ rfl rfl hl.1 rfl (lv_room (Nat.le_of_ble_eq_true rfl)) dX7_readCond_119 ⟨Nat.le_of_ble_eq_true rfl, Nat.le_of_ble_eq_true rfl⟩) hS (fun q _ h => XA.le hS.1 q h) (XA.le hS.1) (fun x t H locs ht hvm hw hB _ _ hS => ?_)
            have hP := xB.at ht hB
            clear hB ht hvm
            obtain ⟨st38, sl39, so40⟩ := x
            obtain ⟨hGst38, hLGst38, hOst38, hw⟩ := hw
            dsimp only at hGst38 hLGst38 hOst38 hw
            have hL : LGq sl sl39 := hL.tr hLGst38
            have hO : OG ad [2, 4] so so40 := hO.tr hOst38 (by decide)
            have hP : va_P (dC, dI) vwCl (xw A C nb st38 sl39 so40) _ := hP
            have hG : XG [1, 2, 3, 4, 5, 6, 7, 12, 13, 14, 15] st st38 := hG.tr hGst38 (by decide)
            have hf41 := hw
            refine lv_iload hx hb dX7_readCond_122 (lv_at hl 2 rfl) ?_
            refine lv_if_eq (tgt := 146) hx hb dX7_readCond_124 (by decide) (fun _ => ?_) (fun cc => absurd (by decide) cc)
            refine lv_iload hx hb dX7_readCond_146 (lv_at hl 2 rfl) ?_
            exact W.zret (v := 0) hx hb hr rfl (fun t ht hW => ⟨⟨0, (st38, sl39, so40), rfl, ⟨hG, hL, hO, Or.inr (⟨rfl, by show ¬ st38 1 13 = 0; rw [hGst38.2 1 13 (by rw [(by decide : xcl 1 13 = 10)]; decide)]; exact hfa⟩)⟩, xB.of ht hP⟩, hS.F ht⟩) hS.2.2 dX7_readCond_148
      · have c10 : ¬ k9 = 0 := fun hh => c10 ((nI_eq (a := k9) (b := 0) (by omega) (by omega)).mpr hh)
        have hsk : SKs ad st so 1 → SKs ad st10 so12 1 := hv19_0 (by omega)
        refine lv_aload_n hx hb dX7_readCond_27 rfl (lv_at hl 4 rfl) ?_
        refine va_getN (host := "OffTheLead") (D := (dC, dI)) (ci := 9) (v := va_rf (so12 1 7)) (C := RX8) (T := TX8) (N := 15) hx hb hts ii_X7_readCond_X8 hown hK hP 1 (xw_is (r := 1) (by omega) (xc_fix (r := 1) (by omega))) rfl 7 (by decide) (va_Nw.use rfl (nf_X7_35 hEv)) (fun _ hh => hh) rfl dX7_readCond_28 ?_
        obtain ⟨j42, hj42, ej42⟩ := hO.1.2
        refine zz_topq (r := some (ad j42)) (by rw [ej42]) ?_
        refine va_gets (v := .ref (ad 14)) hx hb (EV.word hEv (i := 14) (by decide)) hS hown (hts _ mm_X7_readCond_1) (fun _ hh => hh) dX7_readCond_31 ?_
        refine lv_acmp_ne (rx := (some (ad j42))) (ry := (some (ad 14))) (tgt := 62) hx hb dX7_readCond_34 (by decide) (fun c19 => ?_) (fun c19 => ?_)
        · have c19 : ¬ j42 = 14 := fun hh => c19 ((EV.eqw hEv (i := j42) (j := 14) (by omega) (by omega)).mpr hh)
          refine lv_aload_n hx hb dX7_readCond_62 rfl (lv_at hl 4 rfl) ?_
          refine va_getN (host := "OffTheLead") (D := (dC, dI)) (ci := 9) (v := va_rf (so12 1 7)) (C := RX8) (T := TX8) (N := 15) hx hb hts ii_X7_readCond_X8 hown hK hP 1 (xw_is (r := 1) (by omega) (xc_fix (r := 1) (by omega))) rfl 7 (by decide) (va_Nw.use rfl (nf_X7_35 hEv)) (fun _ hh => hh) rfl dX7_readCond_63 ?_
          refine zz_topq (r := some (ad j42)) (by rw [ej42]) ?_
          refine va_gets (v := .ref (ad 13)) hx hb (EV.word hEv (i := 13) (by decide)) hS hown (hts _ mm_X7_readCond_2) (fun _ hh => hh) dX7_readCond_66 ?_
          refine lv_acmp_ne (rx := (some (ad j42))) (ry := (some (ad 13))) (tgt := 108) hx hb dX7_readCond_69 (by decide) (fun c20 => ?_) (fun c20 => ?_)
          · have c20 : ¬ j42 = 13 := fun hh => c20 ((EV.eqw hEv (i := j42) (j := 13) (by omega) (by omega)).mpr hh)
            by_cases cg : k9 = 1
            · have hsk : SKs ad st so 1 → SKs ad st10 so12 1 := hv19_0 cg
              have hl : lv_has ls 7 [(6, .int (nI k7)), (5, .int (nI k8)), (4, .int 1), (0, .ref (A (20 + 4 * 1))), (1, .ref (A 1)), (2, .ref (A (36 + 20 * 0))), (3, .int 3)] := by rw [cg] at hl; exact hl
              refine lv_iload hx hb dX7_readCond_108 (lv_at hl 1 rfl) ?_
              refine lv_if_eq (tgt := 122) hx hb dX7_readCond_110 (by decide) (fun c21 => ?_) (fun c21 => ?_)
              · have c21 : k8 = 0 := (nI_eq (a := k8) (b := 0) (by omega) (by omega)).mp c21
                refine lv_iload hx hb dX7_readCond_122 (lv_at hl 2 rfl) ?_
                refine lv_if_eq (tgt := 146) hx hb dX7_readCond_124 (by decide) (fun cc => absurd cc (by decide)) (fun _ => ?_)
                refine lv_iload_n hx hb dX7_readCond_127 rfl (lv_at hl 6 rfl) ?_
                refine lv_iconst (v := 1) hx hb dX7_readCond_128 (by decide) ?_
                refine lv_icmp_ne (tgt := 146) hx hb dX7_readCond_129 (by decide) (fun _ => ?_) (fun cc => absurd cc (by decide))
                refine lv_iload hx hb dX7_readCond_146 (lv_at hl 2 rfl) ?_
                exact W.zret (v := 1) hx hb hr rfl (fun t ht hW => ⟨⟨1, (st10, sl11, so12), rfl, ⟨hG, hL, hO, Or.inl ⟨rfl, hsk⟩⟩, xB.of ht hP⟩, hS.F ht⟩) hS.2.2 dX7_readCond_148
              · have c21 : ¬ k8 = 0 := fun hh => c21 ((nI_eq (a := k8) (b := 0) (by omega) (by omega)).mpr hh)
                refine lv_aload_n hx hb dX7_readCond_113 rfl (lv_at hl 3 rfl) ?_
                refine va_gets (v := .ref (ad 13)) hx hb (EV.word hEv (i := 13) (by decide)) hS hown (hts _ mm_X7_readCond_2) (fun _ hh => hh) dX7_readCond_114 ?_
                refine lv_iconst (v := 0) hx hb dX7_readCond_117 (by decide) ?_
                refine lv_iconst (v := 0) hx hb dX7_readCond_118 (by decide) ?_
                refine va_callv (va_runV (As := [.ref (ad 13), .int 0, .int 0]) (rest := []) ⟨hx, hb, hml, hown, hts⟩ (x_X7_add l dC dI ad E hEE A C nb _ hN st10 sl11 so12 13 0 0 (by omega) hG.1 hO.1) (cwV 3 hts gX7_readCond_X7_add rfl rfl rfl (by decide +kernel) ⟨Nat.le_of_ble_eq_true rfl, Nat.le_of_ble_eq_true rfl⟩) ⟨fun a U g mk q => ⟨q.1, xPre.blind hEE q.2⟩, va_recv hK hP (ci := 8) (q0 := (20 + 4 * 1)) rfl (xw_is (r := (20 + 4 * 1)) (by omega) (xc_sn (q := 1) (o := 0) (by omega) (by omega))), fun U hU hW => ⟨rfl, xPre.of hEE hP hK hE hS hU hW⟩⟩ rfl rfl hl.1 rfl (lv_room (Nat.le_of_ble_eq_true rfl)) dX7_readCond_119 ⟨Nat.le_of_ble_eq_true rfl, Nat.le_of_ble_eq_true rfl⟩) hS (fun q _ h => XA.le hS.1 q h) (XA.le hS.1) (fun x t H locs ht hvm hw hB _ _ hS => ?_)
                have hP := xB.at ht hB
                clear hB ht hvm
                obtain ⟨st44, sl45, so46⟩ := x
                obtain ⟨hGst44, hLGst44, hOst44, hw⟩ := hw
                dsimp only at hGst44 hLGst44 hOst44 hw
                have hL : LGq sl sl45 := hL.tr hLGst44
                have hO : OG ad [2, 4] so so46 := hO.tr hOst44 (by decide)
                have hP : va_P (dC, dI) vwCl (xw A C nb st44 sl45 so46) _ := hP
                have hG : XG [1, 2, 3, 4, 5, 6, 7, 12, 13, 14, 15] st st44 := hG.tr hGst44 (by decide)
                have hf47 := hw
                have hsk : SKs ad st so 1 → SKs ad st44 so46 1 := fun hh => hf47 (hsk hh) (fun h9 => absurd h9 (by omega))
                refine lv_iload hx hb dX7_readCond_122 (lv_at hl 2 rfl) ?_
                refine lv_if_eq (tgt := 146) hx hb dX7_readCond_124 (by decide) (fun cc => absurd cc (by decide)) (fun _ => ?_)
                refine lv_iload_n hx hb dX7_readCond_127 rfl (lv_at hl 6 rfl) ?_
                refine lv_iconst (v := 1) hx hb dX7_readCond_128 (by decide) ?_
                refine lv_icmp_ne (tgt := 146) hx hb dX7_readCond_129 (by decide) (fun _ => ?_) (fun cc => absurd cc (by decide))
                refine lv_iload hx hb dX7_readCond_146 (lv_at hl 2 rfl) ?_
                exact W.zret (v := 1) hx hb hr rfl (fun t ht hW => ⟨⟨1, (st44, sl45, so46), rfl, ⟨hG, hL, hO, Or.inl ⟨rfl, hsk⟩⟩, xB.of ht hP⟩, hS.F ht⟩) hS.2.2 dX7_readCond_148
            · have cg : k9 = 0 := by omega
              have hfa : ¬ st10 1 13 = 0 := hv20_1 cg
              have hl : lv_has ls 7 [(6, .int (nI k7)), (5, .int (nI k8)), (4, .int 0), (0, .ref (A (20 + 4 * 1))), (1, .ref (A 1)), (2, .ref (A (36 + 20 * 0))), (3, .int 3)] := by rw [cg] at hl; exact hl
              refine lv_iload hx hb dX7_readCond_108 (lv_at hl 1 rfl) ?_
              refine lv_if_eq (tgt := 122) hx hb dX7_readCond_110 (by decide) (fun c26 => ?_) (fun c26 => ?_)
              · have c26 : k8 = 0 := (nI_eq (a := k8) (b := 0) (by omega) (by omega)).mp c26
                refine lv_iload hx hb dX7_readCond_122 (lv_at hl 2 rfl) ?_
                refine lv_if_eq (tgt := 146) hx hb dX7_readCond_124 (by decide) (fun _ => ?_) (fun cc => absurd (by decide) cc)
                refine lv_iload hx hb dX7_readCond_146 (lv_at hl 2 rfl) ?_
                exact W.zret (v := 0) hx hb hr rfl (fun t ht hW => ⟨⟨0, (st10, sl11, so12), rfl, ⟨hG, hL, hO, Or.inr (⟨rfl, by show ¬ st10 1 13 = 0; exact hfa⟩)⟩, xB.of ht hP⟩, hS.F ht⟩) hS.2.2 dX7_readCond_148
              · have c26 : ¬ k8 = 0 := fun hh => c26 ((nI_eq (a := k8) (b := 0) (by omega) (by omega)).mpr hh)
                refine lv_aload_n hx hb dX7_readCond_113 rfl (lv_at hl 3 rfl) ?_
                refine va_gets (v := .ref (ad 13)) hx hb (EV.word hEv (i := 13) (by decide)) hS hown (hts _ mm_X7_readCond_2) (fun _ hh => hh) dX7_readCond_114 ?_
                refine lv_iconst (v := 0) hx hb dX7_readCond_117 (by decide) ?_
                refine lv_iconst (v := 0) hx hb dX7_readCond_118 (by decide) ?_
                refine va_callv (va_runV (As := [.ref (ad 13), .int 0, .int 0]) (rest := []) ⟨hx, hb, hml, hown, hts⟩ (x_X7_add l dC dI ad E hEE A C nb _ hN st10 sl11 so12 13 0 0 (by omega) hG.1 hO.1) (cwV 3 hts gX7_readCond_X7_add rfl rfl rfl (by decide +kernel) ⟨Nat.le_of_ble_eq_true rfl, Nat.le_of_ble_eq_true rfl⟩) ⟨fun a U g mk q => ⟨q.1, xPre.blind hEE q.2⟩, va_recv hK hP (ci := 8) (q0 := (20 + 4 * 1)) rfl (xw_is (r := (20 + 4 * 1)) (by omega) (xc_sn (q := 1) (o := 0) (by omega) (by omega))), fun U hU hW => ⟨rfl, xPre.of hEE hP hK hE hS hU hW⟩⟩ rfl rfl hl.1 rfl (lv_room (Nat.le_of_ble_eq_true rfl)) dX7_readCond_119 ⟨Nat.le_of_ble_eq_true rfl, Nat.le_of_ble_eq_true rfl⟩) hS (fun q _ h => XA.le hS.1 q h) (XA.le hS.1) (fun x t H locs ht hvm hw hB _ _ hS => ?_)
                have hP := xB.at ht hB
                clear hB ht hvm
                obtain ⟨st49, sl50, so51⟩ := x
                obtain ⟨hGst49, hLGst49, hOst49, hw⟩ := hw
                dsimp only at hGst49 hLGst49 hOst49 hw
                have hL : LGq sl sl50 := hL.tr hLGst49
                have hO : OG ad [2, 4] so so51 := hO.tr hOst49 (by decide)
                have hP : va_P (dC, dI) vwCl (xw A C nb st49 sl50 so51) _ := hP
                have hG : XG [1, 2, 3, 4, 5, 6, 7, 12, 13, 14, 15] st st49 := hG.tr hGst49 (by decide)
                have hf52 := hw
                refine lv_iload hx hb dX7_readCond_122 (lv_at hl 2 rfl) ?_
                refine lv_if_eq (tgt := 146) hx hb dX7_readCond_124 (by decide) (fun _ => ?_) (fun cc => absurd (by decide) cc)
                refine lv_iload hx hb dX7_readCond_146 (lv_at hl 2 rfl) ?_
                exact W.zret (v := 0) hx hb hr rfl (fun t ht hW => ⟨⟨0, (st49, sl50, so51), rfl, ⟨hG, hL, hO, Or.inr (⟨rfl, by show ¬ st49 1 13 = 0; rw [hGst49.2 1 13 (by rw [(by decide : xcl 1 13 = 10)]; decide)]; exact hfa⟩)⟩, xB.of ht hP⟩, hS.F ht⟩) hS.2.2 dX7_readCond_148
          · have c20 : j42 = 13 := (EV.eqw hEv (i := j42) (j := 13) (by omega) (by omega)).mp c20
            refine lv_iload hx hb dX7_readCond_72 (lv_at hl 1 rfl) ?_
            refine lv_if_eq (tgt := 86) hx hb dX7_readCond_74 (by decide) (fun c29 => ?_) (fun c29 => ?_)
            · have c29 : k8 = 0 := (nI_eq (a := k8) (b := 0) (by omega) (by omega)).mp c29
              refine lv_iconst (v := 1) hx hb dX7_readCond_86 (by decide) ?_
              refine lv_istore (lv' := [(5, .int 1), (6, .int (nI k7)), (4, .int (nI k9)), (0, .ref (A (20 + 4 * 1))), (1, .ref (A 1)), (2, .ref (A (36 + 20 * 0))), (3, .int 3)]) hx hb dX7_readCond_87 hl (by decide) rfl (fun ls hl => ?_)
              refine lv_aload_n hx hb dX7_readCond_89 rfl (lv_at hl 4 rfl) ?_
              refine va_callv (va_runV (As := []) (rest := []) ⟨hx, hb, hml, hown, hts⟩ (x_X8_step l dC dI ad E hEE A C nb _ hN st10 sl11 so12  hG.1 hO.1) (cwV 0 hts gX7_readCond_X8_step rfl rfl rfl (by decide +kernel) ⟨Nat.le_of_ble_eq_true rfl, Nat.le_of_ble_eq_true rfl⟩) ⟨fun a U g mk q => ⟨q.1, xPre.blind hEE q.2⟩, va_recv hK hP (ci := 9) (q0 := 1) rfl (xw_is (r := 1) (by omega) (xc_fix (r := 1) (by omega))), fun U hU hW => ⟨rfl, xPre.of hEE hP hK hE hS hU hW⟩⟩ rfl rfl hl.1 rfl (lv_room (Nat.le_of_ble_eq_true rfl)) dX7_readCond_90 ⟨Nat.le_of_ble_eq_true rfl, Nat.le_of_ble_eq_true rfl⟩) hS (fun q _ h => XA.le hS.1 q h) (XA.le hS.1) (fun x t H locs ht hvm hw hB _ _ hS => ?_)
              have hP := xB.at ht hB
              clear hB ht hvm
              obtain ⟨st54, sl55, so56⟩ := x
              obtain ⟨hGst54, hLGst54, hOst54, hw⟩ := hw
              dsimp only at hGst54 hLGst54 hOst54 hw
              have hL : LGq sl sl55 := hL.tr hLGst54
              have hO : OG ad [2, 4] so so56 := hO.tr hOst54 (by decide)
              have hP : va_P (dC, dI) vwCl (xw A C nb st54 sl55 so56) _ := hP
              have hG : XG [1, 2, 3, 4, 5, 6, 7, 12, 13, 14, 15] st st54 := hG.tr hGst54 (by decide)
              clear hw
              have hsk : SKs ad st so 1 → SKs ad st54 so56 1 := fun hh => SKs.mg (hsk hh) (by omega) hGst54 hOst54 (by decide) (by decide) (by decide)
              refine lv_aload_n hx hb dX7_readCond_93 rfl (lv_at hl 3 rfl) ?_
              refine lv_aload_n hx hb dX7_readCond_94 rfl (lv_at hl 4 rfl) ?_
              refine lv_aload_n hx hb dX7_readCond_95 rfl (lv_at hl 5 rfl) ?_
              refine lv_iload_n hx hb dX7_readCond_96 rfl (lv_at hl 6 rfl) ?_
              refine va_calli (va_runV (As := [.ref (A 1), .ref (A (36 + 20 * 0)), .int 3]) (rest := []) ⟨hx, hb, hml, hown, hts⟩ (x_readOne_3 l dC dI ad E hEE A C nb _ hN st54 sl55 so56  hG.1 hO.1) (cwV 3 hts gX7_readCond_X7_readOne rfl rfl rfl (by decide +kernel) ⟨Nat.le_of_ble_eq_true rfl, Nat.le_of_ble_eq_true rfl⟩) ⟨fun a U g mk q => ⟨q.1, xPre.blind hEE q.2⟩, va_recv hK hP (ci := 8) (q0 := (20 + 4 * 1)) rfl (xw_is (r := (20 + 4 * 1)) (by omega) (xc_sn (q := 1) (o := 0) (by omega) (by omega))), fun U hU hW => ⟨rfl, xPre.of hEE hP hK hE hS hU hW⟩⟩ rfl rfl hl.1 rfl (lv_room (Nat.le_of_ble_eq_true rfl)) dX7_readCond_97 ⟨Nat.le_of_ble_eq_true rfl, Nat.le_of_ble_eq_true rfl⟩) hS (fun q _ h => XA.le hS.1 q h) (XA.le hS.1) (fun r57 x t H locs ht hvm hw hB _ _ hS => ?_)
              have hP := xB.at ht hB
              clear hB ht hvm
              obtain ⟨st58, sl59, so60⟩ := x
              obtain ⟨hGst58, hLGst58, hOst58, hw⟩ := hw
              dsimp only at hGst58 hLGst58 hOst58 hw
              have hL : LGq sl sl59 := hL.tr hLGst58
              have hO : OG ad [2, 4] so so60 := hO.tr hOst58 (by decide)
              have hP : va_P (dC, dI) vwCl (xw A C nb st58 sl59 so60) _ := hP
              have hG : XG [1, 2, 3, 4, 5, 6, 7, 12, 13, 14, 15] st st58 := hG.tr hGst58 (by decide)
              rcases hw with ⟨rfl, hf61⟩ | ⟨rfl, hf62⟩
              · have hsk : SKs ad st so 1 → SKs ad st58 so60 1 := fun hh => hf61 (hsk hh)
                refine lv_istore (lv' := [(4, .int 1), (5, .int 1), (6, .int (nI k7)), (0, .ref (A (20 + 4 * 1))), (1, .ref (A 1)), (2, .ref (A (36 + 20 * 0))), (3, .int 3)]) hx hb dX7_readCond_100 hl (by decide) rfl (fun ls hl => ?_)
                refine lv_iinc (v := (nI (k7 + 1))) (lv' := [(6, .int (nI (k7 + 1))), (4, .int 1), (5, .int 1), (0, .ref (A (20 + 4 * 1))), (1, .ref (A 1)), (2, .ref (A (36 + 20 * 0))), (3, .int 3)]) hx hb dX7_readCond_102 hl (k := 2) rfl (nI_add k7 1) (by decide) rfl (fun ls hl => ?_)
                refine lv_goto (tgt := 15) hx hb dX7_readCond_105 (by decide) ?_
                exact ih21 (21 - (k7 + 1)) _ _ _ _ (by omega) ⟨(k7 + 1), 1, 1, st58, sl59, so60, rfl, by omega, by omega, by omega, by omega, by omega, by omega, fun _ => hsk, fun h9 => absurd h9 (by omega), hP, hG, hO, hL, hS, lv_sub hl [0, 2, 1, 3, 4, 5, 6] rfl, rfl⟩
              · refine lv_istore (lv' := [(4, .int 0), (5, .int 1), (6, .int (nI k7)), (0, .ref (A (20 + 4 * 1))), (1, .ref (A 1)), (2, .ref (A (36 + 20 * 0))), (3, .int 3)]) hx hb dX7_readCond_100 hl (by decide) rfl (fun ls hl => ?_)
                refine lv_iinc (v := (nI (k7 + 1))) (lv' := [(6, .int (nI (k7 + 1))), (4, .int 0), (5, .int 1), (0, .ref (A (20 + 4 * 1))), (1, .ref (A 1)), (2, .ref (A (36 + 20 * 0))), (3, .int 3)]) hx hb dX7_readCond_102 hl (k := 2) rfl (nI_add k7 1) (by decide) rfl (fun ls hl => ?_)
                refine lv_goto (tgt := 15) hx hb dX7_readCond_105 (by decide) ?_
                exact ih21 (21 - (k7 + 1)) _ _ _ _ (by omega) ⟨(k7 + 1), 1, 0, st58, sl59, so60, rfl, by omega, by omega, by omega, by omega, by omega, by omega, fun h9 => absurd h9 (by omega), fun _ => by show ¬ st58 1 13 = 0; exact hf62, hP, hG, hO, hL, hS, lv_sub hl [0, 2, 1, 3, 4, 5, 6] rfl, rfl⟩
            · have c29 : ¬ k8 = 0 := fun hh => c29 ((nI_eq (a := k8) (b := 0) (by omega) (by omega)).mpr hh)
              refine lv_aload_n hx hb dX7_readCond_77 rfl (lv_at hl 3 rfl) ?_
              refine va_gets (v := .ref (ad 13)) hx hb (EV.word hEv (i := 13) (by decide)) hS hown (hts _ mm_X7_readCond_2) (fun _ hh => hh) dX7_readCond_78 ?_
              refine lv_iconst (v := 0) hx hb dX7_readCond_81 (by decide) ?_
              refine lv_iconst (v := 0) hx hb dX7_readCond_82 (by decide) ?_
              refine va_callv (va_runV (As := [.ref (ad 13), .int 0, .int 0]) (rest := []) ⟨hx, hb, hml, hown, hts⟩ (x_X7_add l dC dI ad E hEE A C nb _ hN st10 sl11 so12 13 0 0 (by omega) hG.1 hO.1) (cwV 3 hts gX7_readCond_X7_add rfl rfl rfl (by decide +kernel) ⟨Nat.le_of_ble_eq_true rfl, Nat.le_of_ble_eq_true rfl⟩) ⟨fun a U g mk q => ⟨q.1, xPre.blind hEE q.2⟩, va_recv hK hP (ci := 8) (q0 := (20 + 4 * 1)) rfl (xw_is (r := (20 + 4 * 1)) (by omega) (xc_sn (q := 1) (o := 0) (by omega) (by omega))), fun U hU hW => ⟨rfl, xPre.of hEE hP hK hE hS hU hW⟩⟩ rfl rfl hl.1 rfl (lv_room (Nat.le_of_ble_eq_true rfl)) dX7_readCond_83 ⟨Nat.le_of_ble_eq_true rfl, Nat.le_of_ble_eq_true rfl⟩) hS (fun q _ h => XA.le hS.1 q h) (XA.le hS.1) (fun x t H locs ht hvm hw hB _ _ hS => ?_)
              have hP := xB.at ht hB
              clear hB ht hvm
              obtain ⟨st64, sl65, so66⟩ := x
              obtain ⟨hGst64, hLGst64, hOst64, hw⟩ := hw
              dsimp only at hGst64 hLGst64 hOst64 hw
              have hL : LGq sl sl65 := hL.tr hLGst64
              have hO : OG ad [2, 4] so so66 := hO.tr hOst64 (by decide)
              have hP : va_P (dC, dI) vwCl (xw A C nb st64 sl65 so66) _ := hP
              have hG : XG [1, 2, 3, 4, 5, 6, 7, 12, 13, 14, 15] st st64 := hG.tr hGst64 (by decide)
              have hf67 := hw
              have hsk : SKs ad st so 1 → SKs ad st64 so66 1 := fun hh => hf67 (hsk hh) (fun h9 => absurd h9 (by omega))
              refine lv_iconst (v := 1) hx hb dX7_readCond_86 (by decide) ?_
              refine lv_istore (lv' := [(5, .int 1), (6, .int (nI k7)), (4, .int (nI k9)), (0, .ref (A (20 + 4 * 1))), (1, .ref (A 1)), (2, .ref (A (36 + 20 * 0))), (3, .int 3)]) hx hb dX7_readCond_87 hl (by decide) rfl (fun ls hl => ?_)
              refine lv_aload_n hx hb dX7_readCond_89 rfl (lv_at hl 4 rfl) ?_
              refine va_callv (va_runV (As := []) (rest := []) ⟨hx, hb, hml, hown, hts⟩ (x_X8_step l dC dI ad E hEE A C nb _ hN st64 sl65 so66  hG.1 hO.1) (cwV 0 hts gX7_readCond_X8_step rfl rfl rfl (by decide +kernel) ⟨Nat.le_of_ble_eq_true rfl, Nat.le_of_ble_eq_true rfl⟩) ⟨fun a U g mk q => ⟨q.1, xPre.blind hEE q.2⟩, va_recv hK hP (ci := 9) (q0 := 1) rfl (xw_is (r := 1) (by omega) (xc_fix (r := 1) (by omega))), fun U hU hW => ⟨rfl, xPre.of hEE hP hK hE hS hU hW⟩⟩ rfl rfl hl.1 rfl (lv_room (Nat.le_of_ble_eq_true rfl)) dX7_readCond_90 ⟨Nat.le_of_ble_eq_true rfl, Nat.le_of_ble_eq_true rfl⟩) hS (fun q _ h => XA.le hS.1 q h) (XA.le hS.1) (fun x t H locs ht hvm hw hB _ _ hS => ?_)
              have hP := xB.at ht hB
              clear hB ht hvm
              obtain ⟨st69, sl70, so71⟩ := x
              obtain ⟨hGst69, hLGst69, hOst69, hw⟩ := hw
              dsimp only at hGst69 hLGst69 hOst69 hw
              have hL : LGq sl sl70 := hL.tr hLGst69
              have hO : OG ad [2, 4] so so71 := hO.tr hOst69 (by decide)
              have hP : va_P (dC, dI) vwCl (xw A C nb st69 sl70 so71) _ := hP
              have hG : XG [1, 2, 3, 4, 5, 6, 7, 12, 13, 14, 15] st st69 := hG.tr hGst69 (by decide)
              clear hw
              have hsk : SKs ad st so 1 → SKs ad st69 so71 1 := fun hh => SKs.mg (hsk hh) (by omega) hGst69 hOst69 (by decide) (by decide) (by decide)
              refine lv_aload_n hx hb dX7_readCond_93 rfl (lv_at hl 3 rfl) ?_
              refine lv_aload_n hx hb dX7_readCond_94 rfl (lv_at hl 4 rfl) ?_
              refine lv_aload_n hx hb dX7_readCond_95 rfl (lv_at hl 5 rfl) ?_
              refine lv_iload_n hx hb dX7_readCond_96 rfl (lv_at hl 6 rfl) ?_
              refine va_calli (va_runV (As := [.ref (A 1), .ref (A (36 + 20 * 0)), .int 3]) (rest := []) ⟨hx, hb, hml, hown, hts⟩ (x_readOne_3 l dC dI ad E hEE A C nb _ hN st69 sl70 so71  hG.1 hO.1) (cwV 3 hts gX7_readCond_X7_readOne rfl rfl rfl (by decide +kernel) ⟨Nat.le_of_ble_eq_true rfl, Nat.le_of_ble_eq_true rfl⟩) ⟨fun a U g mk q => ⟨q.1, xPre.blind hEE q.2⟩, va_recv hK hP (ci := 8) (q0 := (20 + 4 * 1)) rfl (xw_is (r := (20 + 4 * 1)) (by omega) (xc_sn (q := 1) (o := 0) (by omega) (by omega))), fun U hU hW => ⟨rfl, xPre.of hEE hP hK hE hS hU hW⟩⟩ rfl rfl hl.1 rfl (lv_room (Nat.le_of_ble_eq_true rfl)) dX7_readCond_97 ⟨Nat.le_of_ble_eq_true rfl, Nat.le_of_ble_eq_true rfl⟩) hS (fun q _ h => XA.le hS.1 q h) (XA.le hS.1) (fun r72 x t H locs ht hvm hw hB _ _ hS => ?_)
              have hP := xB.at ht hB
              clear hB ht hvm
              obtain ⟨st73, sl74, so75⟩ := x
              obtain ⟨hGst73, hLGst73, hOst73, hw⟩ := hw
              dsimp only at hGst73 hLGst73 hOst73 hw
              have hL : LGq sl sl74 := hL.tr hLGst73
              have hO : OG ad [2, 4] so so75 := hO.tr hOst73 (by decide)
              have hP : va_P (dC, dI) vwCl (xw A C nb st73 sl74 so75) _ := hP
              have hG : XG [1, 2, 3, 4, 5, 6, 7, 12, 13, 14, 15] st st73 := hG.tr hGst73 (by decide)
              rcases hw with ⟨rfl, hf76⟩ | ⟨rfl, hf77⟩
              · have hsk : SKs ad st so 1 → SKs ad st73 so75 1 := fun hh => hf76 (hsk hh)
                refine lv_istore (lv' := [(4, .int 1), (5, .int 1), (6, .int (nI k7)), (0, .ref (A (20 + 4 * 1))), (1, .ref (A 1)), (2, .ref (A (36 + 20 * 0))), (3, .int 3)]) hx hb dX7_readCond_100 hl (by decide) rfl (fun ls hl => ?_)
                refine lv_iinc (v := (nI (k7 + 1))) (lv' := [(6, .int (nI (k7 + 1))), (4, .int 1), (5, .int 1), (0, .ref (A (20 + 4 * 1))), (1, .ref (A 1)), (2, .ref (A (36 + 20 * 0))), (3, .int 3)]) hx hb dX7_readCond_102 hl (k := 2) rfl (nI_add k7 1) (by decide) rfl (fun ls hl => ?_)
                refine lv_goto (tgt := 15) hx hb dX7_readCond_105 (by decide) ?_
                exact ih21 (21 - (k7 + 1)) _ _ _ _ (by omega) ⟨(k7 + 1), 1, 1, st73, sl74, so75, rfl, by omega, by omega, by omega, by omega, by omega, by omega, fun _ => hsk, fun h9 => absurd h9 (by omega), hP, hG, hO, hL, hS, lv_sub hl [0, 2, 1, 3, 4, 5, 6] rfl, rfl⟩
              · refine lv_istore (lv' := [(4, .int 0), (5, .int 1), (6, .int (nI k7)), (0, .ref (A (20 + 4 * 1))), (1, .ref (A 1)), (2, .ref (A (36 + 20 * 0))), (3, .int 3)]) hx hb dX7_readCond_100 hl (by decide) rfl (fun ls hl => ?_)
                refine lv_iinc (v := (nI (k7 + 1))) (lv' := [(6, .int (nI (k7 + 1))), (4, .int 0), (5, .int 1), (0, .ref (A (20 + 4 * 1))), (1, .ref (A 1)), (2, .ref (A (36 + 20 * 0))), (3, .int 3)]) hx hb dX7_readCond_102 hl (k := 2) rfl (nI_add k7 1) (by decide) rfl (fun ls hl => ?_)
                refine lv_goto (tgt := 15) hx hb dX7_readCond_105 (by decide) ?_
                exact ih21 (21 - (k7 + 1)) _ _ _ _ (by omega) ⟨(k7 + 1), 1, 0, st73, sl74, so75, rfl, by omega, by omega, by omega, by omega, by omega, by omega, fun h9 => absurd h9 (by omega), fun _ => by show ¬ st73 1 13 = 0; exact hf77, hP, hG, hO, hL, hS, lv_sub hl [0, 2, 1, 3, 4, 5, 6] rfl, rfl⟩
        · have c19 : j42 = 14 := (EV.eqw hEv (i := j42) (j := 14) (by omega) (by omega)).mp c19
          refine lv_aload_n hx hb dX7_readCond_37 rfl (lv_at hl 4 rfl) ?_
          refine va_callv (va_runV (As := []) (rest := []) ⟨hx, hb, hml, hown, hts⟩ (x_X8_step l dC dI ad E hEE A C nb _ hN st10 sl11 so12  hG.1 hO.1) (cwV 0 hts gX7_readCond_X8_step rfl rfl rfl (by decide +kernel) ⟨Nat.le_of_ble_eq_true rfl, Nat.le_of_ble_eq_true rfl⟩) ⟨fun a U g mk q => ⟨q.1, xPre.blind hEE q.2⟩, va_recv hK hP (ci := 9) (q0 := 1) rfl (xw_is (r := 1) (by omega) (xc_fix (r := 1) (by omega))), fun U hU hW => ⟨rfl, xPre.of hEE hP hK hE hS hU hW⟩⟩ rfl rfl hl.1 rfl (lv_room (Nat.le_of_ble_eq_true rfl)) dX7_readCond_38 ⟨Nat.le_of_ble_eq_true rfl, Nat.le_of_ble_eq_true rfl⟩) hS (fun q _ h => XA.le hS.1 q h) (XA.le hS.1) (fun x t H locs ht hvm hw hB _ _ hS => ?_)
          have hP := xB.at ht hB
          clear hB ht hvm
          obtain ⟨st79, sl80, so81⟩ := x
          obtain ⟨hGst79, hLGst79, hOst79, hw⟩ := hw
          dsimp only at hGst79 hLGst79 hOst79 hw
          have hL : LGq sl sl80 := hL.tr hLGst79
          have hO : OG ad [2, 4] so so81 := hO.tr hOst79 (by decide)
          have hP : va_P (dC, dI) vwCl (xw A C nb st79 sl80 so81) _ := hP
          have hG : XG [1, 2, 3, 4, 5, 6, 7, 12, 13, 14, 15] st st79 := hG.tr hGst79 (by decide)
          clear hw
          have hsk : SKs ad st so 1 → SKs ad st79 so81 1 := fun hh => SKs.mg (hsk hh) (by omega) hGst79 hOst79 (by decide) (by decide) (by decide)
          refine lv_aload_n hx hb dX7_readCond_41 rfl (lv_at hl 3 rfl) ?_
          refine lv_aload_n hx hb dX7_readCond_42 rfl (lv_at hl 4 rfl) ?_
          refine lv_aload_n hx hb dX7_readCond_43 rfl (lv_at hl 5 rfl) ?_
          refine lv_iload_n hx hb dX7_readCond_44 rfl (lv_at hl 6 rfl) ?_
          refine va_calli (va_runV (As := [.ref (A 1), .ref (A (36 + 20 * 0)), .int 3]) (rest := []) ⟨hx, hb, hml, hown, hts⟩ (x_readOne_3 l dC dI ad E hEE A C nb _ hN st79 sl80 so81  hG.1 hO.1) (cwV 3 hts gX7_readCond_X7_readOne rfl rfl rfl (by decide +kernel) ⟨Nat.le_of_ble_eq_true rfl, Nat.le_of_ble_eq_true rfl⟩) ⟨fun a U g mk q => ⟨q.1, xPre.blind hEE q.2⟩, va_recv hK hP (ci := 8) (q0 := (20 + 4 * 1)) rfl (xw_is (r := (20 + 4 * 1)) (by omega) (xc_sn (q := 1) (o := 0) (by omega) (by omega))), fun U hU hW => ⟨rfl, xPre.of hEE hP hK hE hS hU hW⟩⟩ rfl rfl hl.1 rfl (lv_room (Nat.le_of_ble_eq_true rfl)) dX7_readCond_45 ⟨Nat.le_of_ble_eq_true rfl, Nat.le_of_ble_eq_true rfl⟩) hS (fun q _ h => XA.le hS.1 q h) (XA.le hS.1) (fun r82 x t H locs ht hvm hw hB _ _ hS => ?_)
          have hP := xB.at ht hB
          clear hB ht hvm
          obtain ⟨st83, sl84, so85⟩ := x
          obtain ⟨hGst83, hLGst83, hOst83, hw⟩ := hw
          dsimp only at hGst83 hLGst83 hOst83 hw
          have hL : LGq sl sl84 := hL.tr hLGst83
          have hO : OG ad [2, 4] so so85 := hO.tr hOst83 (by decide)
          have hP : va_P (dC, dI) vwCl (xw A C nb st83 sl84 so85) _ := hP
          have hG : XG [1, 2, 3, 4, 5, 6, 7, 12, 13, 14, 15] st st83 := hG.tr hGst83 (by decide)
          rcases hw with ⟨rfl, hf86⟩ | ⟨rfl, hf87⟩
          · have hsk : SKs ad st so 1 → SKs ad st83 so85 1 := fun hh => hf86 (hsk hh)
            refine lv_istore (lv' := [(4, .int 1), (6, .int (nI k7)), (5, .int (nI k8)), (0, .ref (A (20 + 4 * 1))), (1, .ref (A 1)), (2, .ref (A (36 + 20 * 0))), (3, .int 3)]) hx hb dX7_readCond_48 hl (by decide) rfl (fun ls hl => ?_)
            refine lv_aload_n hx hb dX7_readCond_50 rfl (lv_at hl 3 rfl) ?_
            refine va_gets (v := .ref (ad 14)) hx hb (EV.word hEv (i := 14) (by decide)) hS hown (hts _ mm_X7_readCond_1) (fun _ hh => hh) dX7_readCond_51 ?_
            refine lv_iconst (v := 0) hx hb dX7_readCond_54 (by decide) ?_
            refine lv_iconst (v := 0) hx hb dX7_readCond_55 (by decide) ?_
            refine va_callv (va_runV (As := [.ref (ad 14), .int 0, .int 0]) (rest := []) ⟨hx, hb, hml, hown, hts⟩ (x_X7_add l dC dI ad E hEE A C nb _ hN st83 sl84 so85 14 0 0 (by omega) hG.1 hO.1) (cwV 3 hts gX7_readCond_X7_add rfl rfl rfl (by decide +kernel) ⟨Nat.le_of_ble_eq_true rfl, Nat.le_of_ble_eq_true rfl⟩) ⟨fun a U g mk q => ⟨q.1, xPre.blind hEE q.2⟩, va_recv hK hP (ci := 8) (q0 := (20 + 4 * 1)) rfl (xw_is (r := (20 + 4 * 1)) (by omega) (xc_sn (q := 1) (o := 0) (by omega) (by omega))), fun U hU hW => ⟨rfl, xPre.of hEE hP hK hE hS hU hW⟩⟩ rfl rfl hl.1 rfl (lv_room (Nat.le_of_ble_eq_true rfl)) dX7_readCond_56 ⟨Nat.le_of_ble_eq_true rfl, Nat.le_of_ble_eq_true rfl⟩) hS (fun q _ h => XA.le hS.1 q h) (XA.le hS.1) (fun x t H locs ht hvm hw hB _ _ hS => ?_)
            have hP := xB.at ht hB
            clear hB ht hvm
            obtain ⟨st89, sl90, so91⟩ := x
            obtain ⟨hGst89, hLGst89, hOst89, hw⟩ := hw
            dsimp only at hGst89 hLGst89 hOst89 hw
            have hL : LGq sl sl90 := hL.tr hLGst89
            have hO : OG ad [2, 4] so so91 := hO.tr hOst89 (by decide)
            have hP : va_P (dC, dI) vwCl (xw A C nb st89 sl90 so91) _ := hP
            have hG : XG [1, 2, 3, 4, 5, 6, 7, 12, 13, 14, 15] st st89 := hG.tr hGst89 (by decide)
            have hf92 := hw
            have hsk : SKs ad st so 1 → SKs ad st89 so91 1 := fun hh => hf92 (hsk hh) (fun h9 => absurd h9 (by omega))
            refine lv_goto (tgt := 102) hx hb dX7_readCond_59 (by decide) ?_
            refine lv_iinc (v := (nI (k7 + 1))) (lv' := [(6, .int (nI (k7 + 1))), (4, .int 1), (5, .int (nI k8)), (0, .ref (A (20 + 4 * 1))), (1, .ref (A 1)), (2, .ref (A (36 + 20 * 0))), (3, .int 3)]) hx hb dX7_readCond_102 hl (k := 1) rfl (nI_add k7 1) (by decide) rfl (fun ls hl => ?_)
            refine lv_goto (tgt := 15) hx hb dX7_readCond_105 (by decide) ?_
            exact ih21 (21 - (k7 + 1)) _ _ _ _ (by omega) ⟨(k7 + 1), k8, 1, st89, sl90, so91, rfl, by omega, by omega, by omega, by omega, by omega, by omega, fun _ => hsk, fun h9 => absurd h9 (by omega), hP, hG, hO, hL, hS, lv_sub hl [0, 2, 1, 3, 4, 5, 6] rfl, rfl⟩
          · refine lv_istore (lv' := [(4, .int 0), (6, .int (nI k7)), (5, .int (nI k8)), (0, .ref (A (20 + 4 * 1))), (1, .ref (A 1)), (2, .ref (A (36 + 20 * 0))), (3, .int 3)]) hx hb dX7_readCond_48 hl (by decide) rfl (fun ls hl => ?_)
            refine lv_aload_n hx hb dX7_readCond_50 rfl (lv_at hl 3 rfl) ?_
            refine va_gets (v := .ref (ad 14)) hx hb (EV.word hEv (i := 14) (by decide)) hS hown (hts _ mm_X7_readCond_1) (fun _ hh => hh) dX7_readCond_51 ?_
            refine lv_iconst (v := 0) hx hb dX7_readCond_54 (by decide) ?_
            refine lv_iconst (v := 0) hx hb dX7_readCond_55 (by decide) ?_
            refine va_callv (va_runV (As := [.ref (ad 14), .int 0, .int 0]) (rest := []) ⟨hx, hb, hml, hown, hts⟩ (x_X7_add l dC dI ad E hEE A C nb _ hN st83 sl84 so85 14 0 0 (by omega) hG.1 hO.1) (cwV 3 hts gX7_readCond_X7_add rfl rfl rfl (by decide +kernel) ⟨Nat.le_of_ble_eq_true rfl, Nat.le_of_ble_eq_true rfl⟩) ⟨fun a U g mk q => ⟨q.1, xPre.blind hEE q.2⟩, va_recv hK hP (ci := 8) (q0 := (20 + 4 * 1)) rfl (xw_is (r := (20 + 4 * 1)) (by omega) (xc_sn (q := 1) (o := 0) (by omega) (by omega))), fun U hU hW => ⟨rfl, xPre.of hEE hP hK hE hS hU hW⟩⟩ rfl rfl hl.1 rfl (lv_room (Nat.le_of_ble_eq_true rfl)) dX7_readCond_56 ⟨Nat.le_of_ble_eq_true rfl, Nat.le_of_ble_eq_true rfl⟩) hS (fun q _ h => XA.le hS.1 q h) (XA.le hS.1) (fun x t H locs ht hvm hw hB _ _ hS => ?_)
            have hP := xB.at ht hB
            clear hB ht hvm
            obtain ⟨st94, sl95, so96⟩ := x
            obtain ⟨hGst94, hLGst94, hOst94, hw⟩ := hw
            dsimp only at hGst94 hLGst94 hOst94 hw
            have hL : LGq sl sl95 := hL.tr hLGst94
            have hO : OG ad [2, 4] so so96 := hO.tr hOst94 (by decide)
            have hP : va_P (dC, dI) vwCl (xw A C nb st94 sl95 so96) _ := hP
            have hG : XG [1, 2, 3, 4, 5, 6, 7, 12, 13, 14, 15] st st94 := hG.tr hGst94 (by decide)
            have hf97 := hw
            refine lv_goto (tgt := 102) hx hb dX7_readCond_59 (by decide) ?_
            refine lv_iinc (v := (nI (k7 + 1))) (lv' := [(6, .int (nI (k7 + 1))), (4, .int 0), (5, .int (nI k8)), (0, .ref (A (20 + 4 * 1))), (1, .ref (A 1)), (2, .ref (A (36 + 20 * 0))), (3, .int 3)]) hx hb dX7_readCond_102 hl (k := 1) rfl (nI_add k7 1) (by decide) rfl (fun ls hl => ?_)
            refine lv_goto (tgt := 15) hx hb dX7_readCond_105 (by decide) ?_
            exact ih21 (21 - (k7 + 1)) _ _ _ _ (by omega) ⟨(k7 + 1), k8, 0, st94, sl95, so96, rfl, by omega, by omega, by omega, by omega, by omega, by omega, fun h9 => absurd h9 (by omega), fun _ => by show ¬ st94 1 13 = 0; rw [hGst94.2 1 13 (by rw [(by decide : xcl 1 13 = 10)]; decide)]; exact hf87, hP, hG, hO, hL, hS, lv_sub hl [0, 2, 1, 3, 4, 5, 6] rfl, rfl⟩
  · refine lv_istore (lv' := [(4, .int 0), (0, .ref (A (20 + 4 * 1))), (1, .ref (A 1)), (2, .ref (A (36 + 20 * 0))), (3, .int 3)]) hx hb dX7_readCond_7 hl (by decide) rfl (fun ls hl => ?_)
    refine lv_iconst (v := 0) hx hb dX7_readCond_9 (by decide) ?_
    refine lv_istore (lv' := [(5, .int 0), (4, .int 0), (0, .ref (A (20 + 4 * 1))), (1, .ref (A 1)), (2, .ref (A (36 + 20 * 0))), (3, .int 3)]) hx hb dX7_readCond_10 hl (by decide) rfl (fun ls hl => ?_)
    refine lv_iconst (v := 0) hx hb dX7_readCond_12 (by decide) ?_
    refine lv_istore (lv' := [(6, .int 0), (5, .int 0), (4, .int 0), (0, .ref (A (20 + 4 * 1))), (1, .ref (A 1)), (2, .ref (A (36 + 20 * 0))), (3, .int 3)]) hx hb dX7_readCond_13 hl (by decide) rfl (fun ls hl => ?_)
    refine zz_wf (fun n stk H locs ls => ∃ k98 : Nat, ∃ k99 : Nat, ∃ k100 : Nat, ∃ st101 : Nat → Nat → Int32, ∃ sl102 : Nat → Nat → Int64, ∃ so103 : Nat → XR, n = 21 - k98 ∧ 0 ≤ k98 ∧ k98 < 21 ∧ 0 ≤ k99 ∧ k99 < 2 ∧ 0 ≤ k100 ∧ k100 < 2 ∧ ((k100 = 1 → SKs ad st so 1 → SKs ad st101 so103 1)) ∧ ((k100 = 0 → ¬ st101 1 13 = 0)) ∧ va_P (dC, dI) vwCl (xw A C nb st101 sl102 so103) H ∧ XG [1, 2, 3, 4, 5, 6, 7, 12, 13, 14, 15] st st101 ∧ OG ad [2, 4] so so103 ∧ LGq sl sl102 ∧ va_S (XA A s.heap.size) s.heap H locs ∧ lv_has ls 7 [(6, .int (nI k98)), (5, .int (nI k99)), (4, .int (nI k100)), (0, .ref (A (20 + 4 * 1))), (1, .ref (A 1)), (2, .ref (A (36 + 20 * 0))), (3, .int 3)] ∧ stk = []) ?_ (21 - 0) _ _ _ _ ⟨0, 0, 0, st2, sl3, so4, rfl, by omega, by omega, by omega, by omega, by omega, by omega, fun h9 => absurd h9 (by omega), fun _ => by show ¬ st2 1 13 = 0; exact hf6, hP, hG, hO, hL, hS, lv_sub hl [0, 1, 2, 3, 4, 5, 6] rfl, rfl⟩
    rintro nn stk H locs ls ⟨k98, k99, k100, st101, sl102, so103, hm111, hv104_0, hv105_1, hv106_2, hv107_3, hv108_4, hv109_5, hv110_0, hv111_1, hP, hG, hO, hL, hS, hl, rfl⟩ ih112
    refine lv_iload hx hb dX7_readCond_15 (lv_at hl 0 rfl) ?_
    refine lv_bipush (v := 20) hx hb dX7_readCond_17 (by decide) ?_
    refine lv_icmp_ge (tgt := 108) hx hb dX7_readCond_19 (by decide) (fun c30 => ?_) (fun c30 => ?_)
    · have c30 : 20 ≤ k98 := (nI_leI (a := 20) (b := k98) (by omega) (by omega)).mp c30
      by_cases cg : k100 = 1
      · have hsk : SKs ad st so 1 → SKs ad st101 so103 1 := hv110_0 cg
        have hl : lv_has ls 7 [(6, .int (nI k98)), (5, .int (nI k99)), (4, .int 1), (0, .ref (A (20 + 4 * 1))), (1, .ref (A 1)), (2, .ref (A (36 + 20 * 0))), (3, .int 3)] := by rw [cg] at hl; exact hl
        refine lv_iload hx hb dX7_readCond_108 (lv_at hl 1 rfl) ?_
        refine lv_if_eq (tgt := 122) hx hb dX7_readCond_110 (by decide) (fun c31 => ?_) (fun c31 => ?_)
        · have c31 : k99 = 0 := (nI_eq (a := k99) (b := 0) (by omega) (by omega)).mp c31
          refine lv_iload hx hb dX7_readCond_122 (lv_at hl 2 rfl) ?_
          refine lv_if_eq (tgt := 146) hx hb dX7_readCond_124 (by decide) (fun cc => absurd cc (by decide)) (fun _ => ?_)
          refine lv_iload_n hx hb dX7_readCond_127 rfl (lv_at hl 6 rfl) ?_
          refine lv_iconst (v := 1) hx hb dX7_readCond_128 (by decide) ?_
          refine lv_icmp_ne (tgt := 146) hx hb dX7_readCond_129 (by decide) (fun _ => ?_) (fun cc => absurd cc (by decide))
          refine lv_iload hx hb dX7_readCond_146 (lv_at hl 2 rfl) ?_
          exact W.zret (v := 1) hx hb hr rfl (fun t ht hW => ⟨⟨1, (st101, sl102, so103), rfl, ⟨hG, hL, hO, Or.inl ⟨rfl, hsk⟩⟩, xB.of ht hP⟩, hS.F ht⟩) hS.2.2 dX7_readCond_148
        · have c31 : ¬ k99 = 0 := fun hh => c31 ((nI_eq (a := k99) (b := 0) (by omega) (by omega)).mpr hh)
          refine lv_aload_n hx hb dX7_readCond_113 rfl (lv_at hl 3 rfl) ?_
          refine va_gets (v := .ref (ad 13)) hx hb (EV.word hEv (i := 13) (by decide)) hS hown (hts _ mm_X7_readCond_2) (fun _ hh => hh) dX7_readCond_114 ?_
          refine lv_iconst (v := 0) hx hb dX7_readCond_117 (by decide) ?_
          refine lv_iconst (v := 0) hx hb dX7_readCond_118 (by decide) ?_
          refine va_callv (va_runV (As := [.ref (ad 13), .int 0, .int 0]) (rest := []) ⟨hx, hb, hml, hown, hts⟩ (x_X7_add l dC dI ad E hEE A C nb _ hN st101 sl102 so103 13 0 0 (by omega) hG.1 hO.1) (cwV 3 hts gX7_readCond_X7_add rfl rfl rfl (by decide +kernel) ⟨Nat.le_of_ble_eq_true rfl, Nat.le_of_ble_eq_true rfl⟩) ⟨fun a U g mk q => ⟨q.1, xPre.blind hEE q.2⟩, va_recv hK hP (ci := 8) (q0 := (20 + 4 * 1)) rfl (xw_is (r := (20 + 4 * 1)) (by omega) (xc_sn (q := 1) (o := 0) (by omega) (by omega))), fun U hU hW => ⟨rfl, xPre.of hEE hP hK hE hS hU hW⟩⟩ rfl rfl hl.1 rfl (lv_room (Nat.le_of_ble_eq_true rfl)) dX7_readCond_119 ⟨Nat.le_of_ble_eq_true rfl, Nat.le_of_ble_eq_true rfl⟩) hS (fun q _ h => XA.le hS.1 q h) (XA.le hS.1) (fun x t H locs ht hvm hw hB _ _ hS => ?_)
          have hP := xB.at ht hB
          clear hB ht hvm
          obtain ⟨st114, sl115, so116⟩ := x
          obtain ⟨hGst114, hLGst114, hOst114, hw⟩ := hw
          dsimp only at hGst114 hLGst114 hOst114 hw
          have hL : LGq sl sl115 := hL.tr hLGst114
          have hO : OG ad [2, 4] so so116 := hO.tr hOst114 (by decide)
          have hP : va_P (dC, dI) vwCl (xw A C nb st114 sl115 so116) _ := hP
          have hG : XG [1, 2, 3, 4, 5, 6, 7, 12, 13, 14, 15] st st114 := hG.tr hGst114 (by decide)
          have hf117 := hw
          have hsk : SKs ad st so 1 → SKs ad st114 so116 1 := fun hh => hf117 (hsk hh) (fun h9 => absurd h9 (by omega))
          refine lv_iload hx hb dX7_readCond_122 (lv_at hl 2 rfl) ?_
          refine lv_if_eq (tgt := 146) hx hb dX7_readCond_124 (by decide) (fun cc => absurd cc (by decide)) (fun _ => ?_)
          refine lv_iload_n hx hb dX7_readCond_127 rfl (lv_at hl 6 rfl) ?_
          refine lv_iconst (v := 1) hx hb dX7_readCond_128 (by decide) ?_
          refine lv_icmp_ne (tgt := 146) hx hb dX7_readCond_129 (by decide) (fun _ => ?_) (fun cc => absurd cc (by decide))
          refine lv_iload hx hb dX7_readCond_146 (lv_at hl 2 rfl) ?_
          exact W.zret (v := 1) hx hb hr rfl (fun t ht hW => ⟨⟨1, (st114, sl115, so116), rfl, ⟨hG, hL, hO, Or.inl ⟨rfl, hsk⟩⟩, xB.of ht hP⟩, hS.F ht⟩) hS.2.2 dX7_readCond_148
      · have cg : k100 = 0 := by omega
        have hfa : ¬ st101 1 13 = 0 := hv111_1 cg
        have hl : lv_has ls 7 [(6, .int (nI k98)), (5, .int (nI k99)), (4, .int 0), (0, .ref (A (20 + 4 * 1))), (1, .ref (A 1)), (2, .ref (A (36 + 20 * 0))), (3, .int 3)] := by rw [cg] at hl; exact hl
        refine lv_iload hx hb dX7_readCond_108 (lv_at hl 1 rfl) ?_
        refine lv_if_eq (tgt := 122) hx hb dX7_readCond_110 (by decide) (fun c36 => ?_) (fun c36 => ?_)
        · have c36 : k99 = 0 := (nI_eq (a := k99) (b := 0) (by omega) (by omega)).mp c36
          refine lv_iload hx hb dX7_readCond_122 (lv_at hl 2 rfl) ?_
          refine lv_if_eq (tgt := 146) hx hb dX7_readCond_124 (by decide) (fun _ => ?_) (fun cc => absurd (by decide) cc)
          refine lv_iload hx hb dX7_readCond_146 (lv_at hl 2 rfl) ?_
          exact W.zret (v := 0) hx hb hr rfl (fun t ht hW => ⟨⟨0, (st101, sl102, so103), rfl, ⟨hG, hL, hO, Or.inr (⟨rfl, by show ¬ st101 1 13 = 0; exact hfa⟩)⟩, xB.of ht hP⟩, hS.F ht⟩) hS.2.2 dX7_readCond_148
        · have c36 : ¬ k99 = 0 := fun hh => c36 ((nI_eq (a := k99) (b := 0) (by omega) (by omega)).mpr hh)
          refine lv_aload_n hx hb dX7_readCond_113 rfl (lv_at hl 3 rfl) ?_
          refine va_gets (v := .ref (ad 13)) hx hb (EV.word hEv (i := 13) (by decide)) hS hown (hts _ mm_X7_readCond_2) (fun _ hh => hh) dX7_readCond_114 ?_
          refine lv_iconst (v := 0) hx hb dX7_readCond_117 (by decide) ?_
          refine lv_iconst (v := 0) hx hb dX7_readCond_118 (by decide) ?_
          refine va_callv (va_runV (As := [.ref (ad 13), .int 0, .int 0]) (rest := []) ⟨hx, hb, hml, hown, hts⟩ (x_X7_add l dC dI ad E hEE A C nb _ hN st101 sl102 so103 13 0 0 (by omega) hG.1 hO.1) (cwV 3 hts gX7_readCond_X7_add rfl rfl rfl (by decide +kernel) ⟨Nat.le_of_ble_eq_true rfl, Nat.le_of_ble_eq_true rfl⟩) ⟨fun a U g mk q => ⟨q.1, xPre.blind hEE q.2⟩, va_recv hK hP (ci := 8) (q0 := (20 + 4 * 1)) rfl (xw_is (r := (20 + 4 * 1)) (by omega) (xc_sn (q := 1) (o := 0) (by omega) (by omega))), fun U hU hW => ⟨rfl, xPre.of hEE hP hK hE hS hU hW⟩⟩ rfl rfl hl.1 rfl (lv_room (Nat.le_of_ble_eq_true rfl)) dX7_readCond_119 ⟨Nat.le_of_ble_eq_true rfl, Nat.le_of_ble_eq_true rfl⟩) hS (fun q _ h => XA.le hS.1 q h) (XA.le hS.1) (fun x t H locs ht hvm hw hB _ _ hS => ?_)
          have hP := xB.at ht hB
          clear hB ht hvm
          obtain ⟨st119, sl120, so121⟩ := x
          obtain ⟨hGst119, hLGst119, hOst119, hw⟩ := hw
          dsimp only at hGst119 hLGst119 hOst119 hw
          have hL : LGq sl sl120 := hL.tr hLGst119
          have hO : OG ad [2, 4] so so121 := hO.tr hOst119 (by decide)
          have hP : va_P (dC, dI) vwCl (xw A C nb st119 sl120 so121) _ := hP
          have hG : XG [1, 2, 3, 4, 5, 6, 7, 12, 13, 14, 15] st st119 := hG.tr hGst119 (by decide)
          have hf122 := hw
          refine lv_iload hx hb dX7_readCond_122 (lv_at hl 2 rfl) ?_
          refine lv_if_eq (tgt := 146) hx hb dX7_readCond_124 (by decide) (fun _ => ?_) (fun cc => absurd (by decide) cc)
          refine lv_iload hx hb dX7_readCond_146 (lv_at hl 2 rfl) ?_
          exact W.zret (v := 0) hx hb hr rfl (fun t ht hW => ⟨⟨0, (st119, sl120, so121), rfl, ⟨hG, hL, hO, Or.inr (⟨rfl, by show ¬ st119 1 13 = 0; rw [hGst119.2 1 13 (by rw [(by decide : xcl 1 13 = 10)]; decide)]; exact hfa⟩)⟩, xB.of ht hP⟩, hS.F ht⟩) hS.2.2 dX7_readCond_148
    · have c30 : ¬ 20 ≤ k98 := fun hh => c30 ((nI_leI (a := 20) (b := k98) (by omega) (by omega)).mpr hh)
      refine lv_iload hx hb dX7_readCond_22 (lv_at hl 2 rfl) ?_
      refine lv_if_eq (tgt := 108) hx hb dX7_readCond_24 (by decide) (fun c39 => ?_) (fun c39 => ?_)
      · have c39 : k100 = 0 := (nI_eq (a := k100) (b := 0) (by omega) (by omega)).mp c39
        by_cases cg : k100 = 1
        · have hsk : SKs ad st so 1 → SKs ad st101 so103 1 := hv110_0 cg
          have hl : lv_has ls 7 [(6, .int (nI k98)), (5, .int (nI k99)), (4, .int 1), (0, .ref (A (20 + 4 * 1))), (1, .ref (A 1)), (2, .ref (A (36 + 20 * 0))), (3, .int 3)] := by rw [cg] at hl; exact hl
          refine lv_iload hx hb dX7_readCond_108 (lv_at hl 1 rfl) ?_
          refine lv_if_eq (tgt := 122) hx hb dX7_readCond_110 (by decide) (fun c40 => ?_) (fun c40 => ?_)
          · have c40 : k99 = 0 := (nI_eq (a := k99) (b := 0) (by omega) (by omega)).mp c40
            refine lv_iload hx hb dX7_readCond_122 (lv_at hl 2 rfl) ?_
            refine lv_if_eq (tgt := 146) hx hb dX7_readCond_124 (by decide) (fun cc => absurd cc (by decide)) (fun _ => ?_)
            refine lv_iload_n hx hb dX7_readCond_127 rfl (lv_at hl 6 rfl) ?_
            refine lv_iconst (v := 1) hx hb dX7_readCond_128 (by decide) ?_
            refine lv_icmp_ne (tgt := 146) hx hb dX7_readCond_129 (by decide) (fun _ => ?_) (fun cc => absurd cc (by decide))
            refine lv_iload hx hb dX7_readCond_146 (lv_at hl 2 rfl) ?_
            exact W.zret (v := 1) hx hb hr rfl (fun t ht hW => ⟨⟨1, (st101, sl102, so103), rfl, ⟨hG, hL, hO, Or.inl ⟨rfl, hsk⟩⟩, xB.of ht hP⟩, hS.F ht⟩) hS.2.2 dX7_readCond_148
          · have c40 : ¬ k99 = 0 := fun hh => c40 ((nI_eq (a := k99) (b := 0) (by omega) (by omega)).mpr hh)
            refine lv_aload_n hx hb dX7_readCond_113 rfl (lv_at hl 3 rfl) ?_
            refine va_gets (v := .ref (ad 13)) hx hb (EV.word hEv (i := 13) (by decide)) hS hown (hts _ mm_X7_readCond_2) (fun _ hh => hh) dX7_readCond_114 ?_
            refine lv_iconst (v := 0) hx hb dX7_readCond_117 (by decide) ?_
            refine lv_iconst (v := 0) hx hb dX7_readCond_118 (by decide) ?_
            refine va_callv (va_runV (As := [.ref (ad 13), .int 0, .int 0]) (rest := []) ⟨hx, hb, hml, hown, hts⟩ (x_X7_add l dC dI ad E hEE A C nb _ hN st101 sl102 so103 13 0 0 (by omega) hG.1 hO.1) (cwV 3 hts gX7_readCond_X7_add rfl rfl rfl (by decide +kernel) ⟨Nat.le_of_ble_eq_true rfl, Nat.le_of_ble_eq_true rfl⟩) ⟨fun a U g mk q => ⟨q.1, xPre.blind hEE q.2⟩, va_recv hK hP (ci := 8) (q0 := (20 + 4 * 1)) rfl (xw_is (r := (20 + 4 * 1)) (by omega) (xc_sn (q := 1) (o := 0) (by omega) (by omega))), fun U hU hW => ⟨rfl, xPre.of hEE hP hK hE hS hU hW⟩⟩ rfl rfl hl.1 rfl (lv_room (Nat.le_of_ble_eq_true rfl)) dX7_readCond_119 ⟨Nat.le_of_ble_eq_true rfl, Nat.le_of_ble_eq_true rfl⟩) hS (fun q _ h => XA.le hS.1 q h) (XA.le hS.1) (fun x t H locs ht hvm hw hB _ _ hS => ?_)
            have hP := xB.at ht hB
            clear hB ht hvm
            obtain ⟨st124, sl125, so126⟩ := x
            obtain ⟨hGst124, hLGst124, hOst124, hw⟩ := hw
            dsimp only at hGst124 hLGst124 hOst124 hw
            have hL : LGq sl sl125 := hL.tr hLGst124
            have hO : OG ad [2, 4] so so126 := hO.tr hOst124 (by decide)
            have hP : va_P (dC, dI) vwCl (xw A C nb st124 sl125 so126) _ := hP
            have hG : XG [1, 2, 3, 4, 5, 6, 7, 12, 13, 14, 15] st st124 := hG.tr hGst124 (by decide)
            have hf127 := hw
            have hsk : SKs ad st so 1 → SKs ad st124 so126 1 := fun hh => hf127 (hsk hh) (fun h9 => absurd h9 (by omega))
            refine lv_iload hx hb dX7_readCond_122 (lv_at hl 2 rfl) ?_
            refine lv_if_eq (tgt := 146) hx hb dX7_readCond_124 (by decide) (fun cc => absurd cc (by decide)) (fun _ => ?_)
            refine lv_iload_n hx hb dX7_readCond_127 rfl (lv_at hl 6 rfl) ?_
            refine lv_iconst (v := 1) hx hb dX7_readCond_128 (by decide) ?_
            refine lv_icmp_ne (tgt := 146) hx hb dX7_readCond_129 (by decide) (fun _ => ?_) (fun cc => absurd cc (by decide))
            refine lv_iload hx hb dX7_readCond_146 (lv_at hl 2 rfl) ?_
            exact W.zret (v := 1) hx hb hr rfl (fun t ht hW => ⟨⟨1, (st124, sl125, so126), rfl, ⟨hG, hL, hO, Or.inl ⟨rfl, hsk⟩⟩, xB.of ht hP⟩, hS.F ht⟩) hS.2.2 dX7_readCond_148
        · have cg : k100 = 0 := by omega
          have hfa : ¬ st101 1 13 = 0 := hv111_1 cg
          have hl : lv_has ls 7 [(6, .int (nI k98)), (5, .int (nI k99)), (4, .int 0), (0, .ref (A (20 + 4 * 1))), (1, .ref (A 1)), (2, .ref (A (36 + 20 * 0))), (3, .int 3)] := by rw [cg] at hl; exact hl
          refine lv_iload hx hb dX7_readCond_108 (lv_at hl 1 rfl) ?_
          refine lv_if_eq (tgt := 122) hx hb dX7_readCond_110 (by decide) (fun c45 => ?_) (fun c45 => ?_)
          · have c45 : k99 = 0 := (nI_eq (a := k99) (b := 0) (by omega) (by omega)).mp c45
            refine lv_iload hx hb dX7_readCond_122 (lv_at hl 2 rfl) ?_
            refine lv_if_eq (tgt := 146) hx hb dX7_readCond_124 (by decide) (fun _ => ?_) (fun cc => absurd (by decide) cc)
            refine lv_iload hx hb dX7_readCond_146 (lv_at hl 2 rfl) ?_
            exact W.zret (v := 0) hx hb hr rfl (fun t ht hW => ⟨⟨0, (st101, sl102, so103), rfl, ⟨hG, hL, hO, Or.inr (⟨rfl, by show ¬ st101 1 13 = 0; exact hfa⟩)⟩, xB.of ht hP⟩, hS.F ht⟩) hS.2.2 dX7_readCond_148
          · have c45 : ¬ k99 = 0 := fun hh => c45 ((nI_eq (a := k99) (b := 0) (by omega) (by omega)).mpr hh)
            refine lv_aload_n hx hb dX7_readCond_113 rfl (lv_at hl 3 rfl) ?_
            refine va_gets (v := .ref (ad 13)) hx hb (EV.word hEv (i := 13) (by decide)) hS hown (hts _ mm_X7_readCond_2) (fun _ hh => hh) dX7_readCond_114 ?_
            refine lv_iconst (v := 0) hx hb dX7_readCond_117 (by decide) ?_
            refine lv_iconst (v := 0) hx hb dX7_readCond_118 (by decide) ?_
            refine va_callv (va_runV (As := [.ref (ad 13), .int 0, .int 0]) (rest := []) ⟨hx, hb, hml, hown, hts⟩ (x_X7_add l dC dI ad E hEE A C nb _ hN st101 sl102 so103 13 0 0 (by omega) hG.1 hO.1) (cwV 3 hts gX7_readCond_X7_add rfl rfl rfl (by decide +kernel) ⟨Nat.le_of_ble_eq_true rfl, Nat.le_of_ble_eq_true rfl⟩) ⟨fun a U g mk q => ⟨q.1, xPre.blind hEE q.2⟩, va_recv hK hP (ci := 8) (q0 := (20 + 4 * 1)) rfl (xw_is (r := (20 + 4 * 1)) (by omega) (xc_sn (q := 1) (o := 0) (by omega) (by omega))), fun U hU hW => ⟨rfl, xPre.of hEE hP hK hE hS hU hW⟩⟩ rfl rfl hl.1 rfl (lv_room (Nat.le_of_ble_eq_true rfl)) dX7_readCond_119 ⟨Nat.le_of_ble_eq_true rfl, Nat.le_of_ble_eq_true rfl⟩) hS (fun q _ h => XA.le hS.1 q h) (XA.le hS.1) (fun x t H locs ht hvm hw hB _ _ hS => ?_)
            have hP := xB.at ht hB
            clear hB ht hvm
            obtain ⟨st129, sl130, so131⟩ := x
            obtain ⟨hGst129, hLGst129, hOst129, hw⟩ := hw
            dsimp only at hGst129 hLGst129 hOst129 hw
            have hL : LGq sl sl130 := hL.tr hLGst129
            have hO : OG ad [2, 4] so so131 := hO.tr hOst129 (by decide)
            have hP : va_P (dC, dI) vwCl (xw A C nb st129 sl130 so131) _ := hP
            have hG : XG [1, 2, 3, 4, 5, 6, 7, 12, 13, 14, 15] st st129 := hG.tr hGst129 (by decide)
            have hf132 := hw
            refine lv_iload hx hb dX7_readCond_122 (lv_at hl 2 rfl) ?_
            refine lv_if_eq (tgt := 146) hx hb dX7_readCond_124 (by decide) (fun _ => ?_) (fun cc => absurd (by decide) cc)
            refine lv_iload hx hb dX7_readCond_146 (lv_at hl 2 rfl) ?_
            exact W.zret (v := 0) hx hb hr rfl (fun t ht hW => ⟨⟨0, (st129, sl130, so131), rfl, ⟨hG, hL, hO, Or.inr (⟨rfl, by show ¬ st129 1 13 = 0; rw [hGst129.2 1 13 (by rw [(by decide : xcl 1 13 = 10)]; decide)]; exact hfa⟩)⟩, xB.of ht hP⟩, hS.F ht⟩) hS.2.2 dX7_readCond_148
      · have c39 : ¬ k100 = 0 := fun hh => c39 ((nI_eq (a := k100) (b := 0) (by omega) (by omega)).mpr hh)
        have hsk : SKs ad st so 1 → SKs ad st101 so103 1 := hv110_0 (by omega)
        refine lv_aload_n hx hb dX7_readCond_27 rfl (lv_at hl 4 rfl) ?_
        refine va_getN (host := "OffTheLead") (D := (dC, dI)) (ci := 9) (v := va_rf (so103 1 7)) (C := RX8) (T := TX8) (N := 15) hx hb hts ii_X7_readCond_X8 hown hK hP 1 (xw_is (r := 1) (by omega) (xc_fix (r := 1) (by omega))) rfl 7 (by decide) (va_Nw.use rfl (nf_X7_35 hEv)) (fun _ hh => hh) rfl dX7_readCond_28 ?_
        obtain ⟨j133, hj133, ej133⟩ := hO.1.2
        refine zz_topq (r := some (ad j133)) (by rw [ej133]) ?_
        refine va_gets (v := .ref (ad 14)) hx hb (EV.word hEv (i := 14) (by decide)) hS hown (hts _ mm_X7_readCond_1) (fun _ hh => hh) dX7_readCond_31 ?_
        refine lv_acmp_ne (rx := (some (ad j133))) (ry := (some (ad 14))) (tgt := 62) hx hb dX7_readCond_34 (by decide) (fun c48 => ?_) (fun c48 => ?_)
        · have c48 : ¬ j133 = 14 := fun hh => c48 ((EV.eqw hEv (i := j133) (j := 14) (by omega) (by omega)).mpr hh)
          refine lv_aload_n hx hb dX7_readCond_62 rfl (lv_at hl 4 rfl) ?_
          refine va_getN (host := "OffTheLead") (D := (dC, dI)) (ci := 9) (v := va_rf (so103 1 7)) (C := RX8) (T := TX8) (N := 15) hx hb hts ii_X7_readCond_X8 hown hK hP 1 (xw_is (r := 1) (by omega) (xc_fix (r := 1) (by omega))) rfl 7 (by decide) (va_Nw.use rfl (nf_X7_35 hEv)) (fun _ hh => hh) rfl dX7_readCond_63 ?_
          refine zz_topq (r := some (ad j133)) (by rw [ej133]) ?_
          refine va_gets (v := .ref (ad 13)) hx hb (EV.word hEv (i := 13) (by decide)) hS hown (hts _ mm_X7_readCond_2) (fun _ hh => hh) dX7_readCond_66 ?_
          refine lv_acmp_ne (rx := (some (ad j133))) (ry := (some (ad 13))) (tgt := 108) hx hb dX7_readCond_69 (by decide) (fun c49 => ?_) (fun c49 => ?_)
          · have c49 : ¬ j133 = 13 := fun hh => c49 ((EV.eqw hEv (i := j133) (j := 13) (by omega) (by omega)).mpr hh)
            by_cases cg : k100 = 1
            · have hsk : SKs ad st so 1 → SKs ad st101 so103 1 := hv110_0 cg
              have hl : lv_has ls 7 [(6, .int (nI k98)), (5, .int (nI k99)), (4, .int 1), (0, .ref (A (20 + 4 * 1))), (1, .ref (A 1)), (2, .ref (A (36 + 20 * 0))), (3, .int 3)] := by rw [cg] at hl; exact hl
              refine lv_iload hx hb dX7_readCond_108 (lv_at hl 1 rfl) ?_
              refine lv_if_eq (tgt := 122) hx hb dX7_readCond_110 (by decide) (fun c50 => ?_) (fun c50 => ?_)
              · have c50 : k99 = 0 := (nI_eq (a := k99) (b := 0) (by omega) (by omega)).mp c50
                refine lv_iload hx hb dX7_readCond_122 (lv_at hl 2 rfl) ?_
                refine lv_if_eq (tgt := 146) hx hb dX7_readCond_124 (by decide) (fun cc => absurd cc (by decide)) (fun _ => ?_)
                refine lv_iload_n hx hb dX7_readCond_127 rfl (lv_at hl 6 rfl) ?_
                refine lv_iconst (v := 1) hx hb dX7_readCond_128 (by decide) ?_
                refine lv_icmp_ne (tgt := 146) hx hb dX7_readCond_129 (by decide) (fun _ => ?_) (fun cc => absurd cc (by decide))
                refine lv_iload hx hb dX7_readCond_146 (lv_at hl 2 rfl) ?_
                exact W.zret (v := 1) hx hb hr rfl (fun t ht hW => ⟨⟨1, (st101, sl102, so103), rfl, ⟨hG, hL, hO, Or.inl ⟨rfl, hsk⟩⟩, xB.of ht hP⟩, hS.F ht⟩) hS.2.2 dX7_readCond_148
              · have c50 : ¬ k99 = 0 := fun hh => c50 ((nI_eq (a := k99) (b := 0) (by omega) (by omega)).mpr hh)
                refine lv_aload_n hx hb dX7_readCond_113 rfl (lv_at hl 3 rfl) ?_
                refine va_gets (v := .ref (ad 13)) hx hb (EV.word hEv (i := 13) (by decide)) hS hown (hts _ mm_X7_readCond_2) (fun _ hh => hh) dX7_readCond_114 ?_
                refine lv_iconst (v := 0) hx hb dX7_readCond_117 (by decide) ?_
                refine lv_iconst (v := 0) hx hb dX7_readCond_118 (by decide) ?_
                refine va_callv (va_runV (As := [.ref (ad 13), .int 0, .int 0]) (rest := []) ⟨hx, hb, hml, hown, hts⟩ (x_X7_add l dC dI ad E hEE A C nb _ hN st101 sl102 so103 13 0 0 (by omega) hG.1 hO.1) (cwV 3 hts gX7_readCond_X7_add rfl rfl rfl (by decide +kernel) ⟨Nat.le_of_ble_eq_true rfl, Nat.le_of_ble_eq_true rfl⟩) ⟨fun a U g mk q => ⟨q.1, xPre.blind hEE q.2⟩, va_recv hK hP (ci := 8) (q0 := (20 + 4 * 1)) rfl (xw_is (r := (20 + 4 * 1)) (by omega) (xc_sn (q := 1) (o := 0) (by omega) (by omega))), fun U hU hW => ⟨rfl, xPre.of hEE hP hK hE hS hU hW⟩⟩ rfl rfl hl.1 rfl (lv_room (Nat.le_of_ble_eq_true rfl)) dX7_readCond_119 ⟨Nat.le_of_ble_eq_true rfl, Nat.le_of_ble_eq_true rfl⟩) hS (fun q _ h => XA.le hS.1 q h) (XA.le hS.1) (fun x t H locs ht hvm hw hB _ _ hS => ?_)
                have hP := xB.at ht hB
                clear hB ht hvm
                obtain ⟨st135, sl136, so137⟩ := x
                obtain ⟨hGst135, hLGst135, hOst135, hw⟩ := hw
                dsimp only at hGst135 hLGst135 hOst135 hw
                have hL : LGq sl sl136 := hL.tr hLGst135
                have hO : OG ad [2, 4] so so137 := hO.tr hOst135 (by decide)
                have hP : va_P (dC, dI) vwCl (xw A C nb st135 sl136 so137) _ := hP
                have hG : XG [1, 2, 3, 4, 5, 6, 7, 12, 13, 14, 15] st st135 := hG.tr hGst135 (by decide)
                have hf138 := hw
                have hsk : SKs ad st so 1 → SKs ad st135 so137 1 := fun hh => hf138 (hsk hh) (fun h9 => absurd h9 (by omega))
                refine lv_iload hx hb dX7_readCond_122 (lv_at hl 2 rfl) ?_
                refine lv_if_eq (tgt := 146) hx hb dX7_readCond_124 (by decide) (fun cc => absurd cc (by decide)) (fun _ => ?_)
                refine lv_iload_n hx hb dX7_readCond_127 rfl (lv_at hl 6 rfl) ?_
                refine lv_iconst (v := 1) hx hb dX7_readCond_128 (by decide) ?_
                refine lv_icmp_ne (tgt := 146) hx hb dX7_readCond_129 (by decide) (fun _ => ?_) (fun cc => absurd cc (by decide))
                refine lv_iload hx hb dX7_readCond_146 (lv_at hl 2 rfl) ?_
                exact W.zret (v := 1) hx hb hr rfl (fun t ht hW => ⟨⟨1, (st135, sl136, so137), rfl, ⟨hG, hL, hO, Or.inl ⟨rfl, hsk⟩⟩, xB.of ht hP⟩, hS.F ht⟩) hS.2.2 dX7_readCond_148
            · have cg : k100 = 0 := by omega
              have hfa : ¬ st101 1 13 = 0 := hv111_1 cg
              have hl : lv_has ls 7 [(6, .int (nI k98)), (5, .int (nI k99)), (4, .int 0), (0, .ref (A (20 + 4 * 1))), (1, .ref (A 1)), (2, .ref (A (36 + 20 * 0))), (3, .int 3)] := by rw [cg] at hl; exact hl
              refine lv_iload hx hb dX7_readCond_108 (lv_at hl 1 rfl) ?_
              refine lv_if_eq (tgt := 122) hx hb dX7_readCond_110 (by decide) (fun c55 => ?_) (fun c55 => ?_)
              · have c55 : k99 = 0 := (nI_eq (a := k99) (b := 0) (by omega) (by omega)).mp c55
                refine lv_iload hx hb dX7_readCond_122 (lv_at hl 2 rfl) ?_
                refine lv_if_eq (tgt := 146) hx hb dX7_readCond_124 (by decide) (fun _ => ?_) (fun cc => absurd (by decide) cc)
                refine lv_iload hx hb dX7_readCond_146 (lv_at hl 2 rfl) ?_
                exact W.zret (v := 0) hx hb hr rfl (fun t ht hW => ⟨⟨0, (st101, sl102, so103), rfl, ⟨hG, hL, hO, Or.inr (⟨rfl, by show ¬ st101 1 13 = 0; exact hfa⟩)⟩, xB.of ht hP⟩, hS.F ht⟩) hS.2.2 dX7_readCond_148
              · have c55 : ¬ k99 = 0 := fun hh => c55 ((nI_eq (a := k99) (b := 0) (by omega) (by omega)).mpr hh)
                refine lv_aload_n hx hb dX7_readCond_113 rfl (lv_at hl 3 rfl) ?_
                refine va_gets (v := .ref (ad 13)) hx hb (EV.word hEv (i := 13) (by decide)) hS hown (hts _ mm_X7_readCond_2) (fun _ hh => hh) dX7_readCond_114 ?_
                refine lv_iconst (v := 0) hx hb dX7_readCond_117 (by decide) ?_
                refine lv_iconst (v := 0) hx hb dX7_readCond_118 (by decide) ?_
                refine va_callv (va_runV (As := [.ref (ad 13), .int 0, .int 0]) (rest := []) ⟨hx, hb, hml, hown, hts⟩ (x_X7_add l dC dI ad E hEE A C nb _ hN st101 sl102 so103 13 0 0 (by omega) hG.1 hO.1) (cwV 3 hts gX7_readCond_X7_add rfl rfl rfl (by decide +kernel) ⟨Nat.le_of_ble_eq_true rfl, Nat.le_of_ble_eq_true rfl⟩) ⟨fun a U g mk q => ⟨q.1, xPre.blind hEE q.2⟩, va_recv hK hP (ci := 8) (q0 := (20 + 4 * 1)) rfl (xw_is (r := (20 + 4 * 1)) (by omega) (xc_sn (q := 1) (o := 0) (by omega) (by omega))), fun U hU hW => ⟨rfl, xPre.of hEE hP hK hE hS hU hW⟩⟩ rfl rfl hl.1 rfl (lv_room (Nat.le_of_ble_eq_true rfl)) dX7_readCond_119 ⟨Nat.le_of_ble_eq_true rfl, Nat.le_of_ble_eq_true rfl⟩) hS (fun q _ h => XA.le hS.1 q h) (XA.le hS.1) (fun x t H locs ht hvm hw hB _ _ hS => ?_)
                have hP := xB.at ht hB
                clear hB ht hvm
                obtain ⟨st140, sl141, so142⟩ := x
                obtain ⟨hGst140, hLGst140, hOst140, hw⟩ := hw
                dsimp only at hGst140 hLGst140 hOst140 hw
                have hL : LGq sl sl141 := hL.tr hLGst140
                have hO : OG ad [2, 4] so so142 := hO.tr hOst140 (by decide)
                have hP : va_P (dC, dI) vwCl (xw A C nb st140 sl141 so142) _ := hP
                have hG : XG [1, 2, 3, 4, 5, 6, 7, 12, 13, 14, 15] st st140 := hG.tr hGst140 (by decide)
                have hf143 := hw
                refine lv_iload hx hb dX7_readCond_122 (lv_at hl 2 rfl) ?_
                refine lv_if_eq (tgt := 146) hx hb dX7_readCond_124 (by decide) (fun _ => ?_) (fun cc => absurd (by decide) cc)
                refine lv_iload hx hb dX7_readCond_146 (lv_at hl 2 rfl) ?_
                exact W.zret (v := 0) hx hb hr rfl (fun t ht hW => ⟨⟨0, (st140, sl141, so142), rfl, ⟨hG, hL, hO, Or.inr (⟨rfl, by show ¬ st140 1 13 = 0; rw [hGst140.2 1 13 (by rw [(by decide : xcl 1 13 = 10)]; decide)]; exact hfa⟩)⟩, xB.of ht hP⟩, hS.F ht⟩) hS.2.2 dX7_readCond_148
          · have c49 : j133 = 13 := (EV.eqw hEv (i := j133) (j := 13) (by omega) (by omega)).mp c49
            refine lv_iload hx hb dX7_readCond_72 (lv_at hl 1 rfl) ?_
            refine lv_if_eq (tgt := 86) hx hb dX7_readCond_74 (by decide) (fun c58 => ?_) (fun c58 => ?_)
            · have c58 : k99 = 0 := (nI_eq (a := k99) (b := 0) (by omega) (by omega)).mp c58
              refine lv_iconst (v := 1) hx hb dX7_readCond_86 (by decide) ?_
              refine lv_istore (lv' := [(5, .int 1), (6, .int (nI k98)), (4, .int (nI k100)), (0, .ref (A (20 + 4 * 1))), (1, .ref (A 1)), (2, .ref (A (36 + 20 * 0))), (3, .int 3)]) hx hb dX7_readCond_87 hl (by decide) rfl (fun ls hl => ?_)
              refine lv_aload_n hx hb dX7_readCond_89 rfl (lv_at hl 4 rfl) ?_
              refine va_callv (va_runV (As := []) (rest := []) ⟨hx, hb, hml, hown, hts⟩ (x_X8_step l dC dI ad E hEE A C nb _ hN st101 sl102 so103  hG.1 hO.1) (cwV 0 hts gX7_readCond_X8_step rfl rfl rfl (by decide +kernel) ⟨Nat.le_of_ble_eq_true rfl, Nat.le_of_ble_eq_true rfl⟩) ⟨fun a U g mk q => ⟨q.1, xPre.blind hEE q.2⟩, va_recv hK hP (ci := 9) (q0 := 1) rfl (xw_is (r := 1) (by omega) (xc_fix (r := 1) (by omega))), fun U hU hW => ⟨rfl, xPre.of hEE hP hK hE hS hU hW⟩⟩ rfl rfl hl.1 rfl (lv_room (Nat.le_of_ble_eq_true rfl)) dX7_readCond_90 ⟨Nat.le_of_ble_eq_true rfl, Nat.le_of_ble_eq_true rfl⟩) hS (fun q _ h => XA.le hS.1 q h) (XA.le hS.1) (fun x t H locs ht hvm hw hB _ _ hS => ?_)
              have hP := xB.at ht hB
              clear hB ht hvm
              obtain ⟨st145, sl146, so147⟩ := x
              obtain ⟨hGst145, hLGst145, hOst145, hw⟩ := hw
              dsimp only at hGst145 hLGst145 hOst145 hw
              have hL : LGq sl sl146 := hL.tr hLGst145
              have hO : OG ad [2, 4] so so147 := hO.tr hOst145 (by decide)
              have hP : va_P (dC, dI) vwCl (xw A C nb st145 sl146 so147) _ := hP
              have hG : XG [1, 2, 3, 4, 5, 6, 7, 12, 13, 14, 15] st st145 := hG.tr hGst145 (by decide)
              clear hw
              have hsk : SKs ad st so 1 → SKs ad st145 so147 1 := fun hh => SKs.mg (hsk hh) (by omega) hGst145 hOst145 (by decide) (by decide) (by decide)
              refine lv_aload_n hx hb dX7_readCond_93 rfl (lv_at hl 3 rfl) ?_
              refine lv_aload_n hx hb dX7_readCond_94 rfl (lv_at hl 4 rfl) ?_
              refine lv_aload_n hx hb dX7_readCond_95 rfl (lv_at hl 5 rfl) ?_
              refine lv_iload_n hx hb dX7_readCond_96 rfl (lv_at hl 6 rfl) ?_
              refine va_calli (va_runV (As := [.ref (A 1), .ref (A (36 + 20 * 0)), .int 3]) (rest := []) ⟨hx, hb, hml, hown, hts⟩ (x_readOne_3 l dC dI ad E hEE A C nb _ hN st145 sl146 so147  hG.1 hO.1) (cwV 3 hts gX7_readCond_X7_readOne rfl rfl rfl (by decide +kernel) ⟨Nat.le_of_ble_eq_true rfl, Nat.le_of_ble_eq_true rfl⟩) ⟨fun a U g mk q => ⟨q.1, xPre.blind hEE q.2⟩, va_recv hK hP (ci := 8) (q0 := (20 + 4 * 1)) rfl (xw_is (r := (20 + 4 * 1)) (by omega) (xc_sn (q := 1) (o := 0) (by omega) (by omega))), fun U hU hW => ⟨rfl, xPre.of hEE hP hK hE hS hU hW⟩⟩ rfl rfl hl.1 rfl (lv_room (Nat.le_of_ble_eq_true rfl)) dX7_readCond_97 ⟨Nat.le_of_ble_eq_true rfl, Nat.le_of_ble_eq_true rfl⟩) hS (fun q _ h => XA.le hS.1 q h) (XA.le hS.1) (fun r148 x t H locs ht hvm hw hB _ _ hS => ?_)
              have hP := xB.at ht hB
              clear hB ht hvm
              obtain ⟨st149, sl150, so151⟩ := x
              obtain ⟨hGst149, hLGst149, hOst149, hw⟩ := hw
              dsimp only at hGst149 hLGst149 hOst149 hw
              have hL : LGq sl sl150 := hL.tr hLGst149
              have hO : OG ad [2, 4] so so151 := hO.tr hOst149 (by decide)
              have hP : va_P (dC, dI) vwCl (xw A C nb st149 sl150 so151) _ := hP
              have hG : XG [1, 2, 3, 4, 5, 6, 7, 12, 13, 14, 15] st st149 := hG.tr hGst149 (by decide)
              rcases hw with ⟨rfl, hf152⟩ | ⟨rfl, hf153⟩
              · have hsk : SKs ad st so 1 → SKs ad st149 so151 1 := fun hh => hf152 (hsk hh)
                refine lv_istore (lv' := [(4, .int 1), (5, .int 1), (6, .int (nI k98)), (0, .ref (A (20 + 4 * 1))), (1, .ref (A 1)), (2, .ref (A (36 + 20 * 0))), (3, .int 3)]) hx hb dX7_readCond_100 hl (by decide) rfl (fun ls hl => ?_)
                refine lv_iinc (v := (nI (k98 + 1))) (lv' := [(6, .int (nI (k98 + 1))), (4, .int 1), (5, .int 1), (0, .ref (A (20 + 4 * 1))), (1, .ref (A 1)), (2, .ref (A (36 + 20 * 0))), (3, .int 3)]) hx hb dX7_readCond_102 hl (k := 2) rfl (nI_add k98 1) (by decide) rfl (fun ls hl => ?_)
                refine lv_goto (tgt := 15) hx hb dX7_readCond_105 (by decide) ?_
                exact ih112 (21 - (k98 + 1)) _ _ _ _ (by omega) ⟨(k98 + 1), 1, 1, st149, sl150, so151, rfl, by omega, by omega, by omega, by omega, by omega, by omega, fun _ => hsk, fun h9 => absurd h9 (by omega), hP, hG, hO, hL, hS, lv_sub hl [0, 2, 1, 3, 4, 5, 6] rfl, rfl⟩
              · refine lv_istore (lv' := [(4, .int 0), (5, .int 1), (6, .int (nI k98)), (0, .ref (A (20 + 4 * 1))), (1, .ref (A 1)), (2, .ref (A (36 + 20 * 0))), (3, .int 3)]) hx hb dX7_readCond_100 hl (by decide) rfl (fun ls hl => ?_)
                refine lv_iinc (v := (nI (k98 + 1))) (lv' := [(6, .int (nI (k98 + 1))), (4, .int 0), (5, .int 1), (0, .ref (A (20 + 4 * 1))), (1, .ref (A 1)), (2, .ref (A (36 + 20 * 0))), (3, .int 3)]) hx hb dX7_readCond_102 hl (k := 2) rfl (nI_add k98 1) (by decide) rfl (fun ls hl => ?_)
                refine lv_goto (tgt := 15) hx hb dX7_readCond_105 (by decide) ?_
                exact ih112 (21 - (k98 + 1)) _ _ _ _ (by omega) ⟨(k98 + 1), 1, 0, st149, sl150, so151, rfl, by omega, by omega, by omega, by omega, by omega, by omega, fun h9 => absurd h9 (by omega), fun _ => by show ¬ st149 1 13 = 0; exact hf153, hP, hG, hO, hL, hS, lv_sub hl [0, 2, 1, 3, 4, 5, 6] rfl, rfl⟩
            · have c58 : ¬ k99 = 0 := fun hh => c58 ((nI_eq (a := k99) (b := 0) (by omega) (by omega)).mpr hh)
              refine lv_aload_n hx hb dX7_readCond_77 rfl (lv_at hl 3 rfl) ?_
              refine va_gets (v := .ref (ad 13)) hx hb (EV.word hEv (i := 13) (by decide)) hS hown (hts _ mm_X7_readCond_2) (fun _ hh => hh) dX7_readCond_78 ?_
              refine lv_iconst (v := 0) hx hb dX7_readCond_81 (by decide) ?_
              refine lv_iconst (v := 0) hx hb dX7_readCond_82 (by decide) ?_
              refine va_callv (va_runV (As := [.ref (ad 13), .int 0, .int 0]) (rest := []) ⟨hx, hb, hml, hown, hts⟩ (x_X7_add l dC dI ad E hEE A C nb _ hN st101 sl102 so103 13 0 0 (by omega) hG.1 hO.1) (cwV 3 hts gX7_readCond_X7_add rfl rfl rfl (by decide +kernel) ⟨Nat.le_of_ble_eq_true rfl, Nat.le_of_ble_eq_true rfl⟩) ⟨fun a U g mk q => ⟨q.1, xPre.blind hEE q.2⟩, va_recv hK hP (ci := 8) (q0 := (20 + 4 * 1)) rfl (xw_is (r := (20 + 4 * 1)) (by omega) (xc_sn (q := 1) (o := 0) (by omega) (by omega))), fun U hU hW => ⟨rfl, xPre.of hEE hP hK hE hS hU hW⟩⟩ rfl rfl hl.1 rfl (lv_room (Nat.le_of_ble_eq_true rfl)) dX7_readCond_83 ⟨Nat.le_of_ble_eq_true rfl, Nat.le_of_ble_eq_true rfl⟩) hS (fun q _ h => XA.le hS.1 q h) (XA.le hS.1) (fun x t H locs ht hvm hw hB _ _ hS => ?_)
              have hP := xB.at ht hB
              clear hB ht hvm
              obtain ⟨st155, sl156, so157⟩ := x
              obtain ⟨hGst155, hLGst155, hOst155, hw⟩ := hw
              dsimp only at hGst155 hLGst155 hOst155 hw
              have hL : LGq sl sl156 := hL.tr hLGst155
              have hO : OG ad [2, 4] so so157 := hO.tr hOst155 (by decide)
              have hP : va_P (dC, dI) vwCl (xw A C nb st155 sl156 so157) _ := hP
              have hG : XG [1, 2, 3, 4, 5, 6, 7, 12, 13, 14, 15] st st155 := hG.tr hGst155 (by decide)
              have hf158 := hw
              have hsk : SKs ad st so 1 → SKs ad st155 so157 1 := fun hh => hf158 (hsk hh) (fun h9 => absurd h9 (by omega))
              refine lv_iconst (v := 1) hx hb dX7_readCond_86 (by decide) ?_
              refine lv_istore (lv' := [(5, .int 1), (6, .int (nI k98)), (4, .int (nI k100)), (0, .ref (A (20 + 4 * 1))), (1, .ref (A 1)), (2, .ref (A (36 + 20 * 0))), (3, .int 3)]) hx hb dX7_readCond_87 hl (by decide) rfl (fun ls hl => ?_)
              refine lv_aload_n hx hb dX7_readCond_89 rfl (lv_at hl 4 rfl) ?_
              refine va_callv (va_runV (As := []) (rest := []) ⟨hx, hb, hml, hown, hts⟩ (x_X8_step l dC dI ad E hEE A C nb _ hN st155 sl156 so157  hG.1 hO.1) (cwV 0 hts gX7_readCond_X8_step rfl rfl rfl (by decide +kernel) ⟨Nat.le_of_ble_eq_true rfl, Nat.le_of_ble_eq_true rfl⟩) ⟨fun a U g mk q => ⟨q.1, xPre.blind hEE q.2⟩, va_recv hK hP (ci := 9) (q0 := 1) rfl (xw_is (r := 1) (by omega) (xc_fix (r := 1) (by omega))), fun U hU hW => ⟨rfl, xPre.of hEE hP hK hE hS hU hW⟩⟩ rfl rfl hl.1 rfl (lv_room (Nat.le_of_ble_eq_true rfl)) dX7_readCond_90 ⟨Nat.le_of_ble_eq_true rfl, Nat.le_of_ble_eq_true rfl⟩) hS (fun q _ h => XA.le hS.1 q h) (XA.le hS.1) (fun x t H locs ht hvm hw hB _ _ hS => ?_)
              have hP := xB.at ht hB
              clear hB ht hvm
              obtain ⟨st160, sl161, so162⟩ := x
              obtain ⟨hGst160, hLGst160, hOst160, hw⟩ := hw
              dsimp only at hGst160 hLGst160 hOst160 hw
              have hL : LGq sl sl161 := hL.tr hLGst160
              have hO : OG ad [2, 4] so so162 := hO.tr hOst160 (by decide)
              have hP : va_P (dC, dI) vwCl (xw A C nb st160 sl161 so162) _ := hP
              have hG : XG [1, 2, 3, 4, 5, 6, 7, 12, 13, 14, 15] st st160 := hG.tr hGst160 (by decide)
              clear hw
              have hsk : SKs ad st so 1 → SKs ad st160 so162 1 := fun hh => SKs.mg (hsk hh) (by omega) hGst160 hOst160 (by decide) (by decide) (by decide)
              refine lv_aload_n hx hb dX7_readCond_93 rfl (lv_at hl 3 rfl) ?_
              refine lv_aload_n hx hb dX7_readCond_94 rfl (lv_at hl 4 rfl) ?_
              refine lv_aload_n hx hb dX7_readCond_95 rfl (lv_at hl 5 rfl) ?_
              refine lv_iload_n hx hb dX7_readCond_96 rfl (lv_at hl 6 rfl) ?_
              refine va_calli (va_runV (As := [.ref (A 1), .ref (A (36 + 20 * 0)), .int 3]) (rest := []) ⟨hx, hb, hml, hown, hts⟩ (x_readOne_3 l dC dI ad E hEE A C nb _ hN st160 sl161 so162  hG.1 hO.1) (cwV 3 hts gX7_readCond_X7_readOne rfl rfl rfl (by decide +kernel) ⟨Nat.le_of_ble_eq_true rfl, Nat.le_of_ble_eq_true rfl⟩) ⟨fun a U g mk q => ⟨q.1, xPre.blind hEE q.2⟩, va_recv hK hP (ci := 8) (q0 := (20 + 4 * 1)) rfl (xw_is (r := (20 + 4 * 1)) (by omega) (xc_sn (q := 1) (o := 0) (by omega) (by omega))), fun U hU hW => ⟨rfl, xPre.of hEE hP hK hE hS hU hW⟩⟩ rfl rfl hl.1 rfl (lv_room (Nat.le_of_ble_eq_true rfl)) dX7_readCond_97 ⟨Nat.le_of_ble_eq_true rfl, Nat.le_of_ble_eq_true rfl⟩) hS (fun q _ h => XA.le hS.1 q h) (XA.le hS.1) (fun r163 x t H locs ht hvm hw hB _ _ hS => ?_)
              have hP := xB.at ht hB
              clear hB ht hvm
              obtain ⟨st164, sl165, so166⟩ := x
              obtain ⟨hGst164, hLGst164, hOst164, hw⟩ := hw
              dsimp only at hGst164 hLGst164 hOst164 hw
              have hL : LGq sl sl165 := hL.tr hLGst164
              have hO : OG ad [2, 4] so so166 := hO.tr hOst164 (by decide)
              have hP : va_P (dC, dI) vwCl (xw A C nb st164 sl165 so166) _ := hP
              have hG : XG [1, 2, 3, 4, 5, 6, 7, 12, 13, 14, 15] st st164 := hG.tr hGst164 (by decide)
              rcases hw with ⟨rfl, hf167⟩ | ⟨rfl, hf168⟩
              · have hsk : SKs ad st so 1 → SKs ad st164 so166 1 := fun hh => hf167 (hsk hh)
                refine lv_istore (lv' := [(4, .int 1), (5, .int 1), (6, .int (nI k98)), (0, .ref (A (20 + 4 * 1))), (1, .ref (A 1)), (2, .ref (A (36 + 20 * 0))), (3, .int 3)]) hx hb dX7_readCond_100 hl (by decide) rfl (fun ls hl => ?_)
                refine lv_iinc (v := (nI (k98 + 1))) (lv' := [(6, .int (nI (k98 + 1))), (4, .int 1), (5, .int 1), (0, .ref (A (20 + 4 * 1))), (1, .ref (A 1)), (2, .ref (A (36 + 20 * 0))), (3, .int 3)]) hx hb dX7_readCond_102 hl (k := 2) rfl (nI_add k98 1) (by decide) rfl (fun ls hl => ?_)
                refine lv_goto (tgt := 15) hx hb dX7_readCond_105 (by decide) ?_
                exact ih112 (21 - (k98 + 1)) _ _ _ _ (by omega) ⟨(k98 + 1), 1, 1, st164, sl165, so166, rfl, by omega, by omega, by omega, by omega, by omega, by omega, fun _ => hsk, fun h9 => absurd h9 (by omega), hP, hG, hO, hL, hS, lv_sub hl [0, 2, 1, 3, 4, 5, 6] rfl, rfl⟩
              · refine lv_istore (lv' := [(4, .int 0), (5, .int 1), (6, .int (nI k98)), (0, .ref (A (20 + 4 * 1))), (1, .ref (A 1)), (2, .ref (A (36 + 20 * 0))), (3, .int 3)]) hx hb dX7_readCond_100 hl (by decide) rfl (fun ls hl => ?_)
                refine lv_iinc (v := (nI (k98 + 1))) (lv' := [(6, .int (nI (k98 + 1))), (4, .int 0), (5, .int 1), (0, .ref (A (20 + 4 * 1))), (1, .ref (A 1)), (2, .ref (A (36 + 20 * 0))), (3, .int 3)]) hx hb dX7_readCond_102 hl (k := 2) rfl (nI_add k98 1) (by decide) rfl (fun ls hl => ?_)
                refine lv_goto (tgt := 15) hx hb dX7_readCond_105 (by decide) ?_
                exact ih112 (21 - (k98 + 1)) _ _ _ _ (by omega) ⟨(k98 + 1), 1, 0, st164, sl165, so166, rfl, by omega, by omega, by omega, by omega, by omega, by omega, fun h9 => absurd h9 (by omega), fun _ => by show ¬ st164 1 13 = 0; exact hf168, hP, hG, hO, hL, hS, lv_sub hl [0, 2, 1, 3, 4, 5, 6] rfl, rfl⟩
        · have c48 : j133 = 14 := (EV.eqw hEv (i := j133) (j := 14) (by omega) (by omega)).mp c48
          refine lv_aload_n hx hb dX7_readCond_37 rfl (lv_at hl 4 rfl) ?_
          refine va_callv (va_runV (As := []) (rest := []) ⟨hx, hb, hml, hown, hts⟩ (x_X8_step l dC dI ad E hEE A C nb _ hN st101 sl102 so103  hG.1 hO.1) (cwV 0 hts gX7_readCond_X8_step rfl rfl rfl (by decide +kernel) ⟨Nat.le_of_ble_eq_true rfl, Nat.le_of_ble_eq_true rfl⟩) ⟨fun a U g mk q => ⟨q.1, xPre.blind hEE q.2⟩, va_recv hK hP (ci := 9) (q0 := 1) rfl (xw_is (r := 1) (by omega) (xc_fix (r := 1) (by omega))), fun U hU hW => ⟨rfl, xPre.of hEE hP hK hE hS hU hW⟩⟩ rfl rfl hl.1 rfl (lv_room (Nat.le_of_ble_eq_true rfl)) dX7_readCond_38 ⟨Nat.le_of_ble_eq_true rfl, Nat.le_of_ble_eq_true rfl⟩) hS (fun q _ h => XA.le hS.1 q h) (XA.le hS.1) (fun x t H locs ht hvm hw hB _ _ hS => ?_)
          have hP := xB.at ht hB
          clear hB ht hvm
          obtain ⟨st170, sl171, so172⟩ := x
          obtain ⟨hGst170, hLGst170, hOst170, hw⟩ := hw
          dsimp only at hGst170 hLGst170 hOst170 hw
          have hL : LGq sl sl171 := hL.tr hLGst170
          have hO : OG ad [2, 4] so so172 := hO.tr hOst170 (by decide)
          have hP : va_P (dC, dI) vwCl (xw A C nb st170 sl171 so172) _ := hP
          have hG : XG [1, 2, 3, 4, 5, 6, 7, 12, 13, 14, 15] st st170 := hG.tr hGst170 (by decide)
          clear hw
          have hsk : SKs ad st so 1 → SKs ad st170 so172 1 := fun hh => SKs.mg (hsk hh) (by omega) hGst170 hOst170 (by decide) (by decide) (by decide)
          refine lv_aload_n hx hb dX7_readCond_41 rfl (lv_at hl 3 rfl) ?_
          refine lv_aload_n hx hb dX7_readCond_42 rfl (lv_at hl 4 rfl) ?_
          refine lv_aload_n hx hb dX7_readCond_43 rfl (lv_at hl 5 rfl) ?_
          refine lv_iload_n hx hb dX7_readCond_44 rfl (lv_at hl 6 rfl) ?_
          refine va_calli (va_runV (As := [.ref (A 1), .ref (A (36 + 20 * 0)), .int 3]) (rest := []) ⟨hx, hb, hml, hown, hts⟩ (x_readOne_3 l dC dI ad E hEE A C nb _ hN st170 sl171 so172  hG.1 hO.1) (cwV 3 hts gX7_readCond_X7_readOne rfl rfl rfl (by decide +kernel) ⟨Nat.le_of_ble_eq_true rfl, Nat.le_of_ble_eq_true rfl⟩) ⟨fun a U g mk q => ⟨q.1, xPre.blind hEE q.2⟩, va_recv hK hP (ci := 8) (q0 := (20 + 4 * 1)) rfl (xw_is (r := (20 + 4 * 1)) (by omega) (xc_sn (q := 1) (o := 0) (by omega) (by omega))), fun U hU hW => ⟨rfl, xPre.of hEE hP hK hE hS hU hW⟩⟩ rfl rfl hl.1 rfl (lv_room (Nat.le_of_ble_eq_true rfl)) dX7_readCond_45 ⟨Nat.le_of_ble_eq_true rfl, Nat.le_of_ble_eq_true rfl⟩) hS (fun q _ h => XA.le hS.1 q h) (XA.le hS.1) (fun r173 x t H locs ht hvm hw hB _ _ hS => ?_)
          have hP := xB.at ht hB
          clear hB ht hvm
          obtain ⟨st174, sl175, so176⟩ := x
          obtain ⟨hGst174, hLGst174, hOst174, hw⟩ := hw
          dsimp only at hGst174 hLGst174 hOst174 hw
          have hL : LGq sl sl175 := hL.tr hLGst174
          have hO : OG ad [2, 4] so so176 := hO.tr hOst174 (by decide)
          have hP : va_P (dC, dI) vwCl (xw A C nb st174 sl175 so176) _ := hP
          have hG : XG [1, 2, 3, 4, 5, 6, 7, 12, 13, 14, 15] st st174 := hG.tr hGst174 (by decide)
          rcases hw with ⟨rfl, hf177⟩ | ⟨rfl, hf178⟩
          · have hsk : SKs ad st so 1 → SKs ad st174 so176 1 := fun hh => hf177 (hsk hh)
            refine lv_istore (lv' := [(4, .int 1), (6, .int (nI k98)), (5, .int (nI k99)), (0, .ref (A (20 + 4 * 1))), (1, .ref (A 1)), (2, .ref (A (36 + 20 * 0))), (3, .int 3)]) hx hb dX7_readCond_48 hl (by decide) rfl (fun ls hl => ?_)
            refine lv_aload_n hx hb dX7_readCond_50 rfl (lv_at hl 3 rfl) ?_
            refine va_gets (v := .ref (ad 14)) hx hb (EV.word hEv (i := 14) (by decide)) hS hown (hts _ mm_X7_readCond_1) (fun _ hh => hh) dX7_readCond_51 ?_
            refine lv_iconst (v := 0) hx hb dX7_readCond_54 (by decide) ?_
            refine lv_iconst (v := 0) hx hb dX7_readCond_55 (by decide) ?_
            refine va_callv (va_runV (As := [.ref (ad 14), .int 0, .int 0]) (rest := []) ⟨hx, hb, hml, hown, hts⟩ (x_X7_add l dC dI ad E hEE A C nb _ hN st174 sl175 so176 14 0 0 (by omega) hG.1 hO.1) (cwV 3 hts gX7_readCond_X7_add rfl rfl rfl (by decide +kernel) ⟨Nat.le_of_ble_eq_true rfl, Nat.le_of_ble_eq_true rfl⟩) ⟨fun a U g mk q => ⟨q.1, xPre.blind hEE q.2⟩, va_recv hK hP (ci := 8) (q0 := (20 + 4 * 1)) rfl (xw_is (r := (20 + 4 * 1)) (by omega) (xc_sn (q := 1) (o := 0) (by omega) (by omega))), fun U hU hW => ⟨rfl, xPre.of hEE hP hK hE hS hU hW⟩⟩ rfl rfl hl.1 rfl (lv_room (Nat.le_of_ble_eq_true rfl)) dX7_readCond_56 ⟨Nat.le_of_ble_eq_true rfl, Nat.le_of_ble_eq_true rfl⟩) hS (fun q _ h => XA.le hS.1 q h) (XA.le hS.1) (fun x t H locs ht hvm hw hB _ _ hS => ?_)
            have hP := xB.at ht hB
            clear hB ht hvm
            obtain ⟨st180, sl181, so182⟩ := x
            obtain ⟨hGst180, hLGst180, hOst180, hw⟩ := hw
            dsimp only at hGst180 hLGst180 hOst180 hw
            have hL : LGq sl sl181 := hL.tr hLGst180
            have hO : OG ad [2, 4] so so182 := hO.tr hOst180 (by decide)
            have hP : va_P (dC, dI) vwCl (xw A C nb st180 sl181 so182) _ := hP
            have hG : XG [1, 2, 3, 4, 5, 6, 7, 12, 13, 14, 15] st st180 := hG.tr hGst180 (by decide)
            have hf183 := hw
            have hsk : SKs ad st so 1 → SKs ad st180 so182 1 := fun hh => hf183 (hsk hh) (fun h9 => absurd h9 (by omega))
            refine lv_goto (tgt := 102) hx hb dX7_readCond_59 (by decide) ?_
            refine lv_iinc (v := (nI (k98 + 1))) (lv' := [(6, .int (nI (k98 + 1))), (4, .int 1), (5, .int (nI k99)), (0, .ref (A (20 + 4 * 1))), (1, .ref (A 1)), (2, .ref (A (36 + 20 * 0))), (3, .int 3)]) hx hb dX7_readCond_102 hl (k := 1) rfl (nI_add k98 1) (by decide) rfl (fun ls hl => ?_)
            refine lv_goto (tgt := 15) hx hb dX7_readCond_105 (by decide) ?_
            exact ih112 (21 - (k98 + 1)) _ _ _ _ (by omega) ⟨(k98 + 1), k99, 1, st180, sl181, so182, rfl, by omega, by omega, by omega, by omega, by omega, by omega, fun _ => hsk, fun h9 => absurd h9 (by omega), hP, hG, hO, hL, hS, lv_sub hl [0, 2, 1, 3, 4, 5, 6] rfl, rfl⟩
          · refine lv_istore (lv' := [(4, .int 0), (6, .int (nI k98)), (5, .int (nI k99)), (0, .ref (A (20 + 4 * 1))), (1, .ref (A 1)), (2, .ref (A (36 + 20 * 0))), (3, .int 3)]) hx hb dX7_readCond_48 hl (by decide) rfl (fun ls hl => ?_)
            refine lv_aload_n hx hb dX7_readCond_50 rfl (lv_at hl 3 rfl) ?_
            refine va_gets (v := .ref (ad 14)) hx hb (EV.word hEv (i := 14) (by decide)) hS hown (hts _ mm_X7_readCond_1) (fun _ hh => hh) dX7_readCond_51 ?_
            refine lv_iconst (v := 0) hx hb dX7_readCond_54 (by decide) ?_
            refine lv_iconst (v := 0) hx hb dX7_readCond_55 (by decide) ?_
            refine va_callv (va_runV (As := [.ref (ad 14), .int 0, .int 0]) (rest := []) ⟨hx, hb, hml, hown, hts⟩ (x_X7_add l dC dI ad E hEE A C nb _ hN st174 sl175 so176 14 0 0 (by omega) hG.1 hO.1) (cwV 3 hts gX7_readCond_X7_add rfl rfl rfl (by decide +kernel) ⟨Nat.le_of_ble_eq_true rfl, Nat.le_of_ble_eq_true rfl⟩) ⟨fun a U g mk q => ⟨q.1, xPre.blind hEE q.2⟩, va_recv hK hP (ci := 8) (q0 := (20 + 4 * 1)) rfl (xw_is (r := (20 + 4 * 1)) (by omega) (xc_sn (q := 1) (o := 0) (by omega) (by omega))), fun U hU hW => ⟨rfl, xPre.of hEE hP hK hE hS hU hW⟩⟩ rfl rfl hl.1 rfl (lv_room (Nat.le_of_ble_eq_true rfl)) dX7_readCond_56 ⟨Nat.le_of_ble_eq_true rfl, Nat.le_of_ble_eq_true rfl⟩) hS (fun q _ h => XA.le hS.1 q h) (XA.le hS.1) (fun x t H locs ht hvm hw hB _ _ hS => ?_)
            have hP := xB.at ht hB
            clear hB ht hvm
            obtain ⟨st185, sl186, so187⟩ := x
            obtain ⟨hGst185, hLGst185, hOst185, hw⟩ := hw
            dsimp only at hGst185 hLGst185 hOst185 hw
            have hL : LGq sl sl186 := hL.tr hLGst185
            have hO : OG ad [2, 4] so so187 := hO.tr hOst185 (by decide)
            have hP : va_P (dC, dI) vwCl (xw A C nb st185 sl186 so187) _ := hP
            have hG : XG [1, 2, 3, 4, 5, 6, 7, 12, 13, 14, 15] st st185 := hG.tr hGst185 (by decide)
            have hf188 := hw
            refine lv_goto (tgt := 102) hx hb dX7_readCond_59 (by decide) ?_
            refine lv_iinc (v := (nI (k98 + 1))) (lv' := [(6, .int (nI (k98 + 1))), (4, .int 0), (5, .int (nI k99)), (0, .ref (A (20 + 4 * 1))), (1, .ref (A 1)), (2, .ref (A (36 + 20 * 0))), (3, .int 3)]) hx hb dX7_readCond_102 hl (k := 1) rfl (nI_add k98 1) (by decide) rfl (fun ls hl => ?_)
            refine lv_goto (tgt := 15) hx hb dX7_readCond_105 (by decide) ?_
            exact ih112 (21 - (k98 + 1)) _ _ _ _ (by omega) ⟨(k98 + 1), k99, 0, st185, sl186, so187, rfl, by omega, by omega, by omega, by omega, by omega, by omega, fun h9 => absurd h9 (by omega), fun _ => by show ¬ st185 1 13 = 0; rw [hGst185.2 1 13 (by rw [(by decide : xcl 1 13 = 10)]; decide)]; exact hf178, hP, hG, hO, hL, hS, lv_sub hl [0, 2, 1, 3, 4, 5, 6] rfl, rfl⟩
