set_option maxHeartbeats 4000000 in
set_option maxRecDepth 100000 in
theorem x_X11_appendName (l : Launch) (dC : Nat → ClassId) (dI : Nat → Nat → Nat) (ad : Nat → Nat) (E : EP) (hEE : EC ad E) (A : Nat → Nat) (C : Nat → ClassId) (nb sz : Nat) (hN : XN A) (st : Nat → Nat → Int32) (sl : Nat → Nat → Int64) (so : Nat → XR) (vw : Int64) (hI : XI st) (hco : st 18 1 = 0) (hc3 : st 18 3 = 0) (hnb : nb = 16 ∨ nb = 34) (hfit : sb_Fit (st 19)) : Met l yX11_appendName wsX11_appendName ({ frames := 3, cells := 0, slots := 0, locals := 64 }) (va_Pc [.ref (A 0), .long vw] (xPre E dC dI A C nb sz st sl so)) (va_Qv (fun (x : XT) => XG [1, 2, 3, 4, 5, 6, 7, 8, 9, 10, 11, 12] st x.1 ∧ x.2.2 = so ∧ (∃ n : Nat, x.1 18 1 = 0 ∧ x.1 18 3 = nI n ∧ n ≤ 7 ∧ sb_Fit (x.1 19))) (xB dC dI A C nb) (XA A sz)) 0 0 (XA A sz) := by
  refine Met.ofW (cc := cX11_appendName) (maxL := 5) (ret := none) (by decide) rfl ?_
  intro p e s m args below meth c s₁ B hml hv
  obtain ⟨rfl, hsz, hP, hK, hE⟩ := hv
  have hx := B.exec
  have hb := B.bytes
  have hr := B.returns
  have hts := atoms_spec (ws := wsX11_appendName) B.pre
  have hown : s.vm.findClass RX11 = some m.cls := findClass_of_methodNamed B.named
  subst hsz
  have hEv := hEE.1 _ _ _ hE
  have hS : va_S (XA A s.heap.size) s.heap s.heap [] := va_S.rf
  have hG : XG [1, 2, 3, 4, 5, 6, 7, 8, 9, 10, 11, 12] st st := XG.rf hI
  have hBR : BR A A s.heap.size := BR.rf
  have hl := lv_entry ([.ref (A 0), .long vw]) (n := 5) (Nat.le_of_ble_eq_true rfl)
  rw [lg_entry_eq]
  generalize (lg_sl ([.ref (A 0), .long vw]) ++ List.replicate (5 - (lg_sl ([.ref (A 0), .long vw])).length) Slot.unset).toArray = ls at hl ⊢
  have hl : lv_has ls 5 [(0, .ref (A 0)), (1, .long vw)] := hl
  refine lv_bipush (v := 6) hx hb dX11_appendName_0 (by decide) ?_
  refine lv_istore_n (lv' := [(3, .int 6), (0, .ref (A 0)), (1, .long vw)]) hx hb dX11_appendName_2 rfl hl (by decide) rfl (fun ls hl => ?_)
  refine lv_iload_n hx hb dX11_appendName_3 rfl (lv_at hl 0 rfl) ?_
  refine lv_if_lt (tgt := 45) hx hb dX11_appendName_4 (by decide) (fun cc => absurd cc (by decide)) (fun _ => ?_)
  refine lv_lload_n hx hb dX11_appendName_7 rfl (lv_at hl 2 rfl) ?_
  refine lv_iload_n hx hb dX11_appendName_8 rfl (lv_at hl 0 rfl) ?_
  refine lv_iconst (v := 5) hx hb dX11_appendName_9 (by decide) ?_
  refine lv_imul hx hb dX11_appendName_10 ?_
  refine zz_top (v := 30) (by decide) ?_
  refine lv_lushr hx hb dX11_appendName_11 rfl ?_
  refine lv_topl (fun z1 ez1 => ?_)
  clear ez1
  refine lv_l2i hx hb dX11_appendName_12 rfl ?_
  refine lv_topi (fun z2 ez2 => ?_)
  clear ez2
  refine lv_bipush (v := 31) hx hb dX11_appendName_13 (by decide) ?_
  refine lv_iand hx hb dX11_appendName_15 ?_
  obtain ⟨n3, hn3, en3⟩ := pk_andE (z2) (m := 31) 5 (by decide)
  have hn3 : n3 < 32 := hn3
  refine zz_top (v := nI n3) en3 ?_
  refine lv_istore (lv' := [(4, .int (nI n3)), (3, .int 6), (0, .ref (A 0)), (1, .long vw)]) hx hb dX11_appendName_16 hl (by decide) rfl (fun ls hl => ?_)
  refine lv_iload hx hb dX11_appendName_18 (lv_at hl 0 rfl) ?_
  refine zz_join (pcJ := 39) (fun stk H locs ls => ∃ st4 : Nat → Nat → Int32, ∃ sl5 : Nat → Nat → Int64, ∃ g6 : Nat, g6 < 31 ∧ st4 18 3 = nI g6 ∧ st4 18 1 = 0 ∧ sb_Fit (st4 19) ∧ g6 + 6 ≤ 7 ∧ va_P (dC, dI) vwCl (xw A C nb st4 sl5 so) H ∧ XG [1, 2, 3, 4, 5, 6, 7, 8, 9, 10, 11, 12] st st4 ∧ va_S (XA A s.heap.size) s.heap H locs ∧ lv_has ls 5 [(3, .int 6), (0, .ref (A 0)), (1, .long vw)] ∧ stk = []) ?_ (fun kj7 => ?_)
  · rintro stk H locs ls ⟨st4, sl5, g6, hv8_0, eg6, hv9_0, hv10_1, hv11_2, hP, hG, hS, hl, rfl⟩
    have hfit := hv10_1
    refine lv_iinc (v := 5) (lv' := [(3, .int 5), (0, .ref (A 0)), (1, .long vw)]) hx hb dX11_appendName_39 hl (k := 0) rfl (by decide) (by decide) rfl (fun ls hl => ?_)
    refine lv_goto (tgt := 3) hx hb dX11_appendName_42 (by decide) ?_
    refine lv_iload_n hx hb dX11_appendName_3 rfl (lv_at hl 0 rfl) ?_
    refine lv_if_lt (tgt := 45) hx hb dX11_appendName_4 (by decide) (fun cc => absurd cc (by decide)) (fun _ => ?_)
    refine lv_lload_n hx hb dX11_appendName_7 rfl (lv_at hl 2 rfl) ?_
    refine lv_iload_n hx hb dX11_appendName_8 rfl (lv_at hl 0 rfl) ?_
    refine lv_iconst (v := 5) hx hb dX11_appendName_9 (by decide) ?_
    refine lv_imul hx hb dX11_appendName_10 ?_
    refine zz_top (v := 25) (by decide) ?_
    refine lv_lushr hx hb dX11_appendName_11 rfl ?_
    refine lv_topl (fun z12 ez12 => ?_)
    clear ez12
    refine lv_l2i hx hb dX11_appendName_12 rfl ?_
    refine lv_topi (fun z13 ez13 => ?_)
    clear ez13
    refine lv_bipush (v := 31) hx hb dX11_appendName_13 (by decide) ?_
    refine lv_iand hx hb dX11_appendName_15 ?_
    refine lv_topi (fun z14 ez14 => ?_)
    clear ez14
    refine lv_istore (lv' := [(4, .int z14), (3, .int 5), (0, .ref (A 0)), (1, .long vw)]) hx hb dX11_appendName_16 hl (by decide) rfl (fun ls hl => ?_)
    refine lv_iload hx hb dX11_appendName_18 (lv_at hl 0 rfl) ?_
    refine lv_if_eq (tgt := 39) hx hb dX11_appendName_20 (by decide) (fun c3 => ?_) (fun c3 => ?_)
    · refine lv_iinc (v := 4) (lv' := [(3, .int 4), (4, .int z14), (0, .ref (A 0)), (1, .long vw)]) hx hb dX11_appendName_39 hl (k := 1) rfl (by decide) (by decide) rfl (fun ls hl => ?_)
      refine lv_goto (tgt := 3) hx hb dX11_appendName_42 (by decide) ?_
      refine lv_iload_n hx hb dX11_appendName_3 rfl (lv_at hl 0 rfl) ?_
      refine lv_if_lt (tgt := 45) hx hb dX11_appendName_4 (by decide) (fun cc => absurd cc (by decide)) (fun _ => ?_)
      refine lv_lload_n hx hb dX11_appendName_7 rfl (lv_at hl 3 rfl) ?_
      refine lv_iload_n hx hb dX11_appendName_8 rfl (lv_at hl 0 rfl) ?_
      refine lv_iconst (v := 5) hx hb dX11_appendName_9 (by decide) ?_
      refine lv_imul hx hb dX11_appendName_10 ?_
      refine zz_top (v := 20) (by decide) ?_
      refine lv_lushr hx hb dX11_appendName_11 rfl ?_
      refine lv_topl (fun z15 ez15 => ?_)
      clear ez15
      refine lv_l2i hx hb dX11_appendName_12 rfl ?_
      refine lv_topi (fun z16 ez16 => ?_)
      clear ez16
      refine lv_bipush (v := 31) hx hb dX11_appendName_13 (by decide) ?_
      refine lv_iand hx hb dX11_appendName_15 ?_
      refine lv_topi (fun z17 ez17 => ?_)
      clear ez17
      refine lv_istore (lv' := [(4, .int z17), (3, .int 4), (0, .ref (A 0)), (1, .long vw)]) hx hb dX11_appendName_16 hl (by decide) rfl (fun ls hl => ?_)
      refine lv_iload hx hb dX11_appendName_18 (lv_at hl 0 rfl) ?_
      refine lv_if_eq (tgt := 39) hx hb dX11_appendName_20 (by decide) (fun c5 => ?_) (fun c5 => ?_)
      · refine lv_iinc (v := 3) (lv' := [(3, .int 3), (4, .int z17), (0, .ref (A 0)), (1, .long vw)]) hx hb dX11_appendName_39 hl (k := 1) rfl (by decide) (by decide) rfl (fun ls hl => ?_)
        refine lv_goto (tgt := 3) hx hb dX11_appendName_42 (by decide) ?_
        refine lv_iload_n hx hb dX11_appendName_3 rfl (lv_at hl 0 rfl) ?_
        refine lv_if_lt (tgt := 45) hx hb dX11_appendName_4 (by decide) (fun cc => absurd cc (by decide)) (fun _ => ?_)
        refine lv_lload_n hx hb dX11_appendName_7 rfl (lv_at hl 3 rfl) ?_
        refine lv_iload_n hx hb dX11_appendName_8 rfl (lv_at hl 0 rfl) ?_
        refine lv_iconst (v := 5) hx hb dX11_appendName_9 (by decide) ?_
        refine lv_imul hx hb dX11_appendName_10 ?_
        refine zz_top (v := 15) (by decide) ?_
        refine lv_lushr hx hb dX11_appendName_11 rfl ?_
        refine lv_topl (fun z18 ez18 => ?_)
        clear ez18
        refine lv_l2i hx hb dX11_appendName_12 rfl ?_
        refine lv_topi (fun z19 ez19 => ?_)
        clear ez19
        refine lv_bipush (v := 31) hx hb dX11_appendName_13 (by decide) ?_
        refine lv_iand hx hb dX11_appendName_15 ?_
        refine lv_topi (fun z20 ez20 => ?_)
        clear ez20
        refine lv_istore (lv' := [(4, .int z20), (3, .int 3), (0, .ref (A 0)), (1, .long vw)]) hx hb dX11_appendName_16 hl (by decide) rfl (fun ls hl => ?_)
        refine lv_iload hx hb dX11_appendName_18 (lv_at hl 0 rfl) ?_
        refine lv_if_eq (tgt := 39) hx hb dX11_appendName_20 (by decide) (fun c7 => ?_) (fun c7 => ?_)
        · refine lv_iinc (v := 2) (lv' := [(3, .int 2), (4, .int z20), (0, .ref (A 0)), (1, .long vw)]) hx hb dX11_appendName_39 hl (k := 1) rfl (by decide) (by decide) rfl (fun ls hl => ?_)
          refine lv_goto (tgt := 3) hx hb dX11_appendName_42 (by decide) ?_
          refine lv_iload_n hx hb dX11_appendName_3 rfl (lv_at hl 0 rfl) ?_
          refine lv_if_lt (tgt := 45) hx hb dX11_appendName_4 (by decide) (fun cc => absurd cc (by decide)) (fun _ => ?_)
          refine lv_lload_n hx hb dX11_appendName_7 rfl (lv_at hl 3 rfl) ?_
          refine lv_iload_n hx hb dX11_appendName_8 rfl (lv_at hl 0 rfl) ?_
          refine lv_iconst (v := 5) hx hb dX11_appendName_9 (by decide) ?_
          refine lv_imul hx hb dX11_appendName_10 ?_
          refine zz_top (v := 10) (by decide) ?_
          refine lv_lushr hx hb dX11_appendName_11 rfl ?_
          refine lv_topl (fun z21 ez21 => ?_)
          clear ez21
          refine lv_l2i hx hb dX11_appendName_12 rfl ?_
          refine lv_topi (fun z22 ez22 => ?_)
          clear ez22
          refine lv_bipush (v := 31) hx hb dX11_appendName_13 (by decide) ?_
          refine lv_iand hx hb dX11_appendName_15 ?_
          refine lv_topi (fun z23 ez23 => ?_)
          clear ez23
          refine lv_istore (lv' := [(4, .int z23), (3, .int 2), (0, .ref (A 0)), (1, .long vw)]) hx hb dX11_appendName_16 hl (by decide) rfl (fun ls hl => ?_)
          refine lv_iload hx hb dX11_appendName_18 (lv_at hl 0 rfl) ?_
          refine lv_if_eq (tgt := 39) hx hb dX11_appendName_20 (by decide) (fun c9 => ?_) (fun c9 => ?_)
          · refine lv_iinc (v := 1) (lv' := [(3, .int 1), (4, .int z23), (0, .ref (A 0)), (1, .long vw)]) hx hb dX11_appendName_39 hl (k := 1) rfl (by decide) (by decide) rfl (fun ls hl => ?_)
            refine lv_goto (tgt := 3) hx hb dX11_appendName_42 (by decide) ?_
            refine lv_iload_n hx hb dX11_appendName_3 rfl (lv_at hl 0 rfl) ?_
            refine lv_if_lt (tgt := 45) hx hb dX11_appendName_4 (by decide) (fun cc => absurd cc (by decide)) (fun _ => ?_)
            refine lv_lload_n hx hb dX11_appendName_7 rfl (lv_at hl 3 rfl) ?_
            refine lv_iload_n hx hb dX11_appendName_8 rfl (lv_at hl 0 rfl) ?_
            refine lv_iconst (v := 5) hx hb dX11_appendName_9 (by decide) ?_
            refine lv_imul hx hb dX11_appendName_10 ?_
            refine zz_top (v := 5) (by decide) ?_
            refine lv_lushr hx hb dX11_appendName_11 rfl ?_
            refine lv_topl (fun z24 ez24 => ?_)
            clear ez24
            refine lv_l2i hx hb dX11_appendName_12 rfl ?_
            refine lv_topi (fun z25 ez25 => ?_)
            clear ez25
            refine lv_bipush (v := 31) hx hb dX11_appendName_13 (by decide) ?_
            refine lv_iand hx hb dX11_appendName_15 ?_
            refine lv_topi (fun z26 ez26 => ?_)
            clear ez26
            refine lv_istore (lv' := [(4, .int z26), (3, .int 1), (0, .ref (A 0)), (1, .long vw)]) hx hb dX11_appendName_16 hl (by decide) rfl (fun ls hl => ?_)
            refine lv_iload hx hb dX11_appendName_18 (lv_at hl 0 rfl) ?_
            refine lv_if_eq (tgt := 39) hx hb dX11_appendName_20 (by decide) (fun c11 => ?_) (fun c11 => ?_)
            · refine lv_iinc (v := 0) (lv' := [(3, .int 0), (4, .int z26), (0, .ref (A 0)), (1, .long vw)]) hx hb dX11_appendName_39 hl (k := 1) rfl (by decide) (by decide) rfl (fun ls hl => ?_)
              refine lv_goto (tgt := 3) hx hb dX11_appendName_42 (by decide) ?_
              refine lv_iload_n hx hb dX11_appendName_3 rfl (lv_at hl 0 rfl) ?_
              refine lv_if_lt (tgt := 45) hx hb dX11_appendName_4 (by decide) (fun cc => absurd cc (by decide)) (fun _ => ?_)
              refine lv_lload_n hx hb dX11_appendName_7 rfl (lv_at hl 3 rfl) ?_
              refine lv_iload_n hx hb dX11_appendName_8 rfl (lv_at hl 0 rfl) ?_
              refine lv_iconst (v := 5) hx hb dX11_appendName_9 (by decide) ?_
              refine lv_imul hx hb dX11_appendName_10 ?_
              refine zz_top (v := 0) (by decide) ?_
              refine lv_lushr hx hb dX11_appendName_11 rfl ?_
              refine lv_topl (fun z27 ez27 => ?_)
              clear ez27
              refine lv_l2i hx hb dX11_appendName_12 rfl ?_
              refine lv_topi (fun z28 ez28 => ?_)
              clear ez28
              refine lv_bipush (v := 31) hx hb dX11_appendName_13 (by decide) ?_
              refine lv_iand hx hb dX11_appendName_15 ?_
              refine lv_topi (fun z29 ez29 => ?_)
              clear ez29
              refine lv_istore (lv' := [(4, .int z29), (3, .int 0), (0, .ref (A 0)), (1, .long vw)]) hx hb dX11_appendName_16 hl (by decide) rfl (fun ls hl => ?_)
              refine lv_iload hx hb dX11_appendName_18 (lv_at hl 0 rfl) ?_
              refine lv_if_eq (tgt := 39) hx hb dX11_appendName_20 (by decide) (fun c13 => ?_) (fun c13 => ?_)
              · refine lv_iinc (v := (-1)) (lv' := [(3, .int (-1)), (4, .int z29), (0, .ref (A 0)), (1, .long vw)]) hx hb dX11_appendName_39 hl (k := 1) rfl (by decide) (by decide) rfl (fun ls hl => ?_)
                refine lv_goto (tgt := 3) hx hb dX11_appendName_42 (by decide) ?_
                refine lv_iload_n hx hb dX11_appendName_3 rfl (lv_at hl 0 rfl) ?_
                refine lv_if_lt (tgt := 45) hx hb dX11_appendName_4 (by decide) (fun _ => ?_) (fun cc => absurd (by decide) cc)
                exact W.vret hx hb hr (fun t ht hW => ⟨⟨(st4, sl5, so), rfl, ⟨hG, rfl, ⟨g6, by show st4 18 1 = 0; rw [hv9_0], by show st4 18 3 = _; rw [eg6], by omega, hfit⟩⟩, xB.of ht hP⟩, hS.F ht⟩) hS.2.2 dX11_appendName_45
              · refine lv_aload_n hx hb dX11_appendName_23 rfl (lv_at hl 2 rfl) ?_
                refine va_get (D := (dC, dI)) (ci := 10) (v := .ref (A 18)) (C := RX11) (T := TX11) (N := 19) hx hb hts ii_X11_appendName_X11 hown hK hP 0 (xw_is (r := 0) (by omega) (xc_fix (r := 0) (by omega))) rfl 14 (by decide) (hts _ mm_X11_appendName_1) (fun _ hh => hh) rfl dX11_appendName_24 ?_
                refine lv_bipush (v := 97) hx hb dX11_appendName_27 (by decide) ?_
                refine lv_iload hx hb dX11_appendName_29 (lv_at hl 0 rfl) ?_
                refine lv_iadd hx hb dX11_appendName_31 ?_
                refine lv_topi (fun z30 ez30 => ?_)
                clear ez30
                refine lv_iconst (v := 1) hx hb dX11_appendName_32 (by decide) ?_
                refine lv_isub hx hb dX11_appendName_33 ?_
                refine lv_topi (fun z31 ez31 => ?_)
                clear ez31
                refine lv_i2c (v := z31) hx hb dX11_appendName_34 ((sb_byte z31 (by omega)).2.1) ?_
                have hPs := xsub (cn := g6) hP (by rw [hv9_0]) (by rw [eg6])
                have hKs := xKsub hK
                have hns : A 18 ≠ A 19 := fun h9 => absurd (hN 18 19 (by omega) (by omega) h9) (by decide)
                have hS0 := hS
                refine va_callr (va_runV (As := [.int z31]) (rest := []) ⟨hx, hb, hml, hown, hts⟩ (s_J4_append_cf468 l dC dI ad E hEE (A 18) (A 19) (C 19) nb (st4 19) (st4 18 2) g6 _ z31 hns hfit (by omega) (by omega) (by omega) (by omega)) (cwV 1 hts gX11_appendName_J4_append_cf468 rfl rfl rfl (by decide +kernel) ⟨Nat.le_of_ble_eq_true rfl, Nat.le_of_ble_eq_true rfl⟩) ⟨fun a U g mk q => ⟨q.1, sPre.blind hEE q.2⟩, va_recv hKs hPs (ci := 0) (q0 := 0) rfl rfl, fun U hU hW => ⟨rfl, sPre.of hEE hPs hKs hE hS (hBR.sa _ hS.1) hU hW⟩⟩ rfl rfl hl.1 rfl (lv_room (Nat.le_of_ble_eq_true rfl)) dX11_appendName_35 ⟨Nat.le_of_ble_eq_true rfl, Nat.le_of_ble_eq_true rfl⟩) hS (fun q _ h => hBR.sa _ hS.1 q h) (hBR.sa _ hS.1) (fun x r32 t H5 locs ht hvm hw hB hz hk hS => ?_)
                obtain ⟨hw, hr9, hB⟩ := hB
                subst hr9
                obtain ⟨hPt, hK2, hne2, hv2, hF2⟩ := hB
                rw [ht] at hPt
                have hK2 := va_K.moved hvm.symm hK2
                obtain ⟨v33, cB34, nb35, f36, ml37, cn38⟩ := x
                dsimp only at hPt hK2 hne2 hv2 hF2 hw
                obtain ⟨rfl, rfl, rfl, rfl, hw⟩ := hw
                have hj := xjoin hN hP hK hBR hS0.1 hPt hK2 hk hne2 hv2
                rw [A19_self, C19_self] at hj
                obtain ⟨st39, est39⟩ : ∃ y, y = st19 st4 f36 ml37 (nI (g6 + 1)) := ⟨_, rfl⟩
                rw [← est39] at hj
                have hst39a : st39 18 1 = 0 := by rw [est39]; rfl
                have hst39b : st39 18 3 = (nI (g6 + 1)) := by rw [est39]; rfl
                have hfit : sb_Fit (st39 19) := by rw [est39]; exact hF2
                have hGst39 : XG [1, 2, 3, 4, 5, 6, 7, 8, 9, 10, 11, 12] st4 st39 := by rw [est39]; exact xg19 (XG.rf hG.1) (by decide) _ _ _
                have hG : XG [1, 2, 3, 4, 5, 6, 7, 8, 9, 10, 11, 12] st st39 := by rw [est39]; exact xg19 hG (by decide) _ _ _
                clear hK2 hne2 hv2 hF2 ht hvm est39 hPs hKs hk hz
                obtain ⟨hP, hK, hN, hBR⟩ := hj
                clear hw
                refine lv_pop hx hb dX11_appendName_38 rfl ?_
                refine lv_iinc (v := (-1)) (lv' := [(3, .int (-1)), (4, .int z29), (0, .ref (A 0)), (1, .long vw)]) hx hb dX11_appendName_39 hl (k := 1) rfl (by decide) (by decide) rfl (fun ls hl => ?_)
                refine lv_goto (tgt := 3) hx hb dX11_appendName_42 (by decide) ?_
                refine lv_iload_n hx hb dX11_appendName_3 rfl (lv_at hl 0 rfl) ?_
                refine lv_if_lt (tgt := 45) hx hb dX11_appendName_4 (by decide) (fun _ => ?_) (fun cc => absurd (by decide) cc)
                exact W.vret hx hb hr (fun t ht hW => ⟨⟨(st39, sl5, so), rfl, ⟨hG, rfl, ⟨(g6 + 1), by show st39 18 1 = 0; rw [hst39a], by show st39 18 3 = _; rw [hst39b], by omega, hfit⟩⟩, xB.of ht hP⟩, hS.F ht⟩) hS.2.2 dX11_appendName_45
            · refine lv_aload_n hx hb dX11_appendName_23 rfl (lv_at hl 2 rfl) ?_
              refine va_get (D := (dC, dI)) (ci := 10) (v := .ref (A 18)) (C := RX11) (T := TX11) (N := 19) hx hb hts ii_X11_appendName_X11 hown hK hP 0 (xw_is (r := 0) (by omega) (xc_fix (r := 0) (by omega))) rfl 14 (by decide) (hts _ mm_X11_appendName_1) (fun _ hh => hh) rfl dX11_appendName_24 ?_
              refine lv_bipush (v := 97) hx hb dX11_appendName_27 (by decide) ?_
              refine lv_iload hx hb dX11_appendName_29 (lv_at hl 0 rfl) ?_
              refine lv_iadd hx hb dX11_appendName_31 ?_
              refine lv_topi (fun z40 ez40 => ?_)
              clear ez40
              refine lv_iconst (v := 1) hx hb dX11_appendName_32 (by decide) ?_
              refine lv_isub hx hb dX11_appendName_33 ?_
              refine lv_topi (fun z41 ez41 => ?_)
              clear ez41
              refine lv_i2c (v := z41) hx hb dX11_appendName_34 ((sb_byte z41 (by omega)).2.1) ?_
              have hPs := xsub (cn := g6) hP (by rw [hv9_0]) (by rw [eg6])
              have hKs := xKsub hK
              have hns : A 18 ≠ A 19 := fun h9 => absurd (hN 18 19 (by omega) (by omega) h9) (by decide)
              have hS0 := hS
              refine va_callr (va_runV (As := [.int z41]) (rest := []) ⟨hx, hb, hml, hown, hts⟩ (s_J4_append_cf468 l dC dI ad E hEE (A 18) (A 19) (C 19) nb (st4 19) (st4 18 2) g6 _ z41 hns hfit (by omega) (by omega) (by omega) (by omega)) (cwV 1 hts gX11_appendName_J4_append_cf468 rfl rfl rfl (by decide +kernel) ⟨Nat.le_of_ble_eq_true rfl, Nat.le_of_ble_eq_true rfl⟩) ⟨fun a U g mk q => ⟨q.1, sPre.blind hEE q.2⟩, va_recv hKs hPs (ci := 0) (q0 := 0) rfl rfl, fun U hU hW => ⟨rfl, sPre.of hEE hPs hKs hE hS (hBR.sa _ hS.1) hU hW⟩⟩ rfl rfl hl.1 rfl (lv_room (Nat.le_of_ble_eq_true rfl)) dX11_appendName_35 ⟨Nat.le_of_ble_eq_true rfl, Nat.le_of_ble_eq_true rfl⟩) hS (fun q _ h => hBR.sa _ hS.1 q h) (hBR.sa _ hS.1) (fun x r42 t H5 locs ht hvm hw hB hz hk hS => ?_)
              obtain ⟨hw, hr9, hB⟩ := hB
              subst hr9
              obtain ⟨hPt, hK2, hne2, hv2, hF2⟩ := hB
              rw [ht] at hPt
              have hK2 := va_K.moved hvm.symm hK2
              obtain ⟨v43, cB44, nb45, f46, ml47, cn48⟩ := x
              dsimp only at hPt hK2 hne2 hv2 hF2 hw
              obtain ⟨rfl, rfl, rfl, rfl, hw⟩ := hw
              have hj := xjoin hN hP hK hBR hS0.1 hPt hK2 hk hne2 hv2
              rw [A19_self, C19_self] at hj
              obtain ⟨st49, est49⟩ : ∃ y, y = st19 st4 f46 ml47 (nI (g6 + 1)) := ⟨_, rfl⟩
              rw [← est49] at hj
              have hst49a : st49 18 1 = 0 := by rw [est49]; rfl
              have hst49b : st49 18 3 = (nI (g6 + 1)) := by rw [est49]; rfl
              have hfit : sb_Fit (st49 19) := by rw [est49]; exact hF2
              have hGst49 : XG [1, 2, 3, 4, 5, 6, 7, 8, 9, 10, 11, 12] st4 st49 := by rw [est49]; exact xg19 (XG.rf hG.1) (by decide) _ _ _
              have hG : XG [1, 2, 3, 4, 5, 6, 7, 8, 9, 10, 11, 12] st st49 := by rw [est49]; exact xg19 hG (by decide) _ _ _
              clear hK2 hne2 hv2 hF2 ht hvm est49 hPs hKs hk hz
              obtain ⟨hP, hK, hN, hBR⟩ := hj
              clear hw
              refine lv_pop hx hb dX11_appendName_38 rfl ?_
              refine lv_iinc (v := 0) (lv' := [(3, .int 0), (4, .int z26), (0, .ref (A 0)), (1, .long vw)]) hx hb dX11_appendName_39 hl (k := 1) rfl (by decide) (by decide) rfl (fun ls hl => ?_)
              refine lv_goto (tgt := 3) hx hb dX11_appendName_42 (by decide) ?_
              refine lv_iload_n hx hb dX11_appendName_3 rfl (lv_at hl 0 rfl) ?_
              refine lv_if_lt (tgt := 45) hx hb dX11_appendName_4 (by decide) (fun cc => absurd cc (by decide)) (fun _ => ?_)
              refine lv_lload_n hx hb dX11_appendName_7 rfl (lv_at hl 3 rfl) ?_
              refine lv_iload_n hx hb dX11_appendName_8 rfl (lv_at hl 0 rfl) ?_
              refine lv_iconst (v := 5) hx hb dX11_appendName_9 (by decide) ?_
              refine lv_imul hx hb dX11_appendName_10 ?_
              refine zz_top (v := 0) (by decide) ?_
              refine lv_lushr hx hb dX11_appendName_11 rfl ?_
              refine lv_topl (fun z50 ez50 => ?_)
              clear ez50
              refine lv_l2i hx hb dX11_appendName_12 rfl ?_
              refine lv_topi (fun z51 ez51 => ?_)
              clear ez51
              refine lv_bipush (v := 31) hx hb dX11_appendName_13 (by decide) ?_
              refine lv_iand hx hb dX11_appendName_15 ?_
              refine lv_topi (fun z52 ez52 => ?_)
              clear ez52
              refine lv_istore (lv' := [(4, .int z52), (3, .int 0), (0, .ref (A 0)), (1, .long vw)]) hx hb dX11_appendName_16 hl (by decide) rfl (fun ls hl => ?_)
              refine lv_iload hx hb dX11_appendName_18 (lv_at hl 0 rfl) ?_
              refine lv_if_eq (tgt := 39) hx hb dX11_appendName_20 (by decide) (fun c17 => ?_) (fun c17 => ?_)
              · refine lv_iinc (v := (-1)) (lv' := [(3, .int (-1)), (4, .int z52), (0, .ref (A 0)), (1, .long vw)]) hx hb dX11_appendName_39 hl (k := 1) rfl (by decide) (by decide) rfl (fun ls hl => ?_)
                refine lv_goto (tgt := 3) hx hb dX11_appendName_42 (by decide) ?_
                refine lv_iload_n hx hb dX11_appendName_3 rfl (lv_at hl 0 rfl) ?_
                refine lv_if_lt (tgt := 45) hx hb dX11_appendName_4 (by decide) (fun _ => ?_) (fun cc => absurd (by decide) cc)
                exact W.vret hx hb hr (fun t ht hW => ⟨⟨(st49, sl5, so), rfl, ⟨hG, rfl, ⟨(g6 + 1), by show st49 18 1 = 0; rw [hst49a], by show st49 18 3 = _; rw [hst49b], by omega, hfit⟩⟩, xB.of ht hP⟩, hS.F ht⟩) hS.2.2 dX11_appendName_45
              · refine lv_aload_n hx hb dX11_appendName_23 rfl (lv_at hl 2 rfl) ?_
                refine va_get (D := (dC, dI)) (ci := 10) (v := .ref (A 18)) (C := RX11) (T := TX11) (N := 19) hx hb hts ii_X11_appendName_X11 hown hK hP 0 (xw_is (r := 0) (by omega) (xc_fix (r := 0) (by omega))) rfl 14 (by decide) (hts _ mm_X11_appendName_1) (fun _ hh => hh) rfl dX11_appendName_24 ?_
                refine lv_bipush (v := 97) hx hb dX11_appendName_27 (by decide) ?_
                refine lv_iload hx hb dX11_appendName_29 (lv_at hl 0 rfl) ?_
                refine lv_iadd hx hb dX11_appendName_31 ?_
                refine lv_topi (fun z53 ez53 => ?_)
                clear ez53
                refine lv_iconst (v := 1) hx hb dX11_appendName_32 (by decide) ?_
                refine lv_isub hx hb dX11_appendName_33 ?_
                refine lv_topi (fun z54 ez54 => ?_)
                clear ez54
                refine lv_i2c hx hb dX11_appendName_34 rfl ?_
                refine lv_topi (fun z55 ez55 => ?_)
                clear ez55
                have hPs := xsub (cn := (g6 + 1)) hP (by rw [hst49a]) (by rw [hst49b])
                have hKs := xKsub hK
                have hns : A 18 ≠ A 19 := fun h9 => absurd (hN 18 19 (by omega) (by omega) h9) (by decide)
                have hS0 := hS
                refine va_callr (va_runV (As := [.int z55]) (rest := []) ⟨hx, hb, hml, hown, hts⟩ (s_J4_append_cf468 l dC dI ad E hEE (A 18) (A 19) (C 19) nb (st49 19) (st49 18 2) (g6 + 1) _ z55 hns hfit (by omega) (by omega) (by omega) (by omega)) (cwV 1 hts gX11_appendName_J4_append_cf468 rfl rfl rfl (by decide +kernel) ⟨Nat.le_of_ble_eq_true rfl, Nat.le_of_ble_eq_true rfl⟩) ⟨fun a U g mk q => ⟨q.1, sPre.blind hEE q.2⟩, va_recv hKs hPs (ci := 0) (q0 := 0) rfl rfl, fun U hU hW => ⟨rfl, sPre.of hEE hPs hKs hE hS (hBR.sa _ hS.1) hU hW⟩⟩ rfl rfl hl.1 rfl (lv_room (Nat.le_of_ble_eq_true rfl)) dX11_appendName_35 ⟨Nat.le_of_ble_eq_true rfl, Nat.le_of_ble_eq_true rfl⟩) hS (fun q _ h => hBR.sa _ hS.1 q h) (hBR.sa _ hS.1) (fun x r56 t H5 locs ht hvm hw hB hz hk hS => ?_)
                obtain ⟨hw, hr9, hB⟩ := hB
                subst hr9
                obtain ⟨hPt, hK2, hne2, hv2, hF2⟩ := hB
                rw [ht] at hPt
                have hK2 := va_K.moved hvm.symm hK2
                obtain ⟨v57, cB58, nb59, f60, ml61, cn62⟩ := x
                dsimp only at hPt hK2 hne2 hv2 hF2 hw
                obtain ⟨rfl, rfl, rfl, rfl, hw⟩ := hw
                have hj := xjoin hN hP hK hBR hS0.1 hPt hK2 hk hne2 hv2
                rw [A19_self, C19_self] at hj
                obtain ⟨st63, est63⟩ : ∃ y, y = st19 st49 f60 ml61 (nI ((g6 + 1) + 1)) := ⟨_, rfl⟩
                rw [← est63] at hj
                have hst63a : st63 18 1 = 0 := by rw [est63]; rfl
                have hst63b : st63 18 3 = (nI ((g6 + 1) + 1)) := by rw [est63]; rfl
                have hfit : sb_Fit (st63 19) := by rw [est63]; exact hF2
                have hGst63 : XG [1, 2, 3, 4, 5, 6, 7, 8, 9, 10, 11, 12] st49 st63 := by rw [est63]; exact xg19 (XG.rf hG.1) (by decide) _ _ _
                have hG : XG [1, 2, 3, 4, 5, 6, 7, 8, 9, 10, 11, 12] st st63 := by rw [est63]; exact xg19 hG (by decide) _ _ _
                clear hK2 hne2 hv2 hF2 ht hvm est63 hPs hKs hk hz
                obtain ⟨hP, hK, hN, hBR⟩ := hj
                clear hw
                refine lv_pop hx hb dX11_appendName_38 rfl ?_
                refine lv_iinc (v := (-1)) (lv' := [(3, .int (-1)), (4, .int z52), (0, .ref (A 0)), (1, .long vw)]) hx hb dX11_appendName_39 hl (k := 1) rfl (by decide) (by decide) rfl (fun ls hl => ?_)
                refine lv_goto (tgt := 3) hx hb dX11_appendName_42 (by decide) ?_
                refine lv_iload_n hx hb dX11_appendName_3 rfl (lv_at hl 0 rfl) ?_
                refine lv_if_lt (tgt := 45) hx hb dX11_appendName_4 (by decide) (fun _ => ?_) (fun cc => absurd (by decide) cc)
                exact W.vret hx hb hr (fun t ht hW => ⟨⟨(st63, sl5, so), rfl, ⟨hG, rfl, ⟨((g6 + 1) + 1), by show st63 18 1 = 0; rw [hst63a], by show st63 18 3 = _; rw [hst63b], by omega, hfit⟩⟩, xB.of ht hP⟩, hS.F ht⟩) hS.2.2 dX11_appendName_45
          · refine lv_aload_n hx hb dX11_appendName_23 rfl (lv_at hl 2 rfl) ?_
            refine va_get (D := (dC, dI)) (ci := 10) (v := .ref (A 18)) (C := RX11) (T := TX11) (N := 19) hx hb hts ii_X11_appendName_X11 hown hK hP 0 (xw_is (r := 0) (by omega) (xc_fix (r := 0) (by omega))) rfl 14 (by decide) (hts _ mm_X11_appendName_1) (fun _ hh => hh) rfl dX11_appendName_24 ?_
            refine lv_bipush (v := 97) hx hb dX11_appendName_27 (by decide) ?_
            refine lv_iload hx hb dX11_appendName_29 (lv_at hl 0 rfl) ?_
            refine lv_iadd hx hb dX11_appendName_31 ?_
            refine lv_topi (fun z64 ez64 => ?_)
            clear ez64
            refine lv_iconst (v := 1) hx hb dX11_appendName_32 (by decide) ?_
            refine lv_isub hx hb dX11_appendName_33 ?_
            refine lv_topi (fun z65 ez65 => ?_)
            clear ez65
            refine lv_i2c (v := z65) hx hb dX11_appendName_34 ((sb_byte z65 (by omega)).2.1) ?_
            have hPs := xsub (cn := g6) hP (by rw [hv9_0]) (by rw [eg6])
            have hKs := xKsub hK
            have hns : A 18 ≠ A 19 := fun h9 => absurd (hN 18 19 (by omega) (by omega) h9) (by decide)
            have hS0 := hS
            refine va_callr (va_runV (As := [.int z65]) (rest := []) ⟨hx, hb, hml, hown, hts⟩ (s_J4_append_cf468 l dC dI ad E hEE (A 18) (A 19) (C 19) nb (st4 19) (st4 18 2) g6 _ z65 hns hfit (by omega) (by omega) (by omega) (by omega)) (cwV 1 hts gX11_appendName_J4_append_cf468 rfl rfl rfl (by decide +kernel) ⟨Nat.le_of_ble_eq_true rfl, Nat.le_of_ble_eq_true rfl⟩) ⟨fun a U g mk q => ⟨q.1, sPre.blind hEE q.2⟩, va_recv hKs hPs (ci := 0) (q0 := 0) rfl rfl, fun U hU hW => ⟨rfl, sPre.of hEE hPs hKs hE hS (hBR.sa _ hS.1) hU hW⟩⟩ rfl rfl hl.1 rfl (lv_room (Nat.le_of_ble_eq_true rfl)) dX11_appendName_35 ⟨Nat.le_of_ble_eq_true rfl, Nat.le_of_ble_eq_true rfl⟩) hS (fun q _ h => hBR.sa _ hS.1 q h) (hBR.sa _ hS.1) (fun x r66 t H5 locs ht hvm hw hB hz hk hS => ?_)
            obtain ⟨hw, hr9, hB⟩ := hB
            subst hr9
            obtain ⟨hPt, hK2, hne2, hv2, hF2⟩ := hB
            rw [ht] at hPt
            have hK2 := va_K.moved hvm.symm hK2
            obtain ⟨v67, cB68, nb69, f70, ml71, cn72⟩ := x
            dsimp only at hPt hK2 hne2 hv2 hF2 hw
            obtain ⟨rfl, rfl, rfl, rfl, hw⟩ := hw
            have hj := xjoin hN hP hK hBR hS0.1 hPt hK2 hk hne2 hv2
            rw [A19_self, C19_self] at hj
            obtain ⟨st73, est73⟩ : ∃ y, y = st19 st4 f70 ml71 (nI (g6 + 1)) := ⟨_, rfl⟩
            rw [← est73] at hj
            have hst73a : st73 18 1 = 0 := by rw [est73]; rfl
            have hst73b : st73 18 3 = (nI (g6 + 1)) := by rw [est73]; rfl
            have hfit : sb_Fit (st73 19) := by rw [est73]; exact hF2
            have hGst73 : XG [1, 2, 3, 4, 5, 6, 7, 8, 9, 10, 11, 12] st4 st73 := by rw [est73]; exact xg19 (XG.rf hG.1) (by decide) _ _ _
            have hG : XG [1, 2, 3, 4, 5, 6, 7, 8, 9, 10, 11, 12] st st73 := by rw [est73]; exact xg19 hG (by decide) _ _ _
            clear hK2 hne2 hv2 hF2 ht hvm est73 hPs hKs hk hz
            obtain ⟨hP, hK, hN, hBR⟩ := hj
            clear hw
            refine lv_pop hx hb dX11_appendName_38 rfl ?_
            refine lv_iinc (v := 1) (lv' := [(3, .int 1), (4, .int z23), (0, .ref (A 0)), (1, .long vw)]) hx hb dX11_appendName_39 hl (k := 1) rfl (by decide) (by decide) rfl (fun ls hl => ?_)
            refine lv_goto (tgt := 3) hx hb dX11_appendName_42 (by decide) ?_
            refine lv_iload_n hx hb dX11_appendName_3 rfl (lv_at hl 0 rfl) ?_
            refine lv_if_lt (tgt := 45) hx hb dX11_appendName_4 (by decide) (fun cc => absurd cc (by decide)) (fun _ => ?_)
            refine lv_lload_n hx hb dX11_appendName_7 rfl (lv_at hl 3 rfl) ?_
            refine lv_iload_n hx hb dX11_appendName_8 rfl (lv_at hl 0 rfl) ?_
            refine lv_iconst (v := 5) hx hb dX11_appendName_9 (by decide) ?_
            refine lv_imul hx hb dX11_appendName_10 ?_
            refine zz_top (v := 5) (by decide) ?_
            refine lv_lushr hx hb dX11_appendName_11 rfl ?_
            refine lv_topl (fun z74 ez74 => ?_)
            clear ez74
            refine lv_l2i hx hb dX11_appendName_12 rfl ?_
            refine lv_topi (fun z75 ez75 => ?_)
            clear ez75
            refine lv_bipush (v := 31) hx hb dX11_appendName_13 (by decide) ?_
            refine lv_iand hx hb dX11_appendName_15 ?_
            refine lv_topi (fun z76 ez76 => ?_)
            clear ez76
            refine lv_istore (lv' := [(4, .int z76), (3, .int 1), (0, .ref (A 0)), (1, .long vw)]) hx hb dX11_appendName_16 hl (by decide) rfl (fun ls hl => ?_)
            refine lv_iload hx hb dX11_appendName_18 (lv_at hl 0 rfl) ?_
            refine lv_if_eq (tgt := 39) hx hb dX11_appendName_20 (by decide) (fun c21 => ?_) (fun c21 => ?_)
            · refine lv_iinc (v := 0) (lv' := [(3, .int 0), (4, .int z76), (0, .ref (A 0)), (1, .long vw)]) hx hb dX11_appendName_39 hl (k := 1) rfl (by decide) (by decide) rfl (fun ls hl => ?_)
              refine lv_goto (tgt := 3) hx hb dX11_appendName_42 (by decide) ?_
              refine lv_iload_n hx hb dX11_appendName_3 rfl (lv_at hl 0 rfl) ?_
              refine lv_if_lt (tgt := 45) hx hb dX11_appendName_4 (by decide) (fun cc => absurd cc (by decide)) (fun _ => ?_)
              refine lv_lload_n hx hb dX11_appendName_7 rfl (lv_at hl 3 rfl) ?_
              refine lv_iload_n hx hb dX11_appendName_8 rfl (lv_at hl 0 rfl) ?_
              refine lv_iconst (v := 5) hx hb dX11_appendName_9 (by decide) ?_
              refine lv_imul hx hb dX11_appendName_10 ?_
              refine zz_top (v := 0) (by decide) ?_
              refine lv_lushr hx hb dX11_appendName_11 rfl ?_
              refine lv_topl (fun z77 ez77 => ?_)
              clear ez77
              refine lv_l2i hx hb dX11_appendName_12 rfl ?_
              refine lv_topi (fun z78 ez78 => ?_)
              clear ez78
              refine lv_bipush (v := 31) hx hb dX11_appendName_13 (by decide) ?_
              refine lv_iand hx hb dX11_appendName_15 ?_
              refine lv_topi (fun z79 ez79 => ?_)
              clear ez79
              refine lv_istore (lv' := [(4, .int z79), (3, .int 0), (0, .ref (A 0)), (1, .long vw)]) hx hb dX11_appendName_16 hl (by decide) rfl (fun ls hl => ?_)
              refine lv_iload hx hb dX11_appendName_18 (lv_at hl 0 rfl) ?_
              refine lv_if_eq (tgt := 39) hx hb dX11_appendName_20 (by decide) (fun c23 => ?_) (fun c23 => ?_)
              · refine lv_iinc (v := (-1)) (lv' := [(3, .int (-1)), (4, .int z79), (0, .ref (A 0)), (1, .long vw)]) hx hb dX11_appendName_39 hl (k := 1) rfl (by decide) (by decide) rfl (fun ls hl => ?_)
                refine lv_goto (tgt := 3) hx hb dX11_appendName_42 (by decide) ?_
                refine lv_iload_n hx hb dX11_appendName_3 rfl (lv_at hl 0 rfl) ?_
                refine lv_if_lt (tgt := 45) hx hb dX11_appendName_4 (by decide) (fun _ => ?_) (fun cc => absurd (by decide) cc)
                exact W.vret hx hb hr (fun t ht hW => ⟨⟨(st73, sl5, so), rfl, ⟨hG, rfl, ⟨(g6 + 1), by show st73 18 1 = 0; rw [hst73a], by show st73 18 3 = _; rw [hst73b], by omega, hfit⟩⟩, xB.of ht hP⟩, hS.F ht⟩) hS.2.2 dX11_appendName_45
              · refine lv_aload_n hx hb dX11_appendName_23 rfl (lv_at hl 2 rfl) ?_
                refine va_get (D := (dC, dI)) (ci := 10) (v := .ref (A 18)) (C := RX11) (T := TX11) (N := 19) hx hb hts ii_X11_appendName_X11 hown hK hP 0 (xw_is (r := 0) (by omega) (xc_fix (r := 0) (by omega))) rfl 14 (by decide) (hts _ mm_X11_appendName_1) (fun _ hh => hh) rfl dX11_appendName_24 ?_
                refine lv_bipush (v := 97) hx hb dX11_appendName_27 (by decide) ?_
                refine lv_iload hx hb dX11_appendName_29 (lv_at hl 0 rfl) ?_
                refine lv_iadd hx hb dX11_appendName_31 ?_
                refine lv_topi (fun z80 ez80 => ?_)
                clear ez80
                refine lv_iconst (v := 1) hx hb dX11_appendName_32 (by decide) ?_
                refine lv_isub hx hb dX11_appendName_33 ?_
                refine lv_topi (fun z81 ez81 => ?_)
                clear ez81
                refine lv_i2c hx hb dX11_appendName_34 rfl ?_
                refine lv_topi (fun z82 ez82 => ?_)
                clear ez82
                have hPs := xsub (cn := (g6 + 1)) hP (by rw [hst73a]) (by rw [hst73b])
                have hKs := xKsub hK
                have hns : A 18 ≠ A 19 := fun h9 => absurd (hN 18 19 (by omega) (by omega) h9) (by decide)
                have hS0 := hS
                refine va_callr (va_runV (As := [.int z82]) (rest := []) ⟨hx, hb, hml, hown, hts⟩ (s_J4_append_cf468 l dC dI ad E hEE (A 18) (A 19) (C 19) nb (st73 19) (st73 18 2) (g6 + 1) _ z82 hns hfit (by omega) (by omega) (by omega) (by omega)) (cwV 1 hts gX11_appendName_J4_append_cf468 rfl rfl rfl (by decide +kernel) ⟨Nat.le_of_ble_eq_true rfl, Nat.le_of_ble_eq_true rfl⟩) ⟨fun a U g mk q => ⟨q.1, sPre.blind hEE q.2⟩, va_recv hKs hPs (ci := 0) (q0 := 0) rfl rfl, fun U hU hW => ⟨rfl, sPre.of hEE hPs hKs hE hS (hBR.sa _ hS.1) hU hW⟩⟩ rfl rfl hl.1 rfl (lv_room (Nat.le_of_ble_eq_true rfl)) dX11_appendName_35 ⟨Nat.le_of_ble_eq_true rfl, Nat.le_of_ble_eq_true rfl⟩) hS (fun q _ h => hBR.sa _ hS.1 q h) (hBR.sa _ hS.1) (fun x r83 t H5 locs ht hvm hw hB hz hk hS => ?_)
                obtain ⟨hw, hr9, hB⟩ := hB
                subst hr9
                obtain ⟨hPt, hK2, hne2, hv2, hF2⟩ := hB
                rw [ht] at hPt
                have hK2 := va_K.moved hvm.symm hK2
                obtain ⟨v84, cB85, nb86, f87, ml88, cn89⟩ := x
                dsimp only at hPt hK2 hne2 hv2 hF2 hw
                obtain ⟨rfl, rfl, rfl, rfl, hw⟩ := hw
                have hj := xjoin hN hP hK hBR hS0.1 hPt hK2 hk hne2 hv2
                rw [A19_self, C19_self] at hj
                obtain ⟨st90, est90⟩ : ∃ y, y = st19 st73 f87 ml88 (nI ((g6 + 1) + 1)) := ⟨_, rfl⟩
                rw [← est90] at hj
                have hst90a : st90 18 1 = 0 := by rw [est90]; rfl
                have hst90b : st90 18 3 = (nI ((g6 + 1) + 1)) := by rw [est90]; rfl
                have hfit : sb_Fit (st90 19) := by rw [est90]; exact hF2
                have hGst90 : XG [1, 2, 3, 4, 5, 6, 7, 8, 9, 10, 11, 12] st73 st90 := by rw [est90]; exact xg19 (XG.rf hG.1) (by decide) _ _ _
                have hG : XG [1, 2, 3, 4, 5, 6, 7, 8, 9, 10, 11, 12] st st90 := by rw [est90]; exact xg19 hG (by decide) _ _ _
                clear hK2 hne2 hv2 hF2 ht hvm est90 hPs hKs hk hz
                obtain ⟨hP, hK, hN, hBR⟩ := hj
                clear hw
                refine lv_pop hx hb dX11_appendName_38 rfl ?_
                refine lv_iinc (v := (-1)) (lv' := [(3, .int (-1)), (4, .int z79), (0, .ref (A 0)), (1, .long vw)]) hx hb dX11_appendName_39 hl (k := 1) rfl (by decide) (by decide) rfl (fun ls hl => ?_)
                refine lv_goto (tgt := 3) hx hb dX11_appendName_42 (by decide) ?_
                refine lv_iload_n hx hb dX11_appendName_3 rfl (lv_at hl 0 rfl) ?_
                refine lv_if_lt (tgt := 45) hx hb dX11_appendName_4 (by decide) (fun _ => ?_) (fun cc => absurd (by decide) cc)
                exact W.vret hx hb hr (fun t ht hW => ⟨⟨(st90, sl5, so), rfl, ⟨hG, rfl, ⟨((g6 + 1) + 1), by show st90 18 1 = 0; rw [hst90a], by show st90 18 3 = _; rw [hst90b], by omega, hfit⟩⟩, xB.of ht hP⟩, hS.F ht⟩) hS.2.2 dX11_appendName_45
            · refine lv_aload_n hx hb dX11_appendName_23 rfl (lv_at hl 2 rfl) ?_
              refine va_get (D := (dC, dI)) (ci := 10) (v := .ref (A 18)) (C := RX11) (T := TX11) (N := 19) hx hb hts ii_X11_appendName_X11 hown hK hP 0 (xw_is (r := 0) (by omega) (xc_fix (r := 0) (by omega))) rfl 14 (by decide) (hts _ mm_X11_appendName_1) (fun _ hh => hh) rfl dX11_appendName_24 ?_
              refine lv_bipush (v := 97) hx hb dX11_appendName_27 (by decide) ?_
              refine lv_iload hx hb dX11_appendName_29 (lv_at hl 0 rfl) ?_
              refine lv_iadd hx hb dX11_appendName_31 ?_
              refine lv_topi (fun z91 ez91 => ?_)
              clear ez91
              refine lv_iconst (v := 1) hx hb dX11_appendName_32 (by decide) ?_
              refine lv_isub hx hb dX11_appendName_33 ?_
              refine lv_topi (fun z92 ez92 => ?_)
              clear ez92
              refine lv_i2c hx hb dX11_appendName_34 rfl ?_
              refine lv_topi (fun z93 ez93 => ?_)
              clear ez93
              have hPs := xsub (cn := (g6 + 1)) hP (by rw [hst73a]) (by rw [hst73b])
              have hKs := xKsub hK
              have hns : A 18 ≠ A 19 := fun h9 => absurd (hN 18 19 (by omega) (by omega) h9) (by decide)
              have hS0 := hS
              refine va_callr (va_runV (As := [.int z93]) (rest := []) ⟨hx, hb, hml, hown, hts⟩ (s_J4_append_cf468 l dC dI ad E hEE (A 18) (A 19) (C 19) nb (st73 19) (st73 18 2) (g6 + 1) _ z93 hns hfit (by omega) (by omega) (by omega) (by omega)) (cwV 1 hts gX11_appendName_J4_append_cf468 rfl rfl rfl (by decide +kernel) ⟨Nat.le_of_ble_eq_true rfl, Nat.le_of_ble_eq_true rfl⟩) ⟨fun a U g mk q => ⟨q.1, sPre.blind hEE q.2⟩, va_recv hKs hPs (ci := 0) (q0 := 0) rfl rfl, fun U hU hW => ⟨rfl, sPre.of hEE hPs hKs hE hS (hBR.sa _ hS.1) hU hW⟩⟩ rfl rfl hl.1 rfl (lv_room (Nat.le_of_ble_eq_true rfl)) dX11_appendName_35 ⟨Nat.le_of_ble_eq_true rfl, Nat.le_of_ble_eq_true rfl⟩) hS (fun q _ h => hBR.sa _ hS.1 q h) (hBR.sa _ hS.1) (fun x r94 t H5 locs ht hvm hw hB hz hk hS => ?_)
              obtain ⟨hw, hr9, hB⟩ := hB
              subst hr9
              obtain ⟨hPt, hK2, hne2, hv2, hF2⟩ := hB
              rw [ht] at hPt
              have hK2 := va_K.moved hvm.symm hK2
              obtain ⟨v95, cB96, nb97, f98, ml99, cn100⟩ := x
              dsimp only at hPt hK2 hne2 hv2 hF2 hw
              obtain ⟨rfl, rfl, rfl, rfl, hw⟩ := hw
              have hj := xjoin hN hP hK hBR hS0.1 hPt hK2 hk hne2 hv2
              rw [A19_self, C19_self] at hj
              obtain ⟨st101, est101⟩ : ∃ y, y = st19 st73 f98 ml99 (nI ((g6 + 1) + 1)) := ⟨_, rfl⟩
              rw [← est101] at hj
              have hst101a : st101 18 1 = 0 := by rw [est101]; rfl
              have hst101b : st101 18 3 = (nI ((g6 + 1) + 1)) := by rw [est101]; rfl
              have hfit : sb_Fit (st101 19) := by rw [est101]; exact hF2
              have hGst101 : XG [1, 2, 3, 4, 5, 6, 7, 8, 9, 10, 11, 12] st73 st101 := by rw [est101]; exact xg19 (XG.rf hG.1) (by decide) _ _ _
              have hG : XG [1, 2, 3, 4, 5, 6, 7, 8, 9, 10, 11, 12] st st101 := by rw [est101]; exact xg19 hG (by decide) _ _ _
              clear hK2 hne2 hv2 hF2 ht hvm est101 hPs hKs hk hz
              obtain ⟨hP, hK, hN, hBR⟩ := hj
              clear hw
              refine lv_pop hx hb dX11_appendName_38 rfl ?_
              refine lv_iinc (v := 0) (lv' := [(3, .int 0), (4, .int z76), (0, .ref (A 0)), (1, .long vw)]) hx hb dX11_appendName_39 hl (k := 1) rfl (by decide) (by decide) rfl (fun ls hl => ?_)
              refine lv_goto (tgt := 3) hx hb dX11_appendName_42 (by decide) ?_
              refine lv_iload_n hx hb dX11_appendName_3 rfl (lv_at hl 0 rfl) ?_
              refine lv_if_lt (tgt := 45) hx hb dX11_appendName_4 (by decide) (fun cc => absurd cc (by decide)) (fun _ => ?_)
              refine lv_lload_n hx hb dX11_appendName_7 rfl (lv_at hl 3 rfl) ?_
              refine lv_iload_n hx hb dX11_appendName_8 rfl (lv_at hl 0 rfl) ?_
              refine lv_iconst (v := 5) hx hb dX11_appendName_9 (by decide) ?_
              refine lv_imul hx hb dX11_appendName_10 ?_
              refine zz_top (v := 0) (by decide) ?_
              refine lv_lushr hx hb dX11_appendName_11 rfl ?_
              refine lv_topl (fun z102 ez102 => ?_)
              clear ez102
              refine lv_l2i hx hb dX11_appendName_12 rfl ?_
              refine lv_topi (fun z103 ez103 => ?_)
              clear ez103
              refine lv_bipush (v := 31) hx hb dX11_appendName_13 (by decide) ?_
              refine lv_iand hx hb dX11_appendName_15 ?_
              refine lv_topi (fun z104 ez104 => ?_)
              clear ez104
              refine lv_istore (lv' := [(4, .int z104), (3, .int 0), (0, .ref (A 0)), (1, .long vw)]) hx hb dX11_appendName_16 hl (by decide) rfl (fun ls hl => ?_)
              refine lv_iload hx hb dX11_appendName_18 (lv_at hl 0 rfl) ?_
              refine lv_if_eq (tgt := 39) hx hb dX11_appendName_20 (by decide) (fun c27 => ?_) (fun c27 => ?_)
              · refine lv_iinc (v := (-1)) (lv' := [(3, .int (-1)), (4, .int z104), (0, .ref (A 0)), (1, .long vw)]) hx hb dX11_appendName_39 hl (k := 1) rfl (by decide) (by decide) rfl (fun ls hl => ?_)
                refine lv_goto (tgt := 3) hx hb dX11_appendName_42 (by decide) ?_
                refine lv_iload_n hx hb dX11_appendName_3 rfl (lv_at hl 0 rfl) ?_
                refine lv_if_lt (tgt := 45) hx hb dX11_appendName_4 (by decide) (fun _ => ?_) (fun cc => absurd (by decide) cc)
                exact W.vret hx hb hr (fun t ht hW => ⟨⟨(st101, sl5, so), rfl, ⟨hG, rfl, ⟨((g6 + 1) + 1), by show st101 18 1 = 0; rw [hst101a], by show st101 18 3 = _; rw [hst101b], by omega, hfit⟩⟩, xB.of ht hP⟩, hS.F ht⟩) hS.2.2 dX11_appendName_45
              · refine lv_aload_n hx hb dX11_appendName_23 rfl (lv_at hl 2 rfl) ?_
                refine va_get (D := (dC, dI)) (ci := 10) (v := .ref (A 18)) (C := RX11) (T := TX11) (N := 19) hx hb hts ii_X11_appendName_X11 hown hK hP 0 (xw_is (r := 0) (by omega) (xc_fix (r := 0) (by omega))) rfl 14 (by decide) (hts _ mm_X11_appendName_1) (fun _ hh => hh) rfl dX11_appendName_24 ?_
                refine lv_bipush (v := 97) hx hb dX11_appendName_27 (by decide) ?_
                refine lv_iload hx hb dX11_appendName_29 (lv_at hl 0 rfl) ?_
                refine lv_iadd hx hb dX11_appendName_31 ?_
                refine lv_topi (fun z105 ez105 => ?_)
                clear ez105
                refine lv_iconst (v := 1) hx hb dX11_appendName_32 (by decide) ?_
                refine lv_isub hx hb dX11_appendName_33 ?_
                refine lv_topi (fun z106 ez106 => ?_)
                clear ez106
                refine lv_i2c hx hb dX11_appendName_34 rfl ?_
                refine lv_topi (fun z107 ez107 => ?_)
                clear ez107
                have hPs := xsub (cn := ((g6 + 1) + 1)) hP (by rw [hst101a]) (by rw [hst101b])
                have hKs := xKsub hK
                have hns : A 18 ≠ A 19 := fun h9 => absurd (hN 18 19 (by omega) (by omega) h9) (by decide)
                have hS0 := hS
                refine va_callr (va_runV (As := [.int z107]) (rest := []) ⟨hx, hb, hml, hown, hts⟩ (s_J4_append_cf468 l dC dI ad E hEE (A 18) (A 19) (C 19) nb (st101 19) (st101 18 2) ((g6 + 1) + 1) _ z107 hns hfit (by omega) (by omega) (by omega) (by omega)) (cwV 1 hts gX11_appendName_J4_append_cf468 rfl rfl rfl (by decide +kernel) ⟨Nat.le_of_ble_eq_true rfl, Nat.le_of_ble_eq_true rfl⟩) ⟨fun a U g mk q => ⟨q.1, sPre.blind hEE q.2⟩, va_recv hKs hPs (ci := 0) (q0 := 0) rfl rfl, fun U hU hW => ⟨rfl, sPre.of hEE hPs hKs hE hS (hBR.sa _ hS.1) hU hW⟩⟩ rfl rfl hl.1 rfl (lv_room (Nat.le_of_ble_eq_true rfl)) dX11_appendName_35 ⟨Nat.le_of_ble_eq_true rfl, Nat.le_of_ble_eq_true rfl⟩) hS (fun q _ h => hBR.sa _ hS.1 q h) (hBR.sa _ hS.1) (fun x r108 t H5 locs ht hvm hw hB hz hk hS => ?_)
                obtain ⟨hw, hr9, hB⟩ := hB
                subst hr9
                obtain ⟨hPt, hK2, hne2, hv2, hF2⟩ := hB
                rw [ht] at hPt
                have hK2 := va_K.moved hvm.symm hK2
                obtain ⟨v109, cB110, nb111, f112, ml113, cn114⟩ := x
                dsimp only at hPt hK2 hne2 hv2 hF2 hw
                obtain ⟨rfl, rfl, rfl, rfl, hw⟩ := hw
                have hj := xjoin hN hP hK hBR hS0.1 hPt hK2 hk hne2 hv2
                rw [A19_self, C19_self] at hj
                obtain ⟨st115, est115⟩ : ∃ y, y = st19 st101 f112 ml113 (nI (((g6 + 1) + 1) + 1)) := ⟨_, rfl⟩
                rw [← est115] at hj
                have hst115a : st115 18 1 = 0 := by rw [est115]; rfl
                have hst115b : st115 18 3 = (nI (((g6 + 1) + 1) + 1)) := by rw [est115]; rfl
                have hfit : sb_Fit (st115 19) := by rw [est115]; exact hF2
                have hGst115 : XG [1, 2, 3, 4, 5, 6, 7, 8, 9, 10, 11, 12] st101 st115 := by rw [est115]; exact xg19 (XG.rf hG.1) (by decide) _ _ _
                have hG : XG [1, 2, 3, 4, 5, 6, 7, 8, 9, 10, 11, 12] st st115 := by rw [est115]; exact xg19 hG (by decide) _ _ _
                clear hK2 hne2 hv2 hF2 ht hvm est115 hPs hKs hk hz
                obtain ⟨hP, hK, hN, hBR⟩ := hj
                clear hw
                refine lv_pop hx hb dX11_appendName_38 rfl ?_
                refine lv_iinc (v := (-1)) (lv' := [(3, .int (-1)), (4, .int z104), (0, .ref (A 0)), (1, .long vw)]) hx hb dX11_appendName_39 hl (k := 1) rfl (by decide) (by decide) rfl (fun ls hl => ?_)
                refine lv_goto (tgt := 3) hx hb dX11_appendName_42 (by decide) ?_
                refine lv_iload_n hx hb dX11_appendName_3 rfl (lv_at hl 0 rfl) ?_
                refine lv_if_lt (tgt := 45) hx hb dX11_appendName_4 (by decide) (fun _ => ?_) (fun cc => absurd (by decide) cc)
                exact W.vret hx hb hr (fun t ht hW => ⟨⟨(st115, sl5, so), rfl, ⟨hG, rfl, ⟨(((g6 + 1) + 1) + 1), by show st115 18 1 = 0; rw [hst115a], by show st115 18 3 = _; rw [hst115b], by omega, hfit⟩⟩, xB.of ht hP⟩, hS.F ht⟩) hS.2.2 dX11_appendName_45
        · refine lv_aload_n hx hb dX11_appendName_23 rfl (lv_at hl 2 rfl) ?_
          refine va_get (D := (dC, dI)) (ci := 10) (v := .ref (A 18)) (C := RX11) (T := TX11) (N := 19) hx hb hts ii_X11_appendName_X11 hown hK hP 0 (xw_is (r := 0) (by omega) (xc_fix (r := 0) (by omega))) rfl 14 (by decide) (hts _ mm_X11_appendName_1) (fun _ hh => hh) rfl dX11_appendName_24 ?_
          refine lv_bipush (v := 97) hx hb dX11_appendName_27 (by decide) ?_
          refine lv_iload hx hb dX11_appendName_29 (lv_at hl 0 rfl) ?_
          refine lv_iadd hx hb dX11_appendName_31 ?_
          refine lv_topi (fun z116 ez116 => ?_)
          clear ez116
          refine lv_iconst (v := 1) hx hb dX11_appendName_32 (by decide) ?_
          refine lv_isub hx hb dX11_appendName_33 ?_
          refine lv_topi (fun z117 ez117 => ?_)
          clear ez117
          refine lv_i2c (v := z117) hx hb dX11_appendName_34 ((sb_byte z117 (by omega)).2.1) ?_
          have hPs := xsub (cn := g6) hP (by rw [hv9_0]) (by rw [eg6])
          have hKs := xKsub hK
          have hns : A 18 ≠ A 19 := fun h9 => absurd (hN 18 19 (by omega) (by omega) h9) (by decide)
          have hS0 := hS
          refine va_callr (va_runV (As := [.int z117]) (rest := []) ⟨hx, hb, hml, hown, hts⟩ (s_J4_append_cf468 l dC dI ad E hEE (A 18) (A 19) (C 19) nb (st4 19) (st4 18 2) g6 _ z117 hns hfit (by omega) (by omega) (by omega) (by omega)) (cwV 1 hts gX11_appendName_J4_append_cf468 rfl rfl rfl (by decide +kernel) ⟨Nat.le_of_ble_eq_true rfl, Nat.le_of_ble_eq_true rfl⟩) ⟨fun a U g mk q => ⟨q.1, sPre.blind hEE q.2⟩, va_recv hKs hPs (ci := 0) (q0 := 0) rfl rfl, fun U hU hW => ⟨rfl, sPre.of hEE hPs hKs hE hS (hBR.sa _ hS.1) hU hW⟩⟩ rfl rfl hl.1 rfl (lv_room (Nat.le_of_ble_eq_true rfl)) dX11_appendName_35 ⟨Nat.le_of_ble_eq_true rfl, Nat.le_of_ble_eq_true rfl⟩) hS (fun q _ h => hBR.sa _ hS.1 q h) (hBR.sa _ hS.1) (fun x r118 t H5 locs ht hvm hw hB hz hk hS => ?_)
          obtain ⟨hw, hr9, hB⟩ := hB
          subst hr9
          obtain ⟨hPt, hK2, hne2, hv2, hF2⟩ := hB
          rw [ht] at hPt
          have hK2 := va_K.moved hvm.symm hK2
          obtain ⟨v119, cB120, nb121, f122, ml123, cn124⟩ := x
          dsimp only at hPt hK2 hne2 hv2 hF2 hw
          obtain ⟨rfl, rfl, rfl, rfl, hw⟩ := hw
          have hj := xjoin hN hP hK hBR hS0.1 hPt hK2 hk hne2 hv2
          rw [A19_self, C19_self] at hj
          obtain ⟨st125, est125⟩ : ∃ y, y = st19 st4 f122 ml123 (nI (g6 + 1)) := ⟨_, rfl⟩
          rw [← est125] at hj
          have hst125a : st125 18 1 = 0 := by rw [est125]; rfl
          have hst125b : st125 18 3 = (nI (g6 + 1)) := by rw [est125]; rfl
          have hfit : sb_Fit (st125 19) := by rw [est125]; exact hF2
          have hGst125 : XG [1, 2, 3, 4, 5, 6, 7, 8, 9, 10, 11, 12] st4 st125 := by rw [est125]; exact xg19 (XG.rf hG.1) (by decide) _ _ _
          have hG : XG [1, 2, 3, 4, 5, 6, 7, 8, 9, 10, 11, 12] st st125 := by rw [est125]; exact xg19 hG (by decide) _ _ _
          clear hK2 hne2 hv2 hF2 ht hvm est125 hPs hKs hk hz
          obtain ⟨hP, hK, hN, hBR⟩ := hj
          clear hw
          refine lv_pop hx hb dX11_appendName_38 rfl ?_
          refine lv_iinc (v := 2) (lv' := [(3, .int 2), (4, .int z20), (0, .ref (A 0)), (1, .long vw)]) hx hb dX11_appendName_39 hl (k := 1) rfl (by decide) (by decide) rfl (fun ls hl => ?_)
          refine lv_goto (tgt := 3) hx hb dX11_appendName_42 (by decide) ?_
          refine lv_iload_n hx hb dX11_appendName_3 rfl (lv_at hl 0 rfl) ?_
          refine lv_if_lt (tgt := 45) hx hb dX11_appendName_4 (by decide) (fun cc => absurd cc (by decide)) (fun _ => ?_)
          refine lv_lload_n hx hb dX11_appendName_7 rfl (lv_at hl 3 rfl) ?_
          refine lv_iload_n hx hb dX11_appendName_8 rfl (lv_at hl 0 rfl) ?_
          refine lv_iconst (v := 5) hx hb dX11_appendName_9 (by decide) ?_
          refine lv_imul hx hb dX11_appendName_10 ?_
          refine zz_top (v := 10) (by decide) ?_
          refine lv_lushr hx hb dX11_appendName_11 rfl ?_
          refine lv_topl (fun z126 ez126 => ?_)
          clear ez126
          refine lv_l2i hx hb dX11_appendName_12 rfl ?_
          refine lv_topi (fun z127 ez127 => ?_)
          clear ez127
          refine lv_bipush (v := 31) hx hb dX11_appendName_13 (by decide) ?_
          refine lv_iand hx hb dX11_appendName_15 ?_
          refine lv_topi (fun z128 ez128 => ?_)
          clear ez128
          refine lv_istore (lv' := [(4, .int z128), (3, .int 2), (0, .ref (A 0)), (1, .long vw)]) hx hb dX11_appendName_16 hl (by decide) rfl (fun ls hl => ?_)
          refine lv_iload hx hb dX11_appendName_18 (lv_at hl 0 rfl) ?_
          refine lv_if_eq (tgt := 39) hx hb dX11_appendName_20 (by decide) (fun c31 => ?_) (fun c31 => ?_)
          · refine lv_iinc (v := 1) (lv' := [(3, .int 1), (4, .int z128), (0, .ref (A 0)), (1, .long vw)]) hx hb dX11_appendName_39 hl (k := 1) rfl (by decide) (by decide) rfl (fun ls hl => ?_)
            refine lv_goto (tgt := 3) hx hb dX11_appendName_42 (by decide) ?_
            refine lv_iload_n hx hb dX11_appendName_3 rfl (lv_at hl 0 rfl) ?_
            refine lv_if_lt (tgt := 45) hx hb dX11_appendName_4 (by decide) (fun cc => absurd cc (by decide)) (fun _ => ?_)
            refine lv_lload_n hx hb dX11_appendName_7 rfl (lv_at hl 3 rfl) ?_
            refine lv_iload_n hx hb dX11_appendName_8 rfl (lv_at hl 0 rfl) ?_
            refine lv_iconst (v := 5) hx hb dX11_appendName_9 (by decide) ?_
            refine lv_imul hx hb dX11_appendName_10 ?_
            refine zz_top (v := 5) (by decide) ?_
            refine lv_lushr hx hb dX11_appendName_11 rfl ?_
            refine lv_topl (fun z129 ez129 => ?_)
            clear ez129
            refine lv_l2i hx hb dX11_appendName_12 rfl ?_
            refine lv_topi (fun z130 ez130 => ?_)
            clear ez130
            refine lv_bipush (v := 31) hx hb dX11_appendName_13 (by decide) ?_
            refine lv_iand hx hb dX11_appendName_15 ?_
            refine lv_topi (fun z131 ez131 => ?_)
            clear ez131
            refine lv_istore (lv' := [(4, .int z131), (3, .int 1), (0, .ref (A 0)), (1, .long vw)]) hx hb dX11_appendName_16 hl (by decide) rfl (fun ls hl => ?_)
            refine lv_iload hx hb dX11_appendName_18 (lv_at hl 0 rfl) ?_
            refine lv_if_eq (tgt := 39) hx hb dX11_appendName_20 (by decide) (fun c33 => ?_) (fun c33 => ?_)
            · refine lv_iinc (v := 0) (lv' := [(3, .int 0), (4, .int z131), (0, .ref (A 0)), (1, .long vw)]) hx hb dX11_appendName_39 hl (k := 1) rfl (by decide) (by decide) rfl (fun ls hl => ?_)
              refine lv_goto (tgt := 3) hx hb dX11_appendName_42 (by decide) ?_
              refine lv_iload_n hx hb dX11_appendName_3 rfl (lv_at hl 0 rfl) ?_
              refine lv_if_lt (tgt := 45) hx hb dX11_appendName_4 (by decide) (fun cc => absurd cc (by decide)) (fun _ => ?_)
              refine lv_lload_n hx hb dX11_appendName_7 rfl (lv_at hl 3 rfl) ?_
              refine lv_iload_n hx hb dX11_appendName_8 rfl (lv_at hl 0 rfl) ?_
              refine lv_iconst (v := 5) hx hb dX11_appendName_9 (by decide) ?_
              refine lv_imul hx hb dX11_appendName_10 ?_
              refine zz_top (v := 0) (by decide) ?_
              refine lv_lushr hx hb dX11_appendName_11 rfl ?_
              refine lv_topl (fun z132 ez132 => ?_)
              clear ez132
              refine lv_l2i hx hb dX11_appendName_12 rfl ?_
              refine lv_topi (fun z133 ez133 => ?_)
              clear ez133
              refine lv_bipush (v := 31) hx hb dX11_appendName_13 (by decide) ?_
              refine lv_iand hx hb dX11_appendName_15 ?_
              refine lv_topi (fun z134 ez134 => ?_)
              clear ez134
              refine lv_istore (lv' := [(4, .int z134), (3, .int 0), (0, .ref (A 0)), (1, .long vw)]) hx hb dX11_appendName_16 hl (by decide) rfl (fun ls hl => ?_)
              refine lv_iload hx hb dX11_appendName_18 (lv_at hl 0 rfl) ?_
              refine lv_if_eq (tgt := 39) hx hb dX11_appendName_20 (by decide) (fun c35 => ?_) (fun c35 => ?_)
              · refine lv_iinc (v := (-1)) (lv' := [(3, .int (-1)), (4, .int z134), (0, .ref (A 0)), (1, .long vw)]) hx hb dX11_appendName_39 hl (k := 1) rfl (by decide) (by decide) rfl (fun ls hl => ?_)
                refine lv_goto (tgt := 3) hx hb dX11_appendName_42 (by decide) ?_
                refine lv_iload_n hx hb dX11_appendName_3 rfl (lv_at hl 0 rfl) ?_
                refine lv_if_lt (tgt := 45) hx hb dX11_appendName_4 (by decide) (fun _ => ?_) (fun cc => absurd (by decide) cc)
                exact W.vret hx hb hr (fun t ht hW => ⟨⟨(st125, sl5, so), rfl, ⟨hG, rfl, ⟨(g6 + 1), by show st125 18 1 = 0; rw [hst125a], by show st125 18 3 = _; rw [hst125b], by omega, hfit⟩⟩, xB.of ht hP⟩, hS.F ht⟩) hS.2.2 dX11_appendName_45
              · refine lv_aload_n hx hb dX11_appendName_23 rfl (lv_at hl 2 rfl) ?_
                refine va_get (D := (dC, dI)) (ci := 10) (v := .ref (A 18)) (C := RX11) (T := TX11) (N := 19) hx hb hts ii_X11_appendName_X11 hown hK hP 0 (xw_is (r := 0) (by omega) (xc_fix (r := 0) (by omega))) rfl 14 (by decide) (hts _ mm_X11_appendName_1) (fun _ hh => hh) rfl dX11_appendName_24 ?_
                refine lv_bipush (v := 97) hx hb dX11_appendName_27 (by decide) ?_
                refine lv_iload hx hb dX11_appendName_29 (lv_at hl 0 rfl) ?_
                refine lv_iadd hx hb dX11_appendName_31 ?_
                refine lv_topi (fun z135 ez135 => ?_)
                clear ez135
                refine lv_iconst (v := 1) hx hb dX11_appendName_32 (by decide) ?_
                refine lv_isub hx hb dX11_appendName_33 ?_
                refine lv_topi (fun z136 ez136 => ?_)
                clear ez136
                refine lv_i2c hx hb dX11_appendName_34 rfl ?_
                refine lv_topi (fun z137 ez137 => ?_)
                clear ez137
                have hPs := xsub (cn := (g6 + 1)) hP (by rw [hst125a]) (by rw [hst125b])
                have hKs := xKsub hK
                have hns : A 18 ≠ A 19 := fun h9 => absurd (hN 18 19 (by omega) (by omega) h9) (by decide)
                have hS0 := hS
                refine va_callr (va_runV (As := [.int z137]) (rest := []) ⟨hx, hb, hml, hown, hts⟩ (s_J4_append_cf468 l dC dI ad E hEE (A 18) (A 19) (C 19) nb (st125 19) (st125 18 2) (g6 + 1) _ z137 hns hfit (by omega) (by omega) (by omega) (by omega)) (cwV 1 hts gX11_appendName_J4_append_cf468 rfl rfl rfl (by decide +kernel) ⟨Nat.le_of_ble_eq_true rfl, Nat.le_of_ble_eq_true rfl⟩) ⟨fun a U g mk q => ⟨q.1, sPre.blind hEE q.2⟩, va_recv hKs hPs (ci := 0) (q0 := 0) rfl rfl, fun U hU hW => ⟨rfl, sPre.of hEE hPs hKs hE hS (hBR.sa _ hS.1) hU hW⟩⟩ rfl rfl hl.1 rfl (lv_room (Nat.le_of_ble_eq_true rfl)) dX11_appendName_35 ⟨Nat.le_of_ble_eq_true rfl, Nat.le_of_ble_eq_true rfl⟩) hS (fun q _ h => hBR.sa _ hS.1 q h) (hBR.sa _ hS.1) (fun x r138 t H5 locs ht hvm hw hB hz hk hS => ?_)
                obtain ⟨hw, hr9, hB⟩ := hB
                subst hr9
                obtain ⟨hPt, hK2, hne2, hv2, hF2⟩ := hB
                rw [ht] at hPt
                have hK2 := va_K.moved hvm.symm hK2
                obtain ⟨v139, cB140, nb141, f142, ml143, cn144⟩ := x
                dsimp only at hPt hK2 hne2 hv2 hF2 hw
                obtain ⟨rfl, rfl, rfl, rfl, hw⟩ := hw
                have hj := xjoin hN hP hK hBR hS0.1 hPt hK2 hk hne2 hv2
                rw [A19_self, C19_self] at hj
                obtain ⟨st145, est145⟩ : ∃ y, y = st19 st125 f142 ml143 (nI ((g6 + 1) + 1)) := ⟨_, rfl⟩
                rw [← est145] at hj
                have hst145a : st145 18 1 = 0 := by rw [est145]; rfl
                have hst145b : st145 18 3 = (nI ((g6 + 1) + 1)) := by rw [est145]; rfl
                have hfit : sb_Fit (st145 19) := by rw [est145]; exact hF2
                have hGst145 : XG [1, 2, 3, 4, 5, 6, 7, 8, 9, 10, 11, 12] st125 st145 := by rw [est145]; exact xg19 (XG.rf hG.1) (by decide) _ _ _
                have hG : XG [1, 2, 3, 4, 5, 6, 7, 8, 9, 10, 11, 12] st st145 := by rw [est145]; exact xg19 hG (by decide) _ _ _
                clear hK2 hne2 hv2 hF2 ht hvm est145 hPs hKs hk hz
                obtain ⟨hP, hK, hN, hBR⟩ := hj
                clear hw
                refine lv_pop hx hb dX11_appendName_38 rfl ?_
                refine lv_iinc (v := (-1)) (lv' := [(3, .int (-1)), (4, .int z134), (0, .ref (A 0)), (1, .long vw)]) hx hb dX11_appendName_39 hl (k := 1) rfl (by decide) (by decide) rfl (fun ls hl => ?_)
                refine lv_goto (tgt := 3) hx hb dX11_appendName_42 (by decide) ?_
                refine lv_iload_n hx hb dX11_appendName_3 rfl (lv_at hl 0 rfl) ?_
                refine lv_if_lt (tgt := 45) hx hb dX11_appendName_4 (by decide) (fun _ => ?_) (fun cc => absurd (by decide) cc)
                exact W.vret hx hb hr (fun t ht hW => ⟨⟨(st145, sl5, so), rfl, ⟨hG, rfl, ⟨((g6 + 1) + 1), by show st145 18 1 = 0; rw [hst145a], by show st145 18 3 = _; rw [hst145b], by omega, hfit⟩⟩, xB.of ht hP⟩, hS.F ht⟩) hS.2.2 dX11_appendName_45
            · refine lv_aload_n hx hb dX11_appendName_23 rfl (lv_at hl 2 rfl) ?_
              refine va_get (D := (dC, dI)) (ci := 10) (v := .ref (A 18)) (C := RX11) (T := TX11) (N := 19) hx hb hts ii_X11_appendName_X11 hown hK hP 0 (xw_is (r := 0) (by omega) (xc_fix (r := 0) (by omega))) rfl 14 (by decide) (hts _ mm_X11_appendName_1) (fun _ hh => hh) rfl dX11_appendName_24 ?_
              refine lv_bipush (v := 97) hx hb dX11_appendName_27 (by decide) ?_
              refine lv_iload hx hb dX11_appendName_29 (lv_at hl 0 rfl) ?_
              refine lv_iadd hx hb dX11_appendName_31 ?_
              refine lv_topi (fun z146 ez146 => ?_)
              clear ez146
              refine lv_iconst (v := 1) hx hb dX11_appendName_32 (by decide) ?_
              refine lv_isub hx hb dX11_appendName_33 ?_
              refine lv_topi (fun z147 ez147 => ?_)
              clear ez147
              refine lv_i2c hx hb dX11_appendName_34 rfl ?_
              refine lv_topi (fun z148 ez148 => ?_)
              clear ez148
              have hPs := xsub (cn := (g6 + 1)) hP (by rw [hst125a]) (by rw [hst125b])
              have hKs := xKsub hK
              have hns : A 18 ≠ A 19 := fun h9 => absurd (hN 18 19 (by omega) (by omega) h9) (by decide)
              have hS0 := hS
              refine va_callr (va_runV (As := [.int z148]) (rest := []) ⟨hx, hb, hml, hown, hts⟩ (s_J4_append_cf468 l dC dI ad E hEE (A 18) (A 19) (C 19) nb (st125 19) (st125 18 2) (g6 + 1) _ z148 hns hfit (by omega) (by omega) (by omega) (by omega)) (cwV 1 hts gX11_appendName_J4_append_cf468 rfl rfl rfl (by decide +kernel) ⟨Nat.le_of_ble_eq_true rfl, Nat.le_of_ble_eq_true rfl⟩) ⟨fun a U g mk q => ⟨q.1, sPre.blind hEE q.2⟩, va_recv hKs hPs (ci := 0) (q0 := 0) rfl rfl, fun U hU hW => ⟨rfl, sPre.of hEE hPs hKs hE hS (hBR.sa _ hS.1) hU hW⟩⟩ rfl rfl hl.1 rfl (lv_room (Nat.le_of_ble_eq_true rfl)) dX11_appendName_35 ⟨Nat.le_of_ble_eq_true rfl, Nat.le_of_ble_eq_true rfl⟩) hS (fun q _ h => hBR.sa _ hS.1 q h) (hBR.sa _ hS.1) (fun x r149 t H5 locs ht hvm hw hB hz hk hS => ?_)
              obtain ⟨hw, hr9, hB⟩ := hB
              subst hr9
              obtain ⟨hPt, hK2, hne2, hv2, hF2⟩ := hB
              rw [ht] at hPt
              have hK2 := va_K.moved hvm.symm hK2
              obtain ⟨v150, cB151, nb152, f153, ml154, cn155⟩ := x
              dsimp only at hPt hK2 hne2 hv2 hF2 hw
              obtain ⟨rfl, rfl, rfl, rfl, hw⟩ := hw
              have hj := xjoin hN hP hK hBR hS0.1 hPt hK2 hk hne2 hv2
              rw [A19_self, C19_self] at hj
              obtain ⟨st156, est156⟩ : ∃ y, y = st19 st125 f153 ml154 (nI ((g6 + 1) + 1)) := ⟨_, rfl⟩
              rw [← est156] at hj
              have hst156a : st156 18 1 = 0 := by rw [est156]; rfl
              have hst156b : st156 18 3 = (nI ((g6 + 1) + 1)) := by rw [est156]; rfl
              have hfit : sb_Fit (st156 19) := by rw [est156]; exact hF2
              have hGst156 : XG [1, 2, 3, 4, 5, 6, 7, 8, 9, 10, 11, 12] st125 st156 := by rw [est156]; exact xg19 (XG.rf hG.1) (by decide) _ _ _
              have hG : XG [1, 2, 3, 4, 5, 6, 7, 8, 9, 10, 11, 12] st st156 := by rw [est156]; exact xg19 hG (by decide) _ _ _
              clear hK2 hne2 hv2 hF2 ht hvm est156 hPs hKs hk hz
              obtain ⟨hP, hK, hN, hBR⟩ := hj
              clear hw
              refine lv_pop hx hb dX11_appendName_38 rfl ?_
              refine lv_iinc (v := 0) (lv' := [(3, .int 0), (4, .int z131), (0, .ref (A 0)), (1, .long vw)]) hx hb dX11_appendName_39 hl (k := 1) rfl (by decide) (by decide) rfl (fun ls hl => ?_)
              refine lv_goto (tgt := 3) hx hb dX11_appendName_42 (by decide) ?_
              refine lv_iload_n hx hb dX11_appendName_3 rfl (lv_at hl 0 rfl) ?_
              refine lv_if_lt (tgt := 45) hx hb dX11_appendName_4 (by decide) (fun cc => absurd cc (by decide)) (fun _ => ?_)
              refine lv_lload_n hx hb dX11_appendName_7 rfl (lv_at hl 3 rfl) ?_
              refine lv_iload_n hx hb dX11_appendName_8 rfl (lv_at hl 0 rfl) ?_
              refine lv_iconst (v := 5) hx hb dX11_appendName_9 (by decide) ?_
              refine lv_imul hx hb dX11_appendName_10 ?_
              refine zz_top (v := 0) (by decide) ?_
              refine lv_lushr hx hb dX11_appendName_11 rfl ?_
              refine lv_topl (fun z157 ez157 => ?_)
              clear ez157
              refine lv_l2i hx hb dX11_appendName_12 rfl ?_
              refine lv_topi (fun z158 ez158 => ?_)
              clear ez158
              refine lv_bipush (v := 31) hx hb dX11_appendName_13 (by decide) ?_
              refine lv_iand hx hb dX11_appendName_15 ?_
              refine lv_topi (fun z159 ez159 => ?_)
              clear ez159
              refine lv_istore (lv' := [(4, .int z159), (3, .int 0), (0, .ref (A 0)), (1, .long vw)]) hx hb dX11_appendName_16 hl (by decide) rfl (fun ls hl => ?_)
              refine lv_iload hx hb dX11_appendName_18 (lv_at hl 0 rfl) ?_
              refine lv_if_eq (tgt := 39) hx hb dX11_appendName_20 (by decide) (fun c39 => ?_) (fun c39 => ?_)
              · refine lv_iinc (v := (-1)) (lv' := [(3, .int (-1)), (4, .int z159), (0, .ref (A 0)), (1, .long vw)]) hx hb dX11_appendName_39 hl (k := 1) rfl (by decide) (by decide) rfl (fun ls hl => ?_)
                refine lv_goto (tgt := 3) hx hb dX11_appendName_42 (by decide) ?_
                refine lv_iload_n hx hb dX11_appendName_3 rfl (lv_at hl 0 rfl) ?_
                refine lv_if_lt (tgt := 45) hx hb dX11_appendName_4 (by decide) (fun _ => ?_) (fun cc => absurd (by decide) cc)
                exact W.vret hx hb hr (fun t ht hW => ⟨⟨(st156, sl5, so), rfl, ⟨hG, rfl, ⟨((g6 + 1) + 1), by show st156 18 1 = 0; rw [hst156a], by show st156 18 3 = _; rw [hst156b], by omega, hfit⟩⟩, xB.of ht hP⟩, hS.F ht⟩) hS.2.2 dX11_appendName_45
              · refine lv_aload_n hx hb dX11_appendName_23 rfl (lv_at hl 2 rfl) ?_
                refine va_get (D := (dC, dI)) (ci := 10) (v := .ref (A 18)) (C := RX11) (T := TX11) (N := 19) hx hb hts ii_X11_appendName_X11 hown hK hP 0 (xw_is (r := 0) (by omega) (xc_fix (r := 0) (by omega))) rfl 14 (by decide) (hts _ mm_X11_appendName_1) (fun _ hh => hh) rfl dX11_appendName_24 ?_
                refine lv_bipush (v := 97) hx hb dX11_appendName_27 (by decide) ?_
                refine lv_iload hx hb dX11_appendName_29 (lv_at hl 0 rfl) ?_
                refine lv_iadd hx hb dX11_appendName_31 ?_
                refine lv_topi (fun z160 ez160 => ?_)
                clear ez160
                refine lv_iconst (v := 1) hx hb dX11_appendName_32 (by decide) ?_
                refine lv_isub hx hb dX11_appendName_33 ?_
                refine lv_topi (fun z161 ez161 => ?_)
                clear ez161
                refine lv_i2c hx hb dX11_appendName_34 rfl ?_
                refine lv_topi (fun z162 ez162 => ?_)
                clear ez162
                have hPs := xsub (cn := ((g6 + 1) + 1)) hP (by rw [hst156a]) (by rw [hst156b])
                have hKs := xKsub hK
                have hns : A 18 ≠ A 19 := fun h9 => absurd (hN 18 19 (by omega) (by omega) h9) (by decide)
                have hS0 := hS
                refine va_callr (va_runV (As := [.int z162]) (rest := []) ⟨hx, hb, hml, hown, hts⟩ (s_J4_append_cf468 l dC dI ad E hEE (A 18) (A 19) (C 19) nb (st156 19) (st156 18 2) ((g6 + 1) + 1) _ z162 hns hfit (by omega) (by omega) (by omega) (by omega)) (cwV 1 hts gX11_appendName_J4_append_cf468 rfl rfl rfl (by decide +kernel) ⟨Nat.le_of_ble_eq_true rfl, Nat.le_of_ble_eq_true rfl⟩) ⟨fun a U g mk q => ⟨q.1, sPre.blind hEE q.2⟩, va_recv hKs hPs (ci := 0) (q0 := 0) rfl rfl, fun U hU hW => ⟨rfl, sPre.of hEE hPs hKs hE hS (hBR.sa _ hS.1) hU hW⟩⟩ rfl rfl hl.1 rfl (lv_room (Nat.le_of_ble_eq_true rfl)) dX11_appendName_35 ⟨Nat.le_of_ble_eq_true rfl, Nat.le_of_ble_eq_true rfl⟩) hS (fun q _ h => hBR.sa _ hS.1 q h) (hBR.sa _ hS.1) (fun x r163 t H5 locs ht hvm hw hB hz hk hS => ?_)
                obtain ⟨hw, hr9, hB⟩ := hB
                subst hr9
                obtain ⟨hPt, hK2, hne2, hv2, hF2⟩ := hB
                rw [ht] at hPt
                have hK2 := va_K.moved hvm.symm hK2
                obtain ⟨v164, cB165, nb166, f167, ml168, cn169⟩ := x
                dsimp only at hPt hK2 hne2 hv2 hF2 hw
                obtain ⟨rfl, rfl, rfl, rfl, hw⟩ := hw
                have hj := xjoin hN hP hK hBR hS0.1 hPt hK2 hk hne2 hv2
                rw [A19_self, C19_self] at hj
                obtain ⟨st170, est170⟩ : ∃ y, y = st19 st156 f167 ml168 (nI (((g6 + 1) + 1) + 1)) := ⟨_, rfl⟩
                rw [← est170] at hj
                have hst170a : st170 18 1 = 0 := by rw [est170]; rfl
                have hst170b : st170 18 3 = (nI (((g6 + 1) + 1) + 1)) := by rw [est170]; rfl
                have hfit : sb_Fit (st170 19) := by rw [est170]; exact hF2
                have hGst170 : XG [1, 2, 3, 4, 5, 6, 7, 8, 9, 10, 11, 12] st156 st170 := by rw [est170]; exact xg19 (XG.rf hG.1) (by decide) _ _ _
                have hG : XG [1, 2, 3, 4, 5, 6, 7, 8, 9, 10, 11, 12] st st170 := by rw [est170]; exact xg19 hG (by decide) _ _ _
                clear hK2 hne2 hv2 hF2 ht hvm est170 hPs hKs hk hz
                obtain ⟨hP, hK, hN, hBR⟩ := hj
                clear hw
                refine lv_pop hx hb dX11_appendName_38 rfl ?_
                refine lv_iinc (v := (-1)) (lv' := [(3, .int (-1)), (4, .int z159), (0, .ref (A 0)), (1, .long vw)]) hx hb dX11_appendName_39 hl (k := 1) rfl (by decide) (by decide) rfl (fun ls hl => ?_)
                refine lv_goto (tgt := 3) hx hb dX11_appendName_42 (by decide) ?_
                refine lv_iload_n hx hb dX11_appendName_3 rfl (lv_at hl 0 rfl) ?_
                refine lv_if_lt (tgt := 45) hx hb dX11_appendName_4 (by decide) (fun _ => ?_) (fun cc => absurd (by decide) cc)
                exact W.vret hx hb hr (fun t ht hW => ⟨⟨(st170, sl5, so), rfl, ⟨hG, rfl, ⟨(((g6 + 1) + 1) + 1), by show st170 18 1 = 0; rw [hst170a], by show st170 18 3 = _; rw [hst170b], by omega, hfit⟩⟩, xB.of ht hP⟩, hS.F ht⟩) hS.2.2 dX11_appendName_45
          · refine lv_aload_n hx hb dX11_appendName_23 rfl (lv_at hl 2 rfl) ?_
            refine va_get (D := (dC, dI)) (ci := 10) (v := .ref (A 18)) (C := RX11) (T := TX11) (N := 19) hx hb hts ii_X11_appendName_X11 hown hK hP 0 (xw_is (r := 0) (by omega) (xc_fix (r := 0) (by omega))) rfl 14 (by decide) (hts _ mm_X11_appendName_1) (fun _ hh => hh) rfl dX11_appendName_24 ?_
            refine lv_bipush (v := 97) hx hb dX11_appendName_27 (by decide) ?_
            refine lv_iload hx hb dX11_appendName_29 (lv_at hl 0 rfl) ?_
            refine lv_iadd hx hb dX11_appendName_31 ?_
            refine lv_topi (fun z171 ez171 => ?_)
            clear ez171
            refine lv_iconst (v := 1) hx hb dX11_appendName_32 (by decide) ?_
            refine lv_isub hx hb dX11_appendName_33 ?_
            refine lv_topi (fun z172 ez172 => ?_)
            clear ez172
            refine lv_i2c hx hb dX11_appendName_34 rfl ?_
            refine lv_topi (fun z173 ez173 => ?_)
            clear ez173
            have hPs := xsub (cn := (g6 + 1)) hP (by rw [hst125a]) (by rw [hst125b])
            have hKs := xKsub hK
            have hns : A 18 ≠ A 19 := fun h9 => absurd (hN 18 19 (by omega) (by omega) h9) (by decide)
            have hS0 := hS
            refine va_callr (va_runV (As := [.int z173]) (rest := []) ⟨hx, hb, hml, hown, hts⟩ (s_J4_append_cf468 l dC dI ad E hEE (A 18) (A 19) (C 19) nb (st125 19) (st125 18 2) (g6 + 1) _ z173 hns hfit (by omega) (by omega) (by omega) (by omega)) (cwV 1 hts gX11_appendName_J4_append_cf468 rfl rfl rfl (by decide +kernel) ⟨Nat.le_of_ble_eq_true rfl, Nat.le_of_ble_eq_true rfl⟩) ⟨fun a U g mk q => ⟨q.1, sPre.blind hEE q.2⟩, va_recv hKs hPs (ci := 0) (q0 := 0) rfl rfl, fun U hU hW => ⟨rfl, sPre.of hEE hPs hKs hE hS (hBR.sa _ hS.1) hU hW⟩⟩ rfl rfl hl.1 rfl (lv_room (Nat.le_of_ble_eq_true rfl)) dX11_appendName_35 ⟨Nat.le_of_ble_eq_true rfl, Nat.le_of_ble_eq_true rfl⟩) hS (fun q _ h => hBR.sa _ hS.1 q h) (hBR.sa _ hS.1) (fun x r174 t H5 locs ht hvm hw hB hz hk hS => ?_)
            obtain ⟨hw, hr9, hB⟩ := hB
            subst hr9
            obtain ⟨hPt, hK2, hne2, hv2, hF2⟩ := hB
            rw [ht] at hPt
            have hK2 := va_K.moved hvm.symm hK2
            obtain ⟨v175, cB176, nb177, f178, ml179, cn180⟩ := x
            dsimp only at hPt hK2 hne2 hv2 hF2 hw
            obtain ⟨rfl, rfl, rfl, rfl, hw⟩ := hw
            have hj := xjoin hN hP hK hBR hS0.1 hPt hK2 hk hne2 hv2
            rw [A19_self, C19_self] at hj
            obtain ⟨st181, est181⟩ : ∃ y, y = st19 st125 f178 ml179 (nI ((g6 + 1) + 1)) := ⟨_, rfl⟩
            rw [← est181] at hj
            have hst181a : st181 18 1 = 0 := by rw [est181]; rfl
            have hst181b : st181 18 3 = (nI ((g6 + 1) + 1)) := by rw [est181]; rfl
            have hfit : sb_Fit (st181 19) := by rw [est181]; exact hF2
            have hGst181 : XG [1, 2, 3, 4, 5, 6, 7, 8, 9, 10, 11, 12] st125 st181 := by rw [est181]; exact xg19 (XG.rf hG.1) (by decide) _ _ _
            have hG : XG [1, 2, 3, 4, 5, 6, 7, 8, 9, 10, 11, 12] st st181 := by rw [est181]; exact xg19 hG (by decide) _ _ _
            clear hK2 hne2 hv2 hF2 ht hvm est181 hPs hKs hk hz
            obtain ⟨hP, hK, hN, hBR⟩ := hj
            clear hw
            refine lv_pop hx hb dX11_appendName_38 rfl ?_
            refine lv_iinc (v := 1) (lv' := [(3, .int 1), (4, .int z128), (0, .ref (A 0)), (1, .long vw)]) hx hb dX11_appendName_39 hl (k := 1) rfl (by decide) (by decide) rfl (fun ls hl => ?_)
            refine lv_goto (tgt := 3) hx hb dX11_appendName_42 (by decide) ?_
            refine lv_iload_n hx hb dX11_appendName_3 rfl (lv_at hl 0 rfl) ?_
            refine lv_if_lt (tgt := 45) hx hb dX11_appendName_4 (by decide) (fun cc => absurd cc (by decide)) (fun _ => ?_)
            refine lv_lload_n hx hb dX11_appendName_7 rfl (lv_at hl 3 rfl) ?_
            refine lv_iload_n hx hb dX11_appendName_8 rfl (lv_at hl 0 rfl) ?_
            refine lv_iconst (v := 5) hx hb dX11_appendName_9 (by decide) ?_
            refine lv_imul hx hb dX11_appendName_10 ?_
            refine zz_top (v := 5) (by decide) ?_
            refine lv_lushr hx hb dX11_appendName_11 rfl ?_
            refine lv_topl (fun z182 ez182 => ?_)
            clear ez182
            refine lv_l2i hx hb dX11_appendName_12 rfl ?_
            refine lv_topi (fun z183 ez183 => ?_)
            clear ez183
            refine lv_bipush (v := 31) hx hb dX11_appendName_13 (by decide) ?_
            refine lv_iand hx hb dX11_appendName_15 ?_
            refine lv_topi (fun z184 ez184 => ?_)
            clear ez184
            refine lv_istore (lv' := [(4, .int z184), (3, .int 1), (0, .ref (A 0)), (1, .long vw)]) hx hb dX11_appendName_16 hl (by decide) rfl (fun ls hl => ?_)
            refine lv_iload hx hb dX11_appendName_18 (lv_at hl 0 rfl) ?_
            refine lv_if_eq (tgt := 39) hx hb dX11_appendName_20 (by decide) (fun c43 => ?_) (fun c43 => ?_)
            · refine lv_iinc (v := 0) (lv' := [(3, .int 0), (4, .int z184), (0, .ref (A 0)), (1, .long vw)]) hx hb dX11_appendName_39 hl (k := 1) rfl (by decide) (by decide) rfl (fun ls hl => ?_)
              refine lv_goto (tgt := 3) hx hb dX11_appendName_42 (by decide) ?_
              refine lv_iload_n hx hb dX11_appendName_3 rfl (lv_at hl 0 rfl) ?_
              refine lv_if_lt (tgt := 45) hx hb dX11_appendName_4 (by decide) (fun cc => absurd cc (by decide)) (fun _ => ?_)
              refine lv_lload_n hx hb dX11_appendName_7 rfl (lv_at hl 3 rfl) ?_
              refine lv_iload_n hx hb dX11_appendName_8 rfl (lv_at hl 0 rfl) ?_
              refine lv_iconst (v := 5) hx hb dX11_appendName_9 (by decide) ?_
              refine lv_imul hx hb dX11_appendName_10 ?_
              refine zz_top (v := 0) (by decide) ?_
              refine lv_lushr hx hb dX11_appendName_11 rfl ?_
              refine lv_topl (fun z185 ez185 => ?_)
              clear ez185
              refine lv_l2i hx hb dX11_appendName_12 rfl ?_
              refine lv_topi (fun z186 ez186 => ?_)
              clear ez186
              refine lv_bipush (v := 31) hx hb dX11_appendName_13 (by decide) ?_
              refine lv_iand hx hb dX11_appendName_15 ?_
              refine lv_topi (fun z187 ez187 => ?_)
              clear ez187
              refine lv_istore (lv' := [(4, .int z187), (3, .int 0), (0, .ref (A 0)), (1, .long vw)]) hx hb dX11_appendName_16 hl (by decide) rfl (fun ls hl => ?_)
              refine lv_iload hx hb dX11_appendName_18 (lv_at hl 0 rfl) ?_
              refine lv_if_eq (tgt := 39) hx hb dX11_appendName_20 (by decide) (fun c45 => ?_) (fun c45 => ?_)
              · refine lv_iinc (v := (-1)) (lv' := [(3, .int (-1)), (4, .int z187), (0, .ref (A 0)), (1, .long vw)]) hx hb dX11_appendName_39 hl (k := 1) rfl (by decide) (by decide) rfl (fun ls hl => ?_)
                refine lv_goto (tgt := 3) hx hb dX11_appendName_42 (by decide) ?_
                refine lv_iload_n hx hb dX11_appendName_3 rfl (lv_at hl 0 rfl) ?_
                refine lv_if_lt (tgt := 45) hx hb dX11_appendName_4 (by decide) (fun _ => ?_) (fun cc => absurd (by decide) cc)
                exact W.vret hx hb hr (fun t ht hW => ⟨⟨(st181, sl5, so), rfl, ⟨hG, rfl, ⟨((g6 + 1) + 1), by show st181 18 1 = 0; rw [hst181a], by show st181 18 3 = _; rw [hst181b], by omega, hfit⟩⟩, xB.of ht hP⟩, hS.F ht⟩) hS.2.2 dX11_appendName_45
              · refine lv_aload_n hx hb dX11_appendName_23 rfl (lv_at hl 2 rfl) ?_
                refine va_get (D := (dC, dI)) (ci := 10) (v := .ref (A 18)) (C := RX11) (T := TX11) (N := 19) hx hb hts ii_X11_appendName_X11 hown hK hP 0 (xw_is (r := 0) (by omega) (xc_fix (r := 0) (by omega))) rfl 14 (by decide) (hts _ mm_X11_appendName_1) (fun _ hh => hh) rfl dX11_appendName_24 ?_
                refine lv_bipush (v := 97) hx hb dX11_appendName_27 (by decide) ?_
                refine lv_iload hx hb dX11_appendName_29 (lv_at hl 0 rfl) ?_
                refine lv_iadd hx hb dX11_appendName_31 ?_
                refine lv_topi (fun z188 ez188 => ?_)
                clear ez188
                refine lv_iconst (v := 1) hx hb dX11_appendName_32 (by decide) ?_
                refine lv_isub hx hb dX11_appendName_33 ?_
                refine lv_topi (fun z189 ez189 => ?_)
                clear ez189
                refine lv_i2c hx hb dX11_appendName_34 rfl ?_
                refine lv_topi (fun z190 ez190 => ?_)
                clear ez190
                have hPs := xsub (cn := ((g6 + 1) + 1)) hP (by rw [hst181a]) (by rw [hst181b])
                have hKs := xKsub hK
                have hns : A 18 ≠ A 19 := fun h9 => absurd (hN 18 19 (by omega) (by omega) h9) (by decide)
                have hS0 := hS
                refine va_callr (va_runV (As := [.int z190]) (rest := []) ⟨hx, hb, hml, hown, hts⟩ (s_J4_append_cf468 l dC dI ad E hEE (A 18) (A 19) (C 19) nb (st181 19) (st181 18 2) ((g6 + 1) + 1) _ z190 hns hfit (by omega) (by omega) (by omega) (by omega)) (cwV 1 hts gX11_appendName_J4_append_cf468 rfl rfl rfl (by decide +kernel) ⟨Nat.le_of_ble_eq_true rfl, Nat.le_of_ble_eq_true rfl⟩) ⟨fun a U g mk q => ⟨q.1, sPre.blind hEE q.2⟩, va_recv hKs hPs (ci := 0) (q0 := 0) rfl rfl, fun U hU hW => ⟨rfl, sPre.of hEE hPs hKs hE hS (hBR.sa _ hS.1) hU hW⟩⟩ rfl rfl hl.1 rfl (lv_room (Nat.le_of_ble_eq_true rfl)) dX11_appendName_35 ⟨Nat.le_of_ble_eq_true rfl, Nat.le_of_ble_eq_true rfl⟩) hS (fun q _ h => hBR.sa _ hS.1 q h) (hBR.sa _ hS.1) (fun x r191 t H5 locs ht hvm hw hB hz hk hS => ?_)
                obtain ⟨hw, hr9, hB⟩ := hB
                subst hr9
                obtain ⟨hPt, hK2, hne2, hv2, hF2⟩ := hB
                rw [ht] at hPt
                have hK2 := va_K.moved hvm.symm hK2
                obtain ⟨v192, cB193, nb194, f195, ml196, cn197⟩ := x
                dsimp only at hPt hK2 hne2 hv2 hF2 hw
                obtain ⟨rfl, rfl, rfl, rfl, hw⟩ := hw
                have hj := xjoin hN hP hK hBR hS0.1 hPt hK2 hk hne2 hv2
                rw [A19_self, C19_self] at hj
                obtain ⟨st198, est198⟩ : ∃ y, y = st19 st181 f195 ml196 (nI (((g6 + 1) + 1) + 1)) := ⟨_, rfl⟩
                rw [← est198] at hj
                have hst198a : st198 18 1 = 0 := by rw [est198]; rfl
                have hst198b : st198 18 3 = (nI (((g6 + 1) + 1) + 1)) := by rw [est198]; rfl
                have hfit : sb_Fit (st198 19) := by rw [est198]; exact hF2
                have hGst198 : XG [1, 2, 3, 4, 5, 6, 7, 8, 9, 10, 11, 12] st181 st198 := by rw [est198]; exact xg19 (XG.rf hG.1) (by decide) _ _ _
                have hG : XG [1, 2, 3, 4, 5, 6, 7, 8, 9, 10, 11, 12] st st198 := by rw [est198]; exact xg19 hG (by decide) _ _ _
                clear hK2 hne2 hv2 hF2 ht hvm est198 hPs hKs hk hz
                obtain ⟨hP, hK, hN, hBR⟩ := hj
                clear hw
                refine lv_pop hx hb dX11_appendName_38 rfl ?_
                refine lv_iinc (v := (-1)) (lv' := [(3, .int (-1)), (4, .int z187), (0, .ref (A 0)), (1, .long vw)]) hx hb dX11_appendName_39 hl (k := 1) rfl (by decide) (by decide) rfl (fun ls hl => ?_)
                refine lv_goto (tgt := 3) hx hb dX11_appendName_42 (by decide) ?_
                refine lv_iload_n hx hb dX11_appendName_3 rfl (lv_at hl 0 rfl) ?_
                refine lv_if_lt (tgt := 45) hx hb dX11_appendName_4 (by decide) (fun _ => ?_) (fun cc => absurd (by decide) cc)
                exact W.vret hx hb hr (fun t ht hW => ⟨⟨(st198, sl5, so), rfl, ⟨hG, rfl, ⟨(((g6 + 1) + 1) + 1), by show st198 18 1 = 0; rw [hst198a], by show st198 18 3 = _; rw [hst198b], by omega, hfit⟩⟩, xB.of ht hP⟩, hS.F ht⟩) hS.2.2 dX11_appendName_45
            · refine lv_aload_n hx hb dX11_appendName_23 rfl (lv_at hl 2 rfl) ?_
              refine va_get (D := (dC, dI)) (ci := 10) (v := .ref (A 18)) (C := RX11) (T := TX11) (N := 19) hx hb hts ii_X11_appendName_X11 hown hK hP 0 (xw_is (r := 0) (by omega) (xc_fix (r := 0) (by omega))) rfl 14 (by decide) (hts _ mm_X11_appendName_1) (fun _ hh => hh) rfl dX11_appendName_24 ?_
              refine lv_bipush (v := 97) hx hb dX11_appendName_27 (by decide) ?_
              refine lv_iload hx hb dX11_appendName_29 (lv_at hl 0 rfl) ?_
              refine lv_iadd hx hb dX11_appendName_31 ?_
              refine lv_topi (fun z199 ez199 => ?_)
              clear ez199
              refine lv_iconst (v := 1) hx hb dX11_appendName_32 (by decide) ?_
              refine lv_isub hx hb dX11_appendName_33 ?_
              refine lv_topi (fun z200 ez200 => ?_)
              clear ez200
              refine lv_i2c hx hb dX11_appendName_34 rfl ?_
              refine lv_topi (fun z201 ez201 => ?_)
              clear ez201
              have hPs := xsub (cn := ((g6 + 1) + 1)) hP (by rw [hst181a]) (by rw [hst181b])
              have hKs := xKsub hK
              have hns : A 18 ≠ A 19 := fun h9 => absurd (hN 18 19 (by omega) (by omega) h9) (by decide)
              have hS0 := hS
              refine va_callr (va_runV (As := [.int z201]) (rest := []) ⟨hx, hb, hml, hown, hts⟩ (s_J4_append_cf468 l dC dI ad E hEE (A 18) (A 19) (C 19) nb (st181 19) (st181 18 2) ((g6 + 1) + 1) _ z201 hns hfit (by omega) (by omega) (by omega) (by omega)) (cwV 1 hts gX11_appendName_J4_append_cf468 rfl rfl rfl (by decide +kernel) ⟨Nat.le_of_ble_eq_true rfl, Nat.le_of_ble_eq_true rfl⟩) ⟨fun a U g mk q => ⟨q.1, sPre.blind hEE q.2⟩, va_recv hKs hPs (ci := 0) (q0 := 0) rfl rfl, fun U hU hW => ⟨rfl, sPre.of hEE hPs hKs hE hS (hBR.sa _ hS.1) hU hW⟩⟩ rfl rfl hl.1 rfl (lv_room (Nat.le_of_ble_eq_true rfl)) dX11_appendName_35 ⟨Nat.le_of_ble_eq_true rfl, Nat.le_of_ble_eq_true rfl⟩) hS (fun q _ h => hBR.sa _ hS.1 q h) (hBR.sa _ hS.1) (fun x r202 t H5 locs ht hvm hw hB hz hk hS => ?_)
              obtain ⟨hw, hr9, hB⟩ := hB
              subst hr9
              obtain ⟨hPt, hK2, hne2, hv2, hF2⟩ := hB
              rw [ht] at hPt
              have hK2 := va_K.moved hvm.symm hK2
              obtain ⟨v203, cB204, nb205, f206, ml207, cn208⟩ := x
              dsimp only at hPt hK2 hne2 hv2 hF2 hw
              obtain ⟨rfl, rfl, rfl, rfl, hw⟩ := hw
              have hj := xjoin hN hP hK hBR hS0.1 hPt hK2 hk hne2 hv2
              rw [A19_self, C19_self] at hj
              obtain ⟨st209, est209⟩ : ∃ y, y = st19 st181 f206 ml207 (nI (((g6 + 1) + 1) + 1)) := ⟨_, rfl⟩
              rw [← est209] at hj
              have hst209a : st209 18 1 = 0 := by rw [est209]; rfl
              have hst209b : st209 18 3 = (nI (((g6 + 1) + 1) + 1)) := by rw [est209]; rfl
              have hfit : sb_Fit (st209 19) := by rw [est209]; exact hF2
              have hGst209 : XG [1, 2, 3, 4, 5, 6, 7, 8, 9, 10, 11, 12] st181 st209 := by rw [est209]; exact xg19 (XG.rf hG.1) (by decide) _ _ _
              have hG : XG [1, 2, 3, 4, 5, 6, 7, 8, 9, 10, 11, 12] st st209 := by rw [est209]; exact xg19 hG (by decide) _ _ _
              clear hK2 hne2 hv2 hF2 ht hvm est209 hPs hKs hk hz
              obtain ⟨hP, hK, hN, hBR⟩ := hj
              clear hw
              refine lv_pop hx hb dX11_appendName_38 rfl ?_
              refine lv_iinc (v := 0) (lv' := [(3, .int 0), (4, .int z184), (0, .ref (A 0)), (1, .long vw)]) hx hb dX11_appendName_39 hl (k := 1) rfl (by decide) (by decide) rfl (fun ls hl => ?_)
              refine lv_goto (tgt := 3) hx hb dX11_appendName_42 (by decide) ?_
              refine lv_iload_n hx hb dX11_appendName_3 rfl (lv_at hl 0 rfl) ?_
              refine lv_if_lt (tgt := 45) hx hb dX11_appendName_4 (by decide) (fun cc => absurd cc (by decide)) (fun _ => ?_)
              refine lv_lload_n hx hb dX11_appendName_7 rfl (lv_at hl 3 rfl) ?_
              refine lv_iload_n hx hb dX11_appendName_8 rfl (lv_at hl 0 rfl) ?_
              refine lv_iconst (v := 5) hx hb dX11_appendName_9 (by decide) ?_
              refine lv_imul hx hb dX11_appendName_10 ?_
              refine zz_top (v := 0) (by decide) ?_
              refine lv_lushr hx hb dX11_appendName_11 rfl ?_
              refine lv_topl (fun z210 ez210 => ?_)
              clear ez210
              refine lv_l2i hx hb dX11_appendName_12 rfl ?_
              refine lv_topi (fun z211 ez211 => ?_)
              clear ez211
              refine lv_bipush (v := 31) hx hb dX11_appendName_13 (by decide) ?_
              refine lv_iand hx hb dX11_appendName_15 ?_
              refine lv_topi (fun z212 ez212 => ?_)
              clear ez212
              refine lv_istore (lv' := [(4, .int z212), (3, .int 0), (0, .ref (A 0)), (1, .long vw)]) hx hb dX11_appendName_16 hl (by decide) rfl (fun ls hl => ?_)
              refine lv_iload hx hb dX11_appendName_18 (lv_at hl 0 rfl) ?_
              refine lv_if_eq (tgt := 39) hx hb dX11_appendName_20 (by decide) (fun c49 => ?_) (fun c49 => ?_)
              · refine lv_iinc (v := (-1)) (lv' := [(3, .int (-1)), (4, .int z212), (0, .ref (A 0)), (1, .long vw)]) hx hb dX11_appendName_39 hl (k := 1) rfl (by decide) (by decide) rfl (fun ls hl => ?_)
                refine lv_goto (tgt := 3) hx hb dX11_appendName_42 (by decide) ?_
                refine lv_iload_n hx hb dX11_appendName_3 rfl (lv_at hl 0 rfl) ?_
                refine lv_if_lt (tgt := 45) hx hb dX11_appendName_4 (by decide) (fun _ => ?_) (fun cc => absurd (by decide) cc)
                exact W.vret hx hb hr (fun t ht hW => ⟨⟨(st209, sl5, so), rfl, ⟨hG, rfl, ⟨(((g6 + 1) + 1) + 1), by show st209 18 1 = 0; rw [hst209a], by show st209 18 3 = _; rw [hst209b], by omega, hfit⟩⟩, xB.of ht hP⟩, hS.F ht⟩) hS.2.2 dX11_appendName_45
              · refine lv_aload_n hx hb dX11_appendName_23 rfl (lv_at hl 2 rfl) ?_
                refine va_get (D := (dC, dI)) (ci := 10) (v := .ref (A 18)) (C := RX11) (T := TX11) (N := 19) hx hb hts ii_X11_appendName_X11 hown hK hP 0 (xw_is (r := 0) (by omega) (xc_fix (r := 0) (by omega))) rfl 14 (by decide) (hts _ mm_X11_appendName_1) (fun _ hh => hh) rfl dX11_appendName_24 ?_
                refine lv_bipush (v := 97) hx hb dX11_appendName_27 (by decide) ?_
                refine lv_iload hx hb dX11_appendName_29 (lv_at hl 0 rfl) ?_
                refine lv_iadd hx hb dX11_appendName_31 ?_
                refine lv_topi (fun z213 ez213 => ?_)
                clear ez213
                refine lv_iconst (v := 1) hx hb dX11_appendName_32 (by decide) ?_
                refine lv_isub hx hb dX11_appendName_33 ?_
                refine lv_topi (fun z214 ez214 => ?_)
                clear ez214
                refine lv_i2c hx hb dX11_appendName_34 rfl ?_
                refine lv_topi (fun z215 ez215 => ?_)
                clear ez215
                have hPs := xsub (cn := (((g6 + 1) + 1) + 1)) hP (by rw [hst209a]) (by rw [hst209b])
                have hKs := xKsub hK
                have hns : A 18 ≠ A 19 := fun h9 => absurd (hN 18 19 (by omega) (by omega) h9) (by decide)
                have hS0 := hS
                refine va_callr (va_runV (As := [.int z215]) (rest := []) ⟨hx, hb, hml, hown, hts⟩ (s_J4_append_cf468 l dC dI ad E hEE (A 18) (A 19) (C 19) nb (st209 19) (st209 18 2) (((g6 + 1) + 1) + 1) _ z215 hns hfit (by omega) (by omega) (by omega) (by omega)) (cwV 1 hts gX11_appendName_J4_append_cf468 rfl rfl rfl (by decide +kernel) ⟨Nat.le_of_ble_eq_true rfl, Nat.le_of_ble_eq_true rfl⟩) ⟨fun a U g mk q => ⟨q.1, sPre.blind hEE q.2⟩, va_recv hKs hPs (ci := 0) (q0 := 0) rfl rfl, fun U hU hW => ⟨rfl, sPre.of hEE hPs hKs hE hS (hBR.sa _ hS.1) hU hW⟩⟩ rfl rfl hl.1 rfl (lv_room (Nat.le_of_ble_eq_true rfl)) dX11_appendName_35 ⟨Nat.le_of_ble_eq_true rfl, Nat.le_of_ble_eq_true rfl⟩) hS (fun q _ h => hBR.sa _ hS.1 q h) (hBR.sa _ hS.1) (fun x r216 t H5 locs ht hvm hw hB hz hk hS => ?_)
                obtain ⟨hw, hr9, hB⟩ := hB
                subst hr9
                obtain ⟨hPt, hK2, hne2, hv2, hF2⟩ := hB
                rw [ht] at hPt
                have hK2 := va_K.moved hvm.symm hK2
                obtain ⟨v217, cB218, nb219, f220, ml221, cn222⟩ := x
                dsimp only at hPt hK2 hne2 hv2 hF2 hw
                obtain ⟨rfl, rfl, rfl, rfl, hw⟩ := hw
                have hj := xjoin hN hP hK hBR hS0.1 hPt hK2 hk hne2 hv2
                rw [A19_self, C19_self] at hj
                obtain ⟨st223, est223⟩ : ∃ y, y = st19 st209 f220 ml221 (nI ((((g6 + 1) + 1) + 1) + 1)) := ⟨_, rfl⟩
                rw [← est223] at hj
                have hst223a : st223 18 1 = 0 := by rw [est223]; rfl
                have hst223b : st223 18 3 = (nI ((((g6 + 1) + 1) + 1) + 1)) := by rw [est223]; rfl
                have hfit : sb_Fit (st223 19) := by rw [est223]; exact hF2
                have hGst223 : XG [1, 2, 3, 4, 5, 6, 7, 8, 9, 10, 11, 12] st209 st223 := by rw [est223]; exact xg19 (XG.rf hG.1) (by decide) _ _ _
                have hG : XG [1, 2, 3, 4, 5, 6, 7, 8, 9, 10, 11, 12] st st223 := by rw [est223]; exact xg19 hG (by decide) _ _ _
                clear hK2 hne2 hv2 hF2 ht hvm est223 hPs hKs hk hz
                obtain ⟨hP, hK, hN, hBR⟩ := hj
                clear hw
                refine lv_pop hx hb dX11_appendName_38 rfl ?_
                refine lv_iinc (v := (-1)) (lv' := [(3, .int (-1)), (4, .int z212), (0, .ref (A 0)), (1, .long vw)]) hx hb dX11_appendName_39 hl (k := 1) rfl (by decide) (by decide) rfl (fun ls hl => ?_)
                refine lv_goto (tgt := 3) hx hb dX11_appendName_42 (by decide) ?_
                refine lv_iload_n hx hb dX11_appendName_3 rfl (lv_at hl 0 rfl) ?_
                refine lv_if_lt (tgt := 45) hx hb dX11_appendName_4 (by decide) (fun _ => ?_) (fun cc => absurd (by decide) cc)
                exact W.vret hx hb hr (fun t ht hW => ⟨⟨(st223, sl5, so), rfl, ⟨hG, rfl, ⟨((((g6 + 1) + 1) + 1) + 1), by show st223 18 1 = 0; rw [hst223a], by show st223 18 3 = _; rw [hst223b], by omega, hfit⟩⟩, xB.of ht hP⟩, hS.F ht⟩) hS.2.2 dX11_appendName_45
      · refine lv_aload_n hx hb dX11_appendName_23 rfl (lv_at hl 2 rfl) ?_
        refine va_get (D := (dC, dI)) (ci := 10) (v := .ref (A 18)) (C := RX11) (T := TX11) (N := 19) hx hb hts ii_X11_appendName_X11 hown hK hP 0 (xw_is (r := 0) (by omega) (xc_fix (r := 0) (by omega))) rfl 14 (by decide) (hts _ mm_X11_appendName_1) (fun _ hh => hh) rfl dX11_appendName_24 ?_
        refine lv_bipush (v := 97) hx hb dX11_appendName_27 (by decide) ?_
        refine lv_iload hx hb dX11_appendName_29 (lv_at hl 0 rfl) ?_
        refine lv_iadd hx hb dX11_appendName_31 ?_
        refine lv_topi (fun z224 ez224 => ?_)
        clear ez224
        refine lv_iconst (v := 1) hx hb dX11_appendName_32 (by decide) ?_
        refine lv_isub hx hb dX11_appendName_33 ?_
        refine lv_topi (fun z225 ez225 => ?_)
        clear ez225
        refine lv_i2c (v := z225) hx hb dX11_appendName_34 ((sb_byte z225 (by omega)).2.1) ?_
        have hPs := xsub (cn := g6) hP (by rw [hv9_0]) (by rw [eg6])
        have hKs := xKsub hK
        have hns : A 18 ≠ A 19 := fun h9 => absurd (hN 18 19 (by omega) (by omega) h9) (by decide)
        have hS0 := hS
        refine va_callr (va_runV (As := [.int z225]) (rest := []) ⟨hx, hb, hml, hown, hts⟩ (s_J4_append_cf468 l dC dI ad E hEE (A 18) (A 19) (C 19) nb (st4 19) (st4 18 2) g6 _ z225 hns hfit (by omega) (by omega) (by omega) (by omega)) (cwV 1 hts gX11_appendName_J4_append_cf468 rfl rfl rfl (by decide +kernel) ⟨Nat.le_of_ble_eq_true rfl, Nat.le_of_ble_eq_true rfl⟩) ⟨fun a U g mk q => ⟨q.1, sPre.blind hEE q.2⟩, va_recv hKs hPs (ci := 0) (q0 := 0) rfl rfl, fun U hU hW => ⟨rfl, sPre.of hEE hPs hKs hE hS (hBR.sa _ hS.1) hU hW⟩⟩ rfl rfl hl.1 rfl (lv_room (Nat.le_of_ble_eq_true rfl)) dX11_appendName_35 ⟨Nat.le_of_ble_eq_true rfl, Nat.le_of_ble_eq_true rfl⟩) hS (fun q _ h => hBR.sa _ hS.1 q h) (hBR.sa _ hS.1) (fun x r226 t H5 locs ht hvm hw hB hz hk hS => ?_)
        obtain ⟨hw, hr9, hB⟩ := hB
        subst hr9
        obtain ⟨hPt, hK2, hne2, hv2, hF2⟩ := hB
        rw [ht] at hPt
        have hK2 := va_K.moved hvm.symm hK2
        obtain ⟨v227, cB228, nb229, f230, ml231, cn232⟩ := x
        dsimp only at hPt hK2 hne2 hv2 hF2 hw
        obtain ⟨rfl, rfl, rfl, rfl, hw⟩ := hw
        have hj := xjoin hN hP hK hBR hS0.1 hPt hK2 hk hne2 hv2
        rw [A19_self, C19_self] at hj
        obtain ⟨st233, est233⟩ : ∃ y, y = st19 st4 f230 ml231 (nI (g6 + 1)) := ⟨_, rfl⟩
        rw [← est233] at hj
        have hst233a : st233 18 1 = 0 := by rw [est233]; rfl
        have hst233b : st233 18 3 = (nI (g6 + 1)) := by rw [est233]; rfl
        have hfit : sb_Fit (st233 19) := by rw [est233]; exact hF2
        have hGst233 : XG [1, 2, 3, 4, 5, 6, 7, 8, 9, 10, 11, 12] st4 st233 := by rw [est233]; exact xg19 (XG.rf hG.1) (by decide) _ _ _
        have hG : XG [1, 2, 3, 4, 5, 6, 7, 8, 9, 10, 11, 12] st st233 := by rw [est233]; exact xg19 hG (by decide) _ _ _
        clear hK2 hne2 hv2 hF2 ht hvm est233 hPs hKs hk hz
        obtain ⟨hP, hK, hN, hBR⟩ := hj
        clear hw
        refine lv_pop hx hb dX11_appendName_38 rfl ?_
        refine lv_iinc (v := 3) (lv' := [(3, .int 3), (4, .int z17), (0, .ref (A 0)), (1, .long vw)]) hx hb dX11_appendName_39 hl (k := 1) rfl (by decide) (by decide) rfl (fun ls hl => ?_)
        refine lv_goto (tgt := 3) hx hb dX11_appendName_42 (by decide) ?_
        refine lv_iload_n hx hb dX11_appendName_3 rfl (lv_at hl 0 rfl) ?_
        refine lv_if_lt (tgt := 45) hx hb dX11_appendName_4 (by decide) (fun cc => absurd cc (by decide)) (fun _ => ?_)
        refine lv_lload_n hx hb dX11_appendName_7 rfl (lv_at hl 3 rfl) ?_
        refine lv_iload_n hx hb dX11_appendName_8 rfl (lv_at hl 0 rfl) ?_
        refine lv_iconst (v := 5) hx hb dX11_appendName_9 (by decide) ?_
        refine lv_imul hx hb dX11_appendName_10 ?_
        refine zz_top (v := 15) (by decide) ?_
        refine lv_lushr hx hb dX11_appendName_11 rfl ?_
        refine lv_topl (fun z234 ez234 => ?_)
        clear ez234
        refine lv_l2i hx hb dX11_appendName_12 rfl ?_
        refine lv_topi (fun z235 ez235 => ?_)
        clear ez235
        refine lv_bipush (v := 31) hx hb dX11_appendName_13 (by decide) ?_
        refine lv_iand hx hb dX11_appendName_15 ?_
        refine lv_topi (fun z236 ez236 => ?_)
        clear ez236
        refine lv_istore (lv' := [(4, .int z236), (3, .int 3), (0, .ref (A 0)), (1, .long vw)]) hx hb dX11_appendName_16 hl (by decide) rfl (fun ls hl => ?_)
        refine lv_iload hx hb dX11_appendName_18 (lv_at hl 0 rfl) ?_
        refine lv_if_eq (tgt := 39) hx hb dX11_appendName_20 (by decide) (fun c53 => ?_) (fun c53 => ?_)
        · refine lv_iinc (v := 2) (lv' := [(3, .int 2), (4, .int z236), (0, .ref (A 0)), (1, .long vw)]) hx hb dX11_appendName_39 hl (k := 1) rfl (by decide) (by decide) rfl (fun ls hl => ?_)
          refine lv_goto (tgt := 3) hx hb dX11_appendName_42 (by decide) ?_
          refine lv_iload_n hx hb dX11_appendName_3 rfl (lv_at hl 0 rfl) ?_
          refine lv_if_lt (tgt := 45) hx hb dX11_appendName_4 (by decide) (fun cc => absurd cc (by decide)) (fun _ => ?_)
          refine lv_lload_n hx hb dX11_appendName_7 rfl (lv_at hl 3 rfl) ?_
          refine lv_iload_n hx hb dX11_appendName_8 rfl (lv_at hl 0 rfl) ?_
          refine lv_iconst (v := 5) hx hb dX11_appendName_9 (by decide) ?_
          refine lv_imul hx hb dX11_appendName_10 ?_
          refine zz_top (v := 10) (by decide) ?_
          refine lv_lushr hx hb dX11_appendName_11 rfl ?_
          refine lv_topl (fun z237 ez237 => ?_)
          clear ez237
          refine lv_l2i hx hb dX11_appendName_12 rfl ?_
          refine lv_topi (fun z238 ez238 => ?_)
          clear ez238
          refine lv_bipush (v := 31) hx hb dX11_appendName_13 (by decide) ?_
          refine lv_iand hx hb dX11_appendName_15 ?_
          refine lv_topi (fun z239 ez239 => ?_)
          clear ez239
          refine lv_istore (lv' := [(4, .int z239), (3, .int 2), (0, .ref (A 0)), (1, .long vw)]) hx hb dX11_appendName_16 hl (by decide) rfl (fun ls hl => ?_)
          refine lv_iload hx hb dX11_appendName_18 (lv_at hl 0 rfl) ?_
          refine lv_if_eq (tgt := 39) hx hb dX11_appendName_20 (by decide) (fun c55 => ?_) (fun c55 => ?_)
          · refine lv_iinc (v := 1) (lv' := [(3, .int 1), (4, .int z239), (0, .ref (A 0)), (1, .long vw)]) hx hb dX11_appendName_39 hl (k := 1) rfl (by decide) (by decide) rfl (fun ls hl => ?_)
            refine lv_goto (tgt := 3) hx hb dX11_appendName_42 (by decide) ?_
            refine lv_iload_n hx hb dX11_appendName_3 rfl (lv_at hl 0 rfl) ?_
            refine lv_if_lt (tgt := 45) hx hb dX11_appendName_4 (by decide) (fun cc => absurd cc (by decide)) (fun _ => ?_)
            refine lv_lload_n hx hb dX11_appendName_7 rfl (lv_at hl 3 rfl) ?_
            refine lv_iload_n hx hb dX11_appendName_8 rfl (lv_at hl 0 rfl) ?_
            refine lv_iconst (v := 5) hx hb dX11_appendName_9 (by decide) ?_
            refine lv_imul hx hb dX11_appendName_10 ?_
            refine zz_top (v := 5) (by decide) ?_
            refine lv_lushr hx hb dX11_appendName_11 rfl ?_
            refine lv_topl (fun z240 ez240 => ?_)
            clear ez240
            refine lv_l2i hx hb dX11_appendName_12 rfl ?_
            refine lv_topi (fun z241 ez241 => ?_)
            clear ez241
            refine lv_bipush (v := 31) hx hb dX11_appendName_13 (by decide) ?_
            refine lv_iand hx hb dX11_appendName_15 ?_
            refine lv_topi (fun z242 ez242 => ?_)
            clear ez242
            refine lv_istore (lv' := [(4, .int z242), (3, .int 1), (0, .ref (A 0)), (1, .long vw)]) hx hb dX11_appendName_16 hl (by decide) rfl (fun ls hl => ?_)
            refine lv_iload hx hb dX11_appendName_18 (lv_at hl 0 rfl) ?_
            refine lv_if_eq (tgt := 39) hx hb dX11_appendName_20 (by decide) (fun c57 => ?_) (fun c57 => ?_)
            · refine lv_iinc (v := 0) (lv' := [(3, .int 0), (4, .int z242), (0, .ref (A 0)), (1, .long vw)]) hx hb dX11_appendName_39 hl (k := 1) rfl (by decide) (by decide) rfl (fun ls hl => ?_)
              refine lv_goto (tgt := 3) hx hb dX11_appendName_42 (by decide) ?_
              refine lv_iload_n hx hb dX11_appendName_3 rfl (lv_at hl 0 rfl) ?_
              refine lv_if_lt (tgt := 45) hx hb dX11_appendName_4 (by decide) (fun cc => absurd cc (by decide)) (fun _ => ?_)
              refine lv_lload_n hx hb dX11_appendName_7 rfl (lv_at hl 3 rfl) ?_
              refine lv_iload_n hx hb dX11_appendName_8 rfl (lv_at hl 0 rfl) ?_
              refine lv_iconst (v := 5) hx hb dX11_appendName_9 (by decide) ?_
              refine lv_imul hx hb dX11_appendName_10 ?_
              refine zz_top (v := 0) (by decide) ?_
              refine lv_lushr hx hb dX11_appendName_11 rfl ?_
              refine lv_topl (fun z243 ez243 => ?_)
              clear ez243
              refine lv_l2i hx hb dX11_appendName_12 rfl ?_
              refine lv_topi (fun z244 ez244 => ?_)
              clear ez244
              refine lv_bipush (v := 31) hx hb dX11_appendName_13 (by decide) ?_
              refine lv_iand hx hb dX11_appendName_15 ?_
              refine lv_topi (fun z245 ez245 => ?_)
              clear ez245
              refine lv_istore (lv' := [(4, .int z245), (3, .int 0), (0, .ref (A 0)), (1, .long vw)]) hx hb dX11_appendName_16 hl (by decide) rfl (fun ls hl => ?_)
              refine lv_iload hx hb dX11_appendName_18 (lv_at hl 0 rfl) ?_
              refine lv_if_eq (tgt := 39) hx hb dX11_appendName_20 (by decide) (fun c59 => ?_) (fun c59 => ?_)
              · refine lv_iinc (v := (-1)) (lv' := [(3, .int (-1)), (4, .int z245), (0, .ref (A 0)), (1, .long vw)]) hx hb dX11_appendName_39 hl (k := 1) rfl (by decide) (by decide) rfl (fun ls hl => ?_)
                refine lv_goto (tgt := 3) hx hb dX11_appendName_42 (by decide) ?_
                refine lv_iload_n hx hb dX11_appendName_3 rfl (lv_at hl 0 rfl) ?_
                refine lv_if_lt (tgt := 45) hx hb dX11_appendName_4 (by decide) (fun _ => ?_) (fun cc => absurd (by decide) cc)
                exact W.vret hx hb hr (fun t ht hW => ⟨⟨(st233, sl5, so), rfl, ⟨hG, rfl, ⟨(g6 + 1), by show st233 18 1 = 0; rw [hst233a], by show st233 18 3 = _; rw [hst233b], by omega, hfit⟩⟩, xB.of ht hP⟩, hS.F ht⟩) hS.2.2 dX11_appendName_45
              · refine lv_aload_n hx hb dX11_appendName_23 rfl (lv_at hl 2 rfl) ?_
                refine va_get (D := (dC, dI)) (ci := 10) (v := .ref (A 18)) (C := RX11) (T := TX11) (N := 19) hx hb hts ii_X11_appendName_X11 hown hK hP 0 (xw_is (r := 0) (by omega) (xc_fix (r := 0) (by omega))) rfl 14 (by decide) (hts _ mm_X11_appendName_1) (fun _ hh => hh) rfl dX11_appendName_24 ?_
                refine lv_bipush (v := 97) hx hb dX11_appendName_27 (by decide) ?_
                refine lv_iload hx hb dX11_appendName_29 (lv_at hl 0 rfl) ?_
                refine lv_iadd hx hb dX11_appendName_31 ?_
                refine lv_topi (fun z246 ez246 => ?_)
                clear ez246
                refine lv_iconst (v := 1) hx hb dX11_appendName_32 (by decide) ?_
                refine lv_isub hx hb dX11_appendName_33 ?_
                refine lv_topi (fun z247 ez247 => ?_)
                clear ez247
                refine lv_i2c hx hb dX11_appendName_34 rfl ?_
                refine lv_topi (fun z248 ez248 => ?_)
                clear ez248
                have hPs := xsub (cn := (g6 + 1)) hP (by rw [hst233a]) (by rw [hst233b])
                have hKs := xKsub hK
                have hns : A 18 ≠ A 19 := fun h9 => absurd (hN 18 19 (by omega) (by omega) h9) (by decide)
                have hS0 := hS
                refine va_callr (va_runV (As := [.int z248]) (rest := []) ⟨hx, hb, hml, hown, hts⟩ (s_J4_append_cf468 l dC dI ad E hEE (A 18) (A 19) (C 19) nb (st233 19) (st233 18 2) (g6 + 1) _ z248 hns hfit (by omega) (by omega) (by omega) (by omega)) (cwV 1 hts gX11_appendName_J4_append_cf468 rfl rfl rfl (by decide +kernel) ⟨Nat.le_of_ble_eq_true rfl, Nat.le_of_ble_eq_true rfl⟩) ⟨fun a U g mk q => ⟨q.1, sPre.blind hEE q.2⟩, va_recv hKs hPs (ci := 0) (q0 := 0) rfl rfl, fun U hU hW => ⟨rfl, sPre.of hEE hPs hKs hE hS (hBR.sa _ hS.1) hU hW⟩⟩ rfl rfl hl.1 rfl (lv_room (Nat.le_of_ble_eq_true rfl)) dX11_appendName_35 ⟨Nat.le_of_ble_eq_true rfl, Nat.le_of_ble_eq_true rfl⟩) hS (fun q _ h => hBR.sa _ hS.1 q h) (hBR.sa _ hS.1) (fun x r249 t H5 locs ht hvm hw hB hz hk hS => ?_)
                obtain ⟨hw, hr9, hB⟩ := hB
                subst hr9
                obtain ⟨hPt, hK2, hne2, hv2, hF2⟩ := hB
                rw [ht] at hPt
                have hK2 := va_K.moved hvm.symm hK2
                obtain ⟨v250, cB251, nb252, f253, ml254, cn255⟩ := x
                dsimp only at hPt hK2 hne2 hv2 hF2 hw
                obtain ⟨rfl, rfl, rfl, rfl, hw⟩ := hw
                have hj := xjoin hN hP hK hBR hS0.1 hPt hK2 hk hne2 hv2
                rw [A19_self, C19_self] at hj
                obtain ⟨st256, est256⟩ : ∃ y, y = st19 st233 f253 ml254 (nI ((g6 + 1) + 1)) := ⟨_, rfl⟩
                rw [← est256] at hj
                have hst256a : st256 18 1 = 0 := by rw [est256]; rfl
                have hst256b : st256 18 3 = (nI ((g6 + 1) + 1)) := by rw [est256]; rfl
                have hfit : sb_Fit (st256 19) := by rw [est256]; exact hF2
                have hGst256 : XG [1, 2, 3, 4, 5, 6, 7, 8, 9, 10, 11, 12] st233 st256 := by rw [est256]; exact xg19 (XG.rf hG.1) (by decide) _ _ _
                have hG : XG [1, 2, 3, 4, 5, 6, 7, 8, 9, 10, 11, 12] st st256 := by rw [est256]; exact xg19 hG (by decide) _ _ _
                clear hK2 hne2 hv2 hF2 ht hvm est256 hPs hKs hk hz
                obtain ⟨hP, hK, hN, hBR⟩ := hj
                clear hw
                refine lv_pop hx hb dX11_appendName_38 rfl ?_
                refine lv_iinc (v := (-1)) (lv' := [(3, .int (-1)), (4, .int z245), (0, .ref (A 0)), (1, .long vw)]) hx hb dX11_appendName_39 hl (k := 1) rfl (by decide) (by decide) rfl (fun ls hl => ?_)
                refine lv_goto (tgt := 3) hx hb dX11_appendName_42 (by decide) ?_
                refine lv_iload_n hx hb dX11_appendName_3 rfl (lv_at hl 0 rfl) ?_
                refine lv_if_lt (tgt := 45) hx hb dX11_appendName_4 (by decide) (fun _ => ?_) (fun cc => absurd (by decide) cc)
                exact W.vret hx hb hr (fun t ht hW => ⟨⟨(st256, sl5, so), rfl, ⟨hG, rfl, ⟨((g6 + 1) + 1), by show st256 18 1 = 0; rw [hst256a], by show st256 18 3 = _; rw [hst256b], by omega, hfit⟩⟩, xB.of ht hP⟩, hS.F ht⟩) hS.2.2 dX11_appendName_45
            · refine lv_aload_n hx hb dX11_appendName_23 rfl (lv_at hl 2 rfl) ?_
              refine va_get (D := (dC, dI)) (ci := 10) (v := .ref (A 18)) (C := RX11) (T := TX11) (N := 19) hx hb hts ii_X11_appendName_X11 hown hK hP 0 (xw_is (r := 0) (by omega) (xc_fix (r := 0) (by omega))) rfl 14 (by decide) (hts _ mm_X11_appendName_1) (fun _ hh => hh) rfl dX11_appendName_24 ?_
              refine lv_bipush (v := 97) hx hb dX11_appendName_27 (by decide) ?_
              refine lv_iload hx hb dX11_appendName_29 (lv_at hl 0 rfl) ?_
              refine lv_iadd hx hb dX11_appendName_31 ?_
              refine lv_topi (fun z257 ez257 => ?_)
              clear ez257
              refine lv_iconst (v := 1) hx hb dX11_appendName_32 (by decide) ?_
              refine lv_isub hx hb dX11_appendName_33 ?_
              refine lv_topi (fun z258 ez258 => ?_)
              clear ez258
              refine lv_i2c hx hb dX11_appendName_34 rfl ?_
              refine lv_topi (fun z259 ez259 => ?_)
              clear ez259
              have hPs := xsub (cn := (g6 + 1)) hP (by rw [hst233a]) (by rw [hst233b])
              have hKs := xKsub hK
              have hns : A 18 ≠ A 19 := fun h9 => absurd (hN 18 19 (by omega) (by omega) h9) (by decide)
              have hS0 := hS
              refine va_callr (va_runV (As := [.int z259]) (rest := []) ⟨hx, hb, hml, hown, hts⟩ (s_J4_append_cf468 l dC dI ad E hEE (A 18) (A 19) (C 19) nb (st233 19) (st233 18 2) (g6 + 1) _ z259 hns hfit (by omega) (by omega) (by omega) (by omega)) (cwV 1 hts gX11_appendName_J4_append_cf468 rfl rfl rfl (by decide +kernel) ⟨Nat.le_of_ble_eq_true rfl, Nat.le_of_ble_eq_true rfl⟩) ⟨fun a U g mk q => ⟨q.1, sPre.blind hEE q.2⟩, va_recv hKs hPs (ci := 0) (q0 := 0) rfl rfl, fun U hU hW => ⟨rfl, sPre.of hEE hPs hKs hE hS (hBR.sa _ hS.1) hU hW⟩⟩ rfl rfl hl.1 rfl (lv_room (Nat.le_of_ble_eq_true rfl)) dX11_appendName_35 ⟨Nat.le_of_ble_eq_true rfl, Nat.le_of_ble_eq_true rfl⟩) hS (fun q _ h => hBR.sa _ hS.1 q h) (hBR.sa _ hS.1) (fun x r260 t H5 locs ht hvm hw hB hz hk hS => ?_)
              obtain ⟨hw, hr9, hB⟩ := hB
              subst hr9
              obtain ⟨hPt, hK2, hne2, hv2, hF2⟩ := hB
              rw [ht] at hPt
              have hK2 := va_K.moved hvm.symm hK2
              obtain ⟨v261, cB262, nb263, f264, ml265, cn266⟩ := x
              dsimp only at hPt hK2 hne2 hv2 hF2 hw
              obtain ⟨rfl, rfl, rfl, rfl, hw⟩ := hw
              have hj := xjoin hN hP hK hBR hS0.1 hPt hK2 hk hne2 hv2
              rw [A19_self, C19_self] at hj
              obtain ⟨st267, est267⟩ : ∃ y, y = st19 st233 f264 ml265 (nI ((g6 + 1) + 1)) := ⟨_, rfl⟩
              rw [← est267] at hj
              have hst267a : st267 18 1 = 0 := by rw [est267]; rfl
              have hst267b : st267 18 3 = (nI ((g6 + 1) + 1)) := by rw [est267]; rfl
              have hfit : sb_Fit (st267 19) := by rw [est267]; exact hF2
              have hGst267 : XG [1, 2, 3, 4, 5, 6, 7, 8, 9, 10, 11, 12] st233 st267 := by rw [est267]; exact xg19 (XG.rf hG.1) (by decide) _ _ _
              have hG : XG [1, 2, 3, 4, 5, 6, 7, 8, 9, 10, 11, 12] st st267 := by rw [est267]; exact xg19 hG (by decide) _ _ _
              clear hK2 hne2 hv2 hF2 ht hvm est267 hPs hKs hk hz
              obtain ⟨hP, hK, hN, hBR⟩ := hj
              clear hw
              refine lv_pop hx hb dX11_appendName_38 rfl ?_
              refine lv_iinc (v := 0) (lv' := [(3, .int 0), (4, .int z242), (0, .ref (A 0)), (1, .long vw)]) hx hb dX11_appendName_39 hl (k := 1) rfl (by decide) (by decide) rfl (fun ls hl => ?_)
              refine lv_goto (tgt := 3) hx hb dX11_appendName_42 (by decide) ?_
              refine lv_iload_n hx hb dX11_appendName_3 rfl (lv_at hl 0 rfl) ?_
              refine lv_if_lt (tgt := 45) hx hb dX11_appendName_4 (by decide) (fun cc => absurd cc (by decide)) (fun _ => ?_)
              refine lv_lload_n hx hb dX11_appendName_7 rfl (lv_at hl 3 rfl) ?_
              refine lv_iload_n hx hb dX11_appendName_8 rfl (lv_at hl 0 rfl) ?_
              refine lv_iconst (v := 5) hx hb dX11_appendName_9 (by decide) ?_
              refine lv_imul hx hb dX11_appendName_10 ?_
              refine zz_top (v := 0) (by decide) ?_
              refine lv_lushr hx hb dX11_appendName_11 rfl ?_
              refine lv_topl (fun z268 ez268 => ?_)
              clear ez268
              refine lv_l2i hx hb dX11_appendName_12 rfl ?_
              refine lv_topi (fun z269 ez269 => ?_)
              clear ez269
              refine lv_bipush (v := 31) hx hb dX11_appendName_13 (by decide) ?_
              refine lv_iand hx hb dX11_appendName_15 ?_
              refine lv_topi (fun z270 ez270 => ?_)
              clear ez270
              refine lv_istore (lv' := [(4, .int z270), (3, .int 0), (0, .ref (A 0)), (1, .long vw)]) hx hb dX11_appendName_16 hl (by decide) rfl (fun ls hl => ?_)
              refine lv_iload hx hb dX11_appendName_18 (lv_at hl 0 rfl) ?_
              refine lv_if_eq (tgt := 39) hx hb dX11_appendName_20 (by decide) (fun c63 => ?_) (fun c63 => ?_)
              · refine lv_iinc (v := (-1)) (lv' := [(3, .int (-1)), (4, .int z270), (0, .ref (A 0)), (1, .long vw)]) hx hb dX11_appendName_39 hl (k := 1) rfl (by decide) (by decide) rfl (fun ls hl => ?_)
                refine lv_goto (tgt := 3) hx hb dX11_appendName_42 (by decide) ?_
                refine lv_iload_n hx hb dX11_appendName_3 rfl (lv_at hl 0 rfl) ?_
                refine lv_if_lt (tgt := 45) hx hb dX11_appendName_4 (by decide) (fun _ => ?_) (fun cc => absurd (by decide) cc)
                exact W.vret hx hb hr (fun t ht hW => ⟨⟨(st267, sl5, so), rfl, ⟨hG, rfl, ⟨((g6 + 1) + 1), by show st267 18 1 = 0; rw [hst267a], by show st267 18 3 = _; rw [hst267b], by omega, hfit⟩⟩, xB.of ht hP⟩, hS.F ht⟩) hS.2.2 dX11_appendName_45
              · refine lv_aload_n hx hb dX11_appendName_23 rfl (lv_at hl 2 rfl) ?_
                refine va_get (D := (dC, dI)) (ci := 10) (v := .ref (A 18)) (C := RX11) (T := TX11) (N := 19) hx hb hts ii_X11_appendName_X11 hown hK hP 0 (xw_is (r := 0) (by omega) (xc_fix (r := 0) (by omega))) rfl 14 (by decide) (hts _ mm_X11_appendName_1) (fun _ hh => hh) rfl dX11_appendName_24 ?_
                refine lv_bipush (v := 97) hx hb dX11_appendName_27 (by decide) ?_
                refine lv_iload hx hb dX11_appendName_29 (lv_at hl 0 rfl) ?_
                refine lv_iadd hx hb dX11_appendName_31 ?_
                refine lv_topi (fun z271 ez271 => ?_)
                clear ez271
                refine lv_iconst (v := 1) hx hb dX11_appendName_32 (by decide) ?_
                refine lv_isub hx hb dX11_appendName_33 ?_
                refine lv_topi (fun z272 ez272 => ?_)
                clear ez272
                refine lv_i2c hx hb dX11_appendName_34 rfl ?_
                refine lv_topi (fun z273 ez273 => ?_)
                clear ez273
                have hPs := xsub (cn := ((g6 + 1) + 1)) hP (by rw [hst267a]) (by rw [hst267b])
                have hKs := xKsub hK
                have hns : A 18 ≠ A 19 := fun h9 => absurd (hN 18 19 (by omega) (by omega) h9) (by decide)
                have hS0 := hS
                refine va_callr (va_runV (As := [.int z273]) (rest := []) ⟨hx, hb, hml, hown, hts⟩ (s_J4_append_cf468 l dC dI ad E hEE (A 18) (A 19) (C 19) nb (st267 19) (st267 18 2) ((g6 + 1) + 1) _ z273 hns hfit (by omega) (by omega) (by omega) (by omega)) (cwV 1 hts gX11_appendName_J4_append_cf468 rfl rfl rfl (by decide +kernel) ⟨Nat.le_of_ble_eq_true rfl, Nat.le_of_ble_eq_true rfl⟩) ⟨fun a U g mk q => ⟨q.1, sPre.blind hEE q.2⟩, va_recv hKs hPs (ci := 0) (q0 := 0) rfl rfl, fun U hU hW => ⟨rfl, sPre.of hEE hPs hKs hE hS (hBR.sa _ hS.1) hU hW⟩⟩ rfl rfl hl.1 rfl (lv_room (Nat.le_of_ble_eq_true rfl)) dX11_appendName_35 ⟨Nat.le_of_ble_eq_true rfl, Nat.le_of_ble_eq_true rfl⟩) hS (fun q _ h => hBR.sa _ hS.1 q h) (hBR.sa _ hS.1) (fun x r274 t H5 locs ht hvm hw hB hz hk hS => ?_)
                obtain ⟨hw, hr9, hB⟩ := hB
                subst hr9
                obtain ⟨hPt, hK2, hne2, hv2, hF2⟩ := hB
                rw [ht] at hPt
                have hK2 := va_K.moved hvm.symm hK2
                obtain ⟨v275, cB276, nb277, f278, ml279, cn280⟩ := x
                dsimp only at hPt hK2 hne2 hv2 hF2 hw
                obtain ⟨rfl, rfl, rfl, rfl, hw⟩ := hw
                have hj := xjoin hN hP hK hBR hS0.1 hPt hK2 hk hne2 hv2
                rw [A19_self, C19_self] at hj
                obtain ⟨st281, est281⟩ : ∃ y, y = st19 st267 f278 ml279 (nI (((g6 + 1) + 1) + 1)) := ⟨_, rfl⟩
                rw [← est281] at hj
                have hst281a : st281 18 1 = 0 := by rw [est281]; rfl
                have hst281b : st281 18 3 = (nI (((g6 + 1) + 1) + 1)) := by rw [est281]; rfl
                have hfit : sb_Fit (st281 19) := by rw [est281]; exact hF2
                have hGst281 : XG [1, 2, 3, 4, 5, 6, 7, 8, 9, 10, 11, 12] st267 st281 := by rw [est281]; exact xg19 (XG.rf hG.1) (by decide) _ _ _
                have hG : XG [1, 2, 3, 4, 5, 6, 7, 8, 9, 10, 11, 12] st st281 := by rw [est281]; exact xg19 hG (by decide) _ _ _
                clear hK2 hne2 hv2 hF2 ht hvm est281 hPs hKs hk hz
                obtain ⟨hP, hK, hN, hBR⟩ := hj
                clear hw
                refine lv_pop hx hb dX11_appendName_38 rfl ?_
                refine lv_iinc (v := (-1)) (lv' := [(3, .int (-1)), (4, .int z270), (0, .ref (A 0)), (1, .long vw)]) hx hb dX11_appendName_39 hl (k := 1) rfl (by decide) (by decide) rfl (fun ls hl => ?_)
                refine lv_goto (tgt := 3) hx hb dX11_appendName_42 (by decide) ?_
                refine lv_iload_n hx hb dX11_appendName_3 rfl (lv_at hl 0 rfl) ?_
                refine lv_if_lt (tgt := 45) hx hb dX11_appendName_4 (by decide) (fun _ => ?_) (fun cc => absurd (by decide) cc)
                exact W.vret hx hb hr (fun t ht hW => ⟨⟨(st281, sl5, so), rfl, ⟨hG, rfl, ⟨(((g6 + 1) + 1) + 1), by show st281 18 1 = 0; rw [hst281a], by show st281 18 3 = _; rw [hst281b], by omega, hfit⟩⟩, xB.of ht hP⟩, hS.F ht⟩) hS.2.2 dX11_appendName_45
          · refine lv_aload_n hx hb dX11_appendName_23 rfl (lv_at hl 2 rfl) ?_
            refine va_get (D := (dC, dI)) (ci := 10) (v := .ref (A 18)) (C := RX11) (T := TX11) (N := 19) hx hb hts ii_X11_appendName_X11 hown hK hP 0 (xw_is (r := 0) (by omega) (xc_fix (r := 0) (by omega))) rfl 14 (by decide) (hts _ mm_X11_appendName_1) (fun _ hh => hh) rfl dX11_appendName_24 ?_
            refine lv_bipush (v := 97) hx hb dX11_appendName_27 (by decide) ?_
            refine lv_iload hx hb dX11_appendName_29 (lv_at hl 0 rfl) ?_
            refine lv_iadd hx hb dX11_appendName_31 ?_
            refine lv_topi (fun z282 ez282 => ?_)
            clear ez282
            refine lv_iconst (v := 1) hx hb dX11_appendName_32 (by decide) ?_
            refine lv_isub hx hb dX11_appendName_33 ?_
            refine lv_topi (fun z283 ez283 => ?_)
            clear ez283
            refine lv_i2c hx hb dX11_appendName_34 rfl ?_
            refine lv_topi (fun z284 ez284 => ?_)
            clear ez284
            have hPs := xsub (cn := (g6 + 1)) hP (by rw [hst233a]) (by rw [hst233b])
            have hKs := xKsub hK
            have hns : A 18 ≠ A 19 := fun h9 => absurd (hN 18 19 (by omega) (by omega) h9) (by decide)
            have hS0 := hS
            refine va_callr (va_runV (As := [.int z284]) (rest := []) ⟨hx, hb, hml, hown, hts⟩ (s_J4_append_cf468 l dC dI ad E hEE (A 18) (A 19) (C 19) nb (st233 19) (st233 18 2) (g6 + 1) _ z284 hns hfit (by omega) (by omega) (by omega) (by omega)) (cwV 1 hts gX11_appendName_J4_append_cf468 rfl rfl rfl (by decide +kernel) ⟨Nat.le_of_ble_eq_true rfl, Nat.le_of_ble_eq_true rfl⟩) ⟨fun a U g mk q => ⟨q.1, sPre.blind hEE q.2⟩, va_recv hKs hPs (ci := 0) (q0 := 0) rfl rfl, fun U hU hW => ⟨rfl, sPre.of hEE hPs hKs hE hS (hBR.sa _ hS.1) hU hW⟩⟩ rfl rfl hl.1 rfl (lv_room (Nat.le_of_ble_eq_true rfl)) dX11_appendName_35 ⟨Nat.le_of_ble_eq_true rfl, Nat.le_of_ble_eq_true rfl⟩) hS (fun q _ h => hBR.sa _ hS.1 q h) (hBR.sa _ hS.1) (fun x r285 t H5 locs ht hvm hw hB hz hk hS => ?_)
            obtain ⟨hw, hr9, hB⟩ := hB
            subst hr9
            obtain ⟨hPt, hK2, hne2, hv2, hF2⟩ := hB
            rw [ht] at hPt
            have hK2 := va_K.moved hvm.symm hK2
            obtain ⟨v286, cB287, nb288, f289, ml290, cn291⟩ := x
            dsimp only at hPt hK2 hne2 hv2 hF2 hw
            obtain ⟨rfl, rfl, rfl, rfl, hw⟩ := hw
            have hj := xjoin hN hP hK hBR hS0.1 hPt hK2 hk hne2 hv2
            rw [A19_self, C19_self] at hj
            obtain ⟨st292, est292⟩ : ∃ y, y = st19 st233 f289 ml290 (nI ((g6 + 1) + 1)) := ⟨_, rfl⟩
            rw [← est292] at hj
            have hst292a : st292 18 1 = 0 := by rw [est292]; rfl
            have hst292b : st292 18 3 = (nI ((g6 + 1) + 1)) := by rw [est292]; rfl
            have hfit : sb_Fit (st292 19) := by rw [est292]; exact hF2
            have hGst292 : XG [1, 2, 3, 4, 5, 6, 7, 8, 9, 10, 11, 12] st233 st292 := by rw [est292]; exact xg19 (XG.rf hG.1) (by decide) _ _ _
            have hG : XG [1, 2, 3, 4, 5, 6, 7, 8, 9, 10, 11, 12] st st292 := by rw [est292]; exact xg19 hG (by decide) _ _ _
            clear hK2 hne2 hv2 hF2 ht hvm est292 hPs hKs hk hz
            obtain ⟨hP, hK, hN, hBR⟩ := hj
            clear hw
            refine lv_pop hx hb dX11_appendName_38 rfl ?_
            refine lv_iinc (v := 1) (lv' := [(3, .int 1), (4, .int z239), (0, .ref (A 0)), (1, .long vw)]) hx hb dX11_appendName_39 hl (k := 1) rfl (by decide) (by decide) rfl (fun ls hl => ?_)
            refine lv_goto (tgt := 3) hx hb dX11_appendName_42 (by decide) ?_
            refine lv_iload_n hx hb dX11_appendName_3 rfl (lv_at hl 0 rfl) ?_
            refine lv_if_lt (tgt := 45) hx hb dX11_appendName_4 (by decide) (fun cc => absurd cc (by decide)) (fun _ => ?_)
            refine lv_lload_n hx hb dX11_appendName_7 rfl (lv_at hl 3 rfl) ?_
            refine lv_iload_n hx hb dX11_appendName_8 rfl (lv_at hl 0 rfl) ?_
            refine lv_iconst (v := 5) hx hb dX11_appendName_9 (by decide) ?_
            refine lv_imul hx hb dX11_appendName_10 ?_
            refine zz_top (v := 5) (by decide) ?_
            refine lv_lushr hx hb dX11_appendName_11 rfl ?_
            refine lv_topl (fun z293 ez293 => ?_)
            clear ez293
            refine lv_l2i hx hb dX11_appendName_12 rfl ?_
            refine lv_topi (fun z294 ez294 => ?_)
            clear ez294
            refine lv_bipush (v := 31) hx hb dX11_appendName_13 (by decide) ?_
            refine lv_iand hx hb dX11_appendName_15 ?_
            refine lv_topi (fun z295 ez295 => ?_)
            clear ez295
            refine lv_istore (lv' := [(4, .int z295), (3, .int 1), (0, .ref (A 0)), (1, .long vw)]) hx hb dX11_appendName_16 hl (by decide) rfl (fun ls hl => ?_)
            refine lv_iload hx hb dX11_appendName_18 (lv_at hl 0 rfl) ?_
            refine lv_if_eq (tgt := 39) hx hb dX11_appendName_20 (by decide) (fun c67 => ?_) (fun c67 => ?_)
            · refine lv_iinc (v := 0) (lv' := [(3, .int 0), (4, .int z295), (0, .ref (A 0)), (1, .long vw)]) hx hb dX11_appendName_39 hl (k := 1) rfl (by decide) (by decide) rfl (fun ls hl => ?_)
              refine lv_goto (tgt := 3) hx hb dX11_appendName_42 (by decide) ?_
              refine lv_iload_n hx hb dX11_appendName_3 rfl (lv_at hl 0 rfl) ?_
              refine lv_if_lt (tgt := 45) hx hb dX11_appendName_4 (by decide) (fun cc => absurd cc (by decide)) (fun _ => ?_)
              refine lv_lload_n hx hb dX11_appendName_7 rfl (lv_at hl 3 rfl) ?_
              refine lv_iload_n hx hb dX11_appendName_8 rfl (lv_at hl 0 rfl) ?_
              refine lv_iconst (v := 5) hx hb dX11_appendName_9 (by decide) ?_
              refine lv_imul hx hb dX11_appendName_10 ?_
              refine zz_top (v := 0) (by decide) ?_
              refine lv_lushr hx hb dX11_appendName_11 rfl ?_
              refine lv_topl (fun z296 ez296 => ?_)
              clear ez296
              refine lv_l2i hx hb dX11_appendName_12 rfl ?_
              refine lv_topi (fun z297 ez297 => ?_)
              clear ez297
              refine lv_bipush (v := 31) hx hb dX11_appendName_13 (by decide) ?_
              refine lv_iand hx hb dX11_appendName_15 ?_
              refine lv_topi (fun z298 ez298 => ?_)
              clear ez298
              refine lv_istore (lv' := [(4, .int z298), (3, .int 0), (0, .ref (A 0)), (1, .long vw)]) hx hb dX11_appendName_16 hl (by decide) rfl (fun ls hl => ?_)
              refine lv_iload hx hb dX11_appendName_18 (lv_at hl 0 rfl) ?_
              refine lv_if_eq (tgt := 39) hx hb dX11_appendName_20 (by decide) (fun c69 => ?_) (fun c69 => ?_)
              · refine lv_iinc (v := (-1)) (lv' := [(3, .int (-1)), (4, .int z298), (0, .ref (A 0)), (1, .long vw)]) hx hb dX11_appendName_39 hl (k := 1) rfl (by decide) (by decide) rfl (fun ls hl => ?_)
                refine lv_goto (tgt := 3) hx hb dX11_appendName_42 (by decide) ?_
                refine lv_iload_n hx hb dX11_appendName_3 rfl (lv_at hl 0 rfl) ?_
                refine lv_if_lt (tgt := 45) hx hb dX11_appendName_4 (by decide) (fun _ => ?_) (fun cc => absurd (by decide) cc)
                exact W.vret hx hb hr (fun t ht hW => ⟨⟨(st292, sl5, so), rfl, ⟨hG, rfl, ⟨((g6 + 1) + 1), by show st292 18 1 = 0; rw [hst292a], by show st292 18 3 = _; rw [hst292b], by omega, hfit⟩⟩, xB.of ht hP⟩, hS.F ht⟩) hS.2.2 dX11_appendName_45
              · refine lv_aload_n hx hb dX11_appendName_23 rfl (lv_at hl 2 rfl) ?_
                refine va_get (D := (dC, dI)) (ci := 10) (v := .ref (A 18)) (C := RX11) (T := TX11) (N := 19) hx hb hts ii_X11_appendName_X11 hown hK hP 0 (xw_is (r := 0) (by omega) (xc_fix (r := 0) (by omega))) rfl 14 (by decide) (hts _ mm_X11_appendName_1) (fun _ hh => hh) rfl dX11_appendName_24 ?_
                refine lv_bipush (v := 97) hx hb dX11_appendName_27 (by decide) ?_
                refine lv_iload hx hb dX11_appendName_29 (lv_at hl 0 rfl) ?_
                refine lv_iadd hx hb dX11_appendName_31 ?_
                refine lv_topi (fun z299 ez299 => ?_)
                clear ez299
                refine lv_iconst (v := 1) hx hb dX11_appendName_32 (by decide) ?_
                refine lv_isub hx hb dX11_appendName_33 ?_
                refine lv_topi (fun z300 ez300 => ?_)
                clear ez300
                refine lv_i2c hx hb dX11_appendName_34 rfl ?_
                refine lv_topi (fun z301 ez301 => ?_)
                clear ez301
                have hPs := xsub (cn := ((g6 + 1) + 1)) hP (by rw [hst292a]) (by rw [hst292b])
                have hKs := xKsub hK
                have hns : A 18 ≠ A 19 := fun h9 => absurd (hN 18 19 (by omega) (by omega) h9) (by decide)
                have hS0 := hS
                refine va_callr (va_runV (As := [.int z301]) (rest := []) ⟨hx, hb, hml, hown, hts⟩ (s_J4_append_cf468 l dC dI ad E hEE (A 18) (A 19) (C 19) nb (st292 19) (st292 18 2) ((g6 + 1) + 1) _ z301 hns hfit (by omega) (by omega) (by omega) (by omega)) (cwV 1 hts gX11_appendName_J4_append_cf468 rfl rfl rfl (by decide +kernel) ⟨Nat.le_of_ble_eq_true rfl, Nat.le_of_ble_eq_true rfl⟩) ⟨fun a U g mk q => ⟨q.1, sPre.blind hEE q.2⟩, va_recv hKs hPs (ci := 0) (q0 := 0) rfl rfl, fun U hU hW => ⟨rfl, sPre.of hEE hPs hKs hE hS (hBR.sa _ hS.1) hU hW⟩⟩ rfl rfl hl.1 rfl (lv_room (Nat.le_of_ble_eq_true rfl)) dX11_appendName_35 ⟨Nat.le_of_ble_eq_true rfl, Nat.le_of_ble_eq_true rfl⟩) hS (fun q _ h => hBR.sa _ hS.1 q h) (hBR.sa _ hS.1) (fun x r302 t H5 locs ht hvm hw hB hz hk hS => ?_)
                obtain ⟨hw, hr9, hB⟩ := hB
                subst hr9
                obtain ⟨hPt, hK2, hne2, hv2, hF2⟩ := hB
                rw [ht] at hPt
                have hK2 := va_K.moved hvm.symm hK2
                obtain ⟨v303, cB304, nb305, f306, ml307, cn308⟩ := x
                dsimp only at hPt hK2 hne2 hv2 hF2 hw
                obtain ⟨rfl, rfl, rfl, rfl, hw⟩ := hw
                have hj := xjoin hN hP hK hBR hS0.1 hPt hK2 hk hne2 hv2
                rw [A19_self, C19_self] at hj
                obtain ⟨st309, est309⟩ : ∃ y, y = st19 st292 f306 ml307 (nI (((g6 + 1) + 1) + 1)) := ⟨_, rfl⟩
                rw [← est309] at hj
                have hst309a : st309 18 1 = 0 := by rw [est309]; rfl
                have hst309b : st309 18 3 = (nI (((g6 + 1) + 1) + 1)) := by rw [est309]; rfl
                have hfit : sb_Fit (st309 19) := by rw [est309]; exact hF2
                have hGst309 : XG [1, 2, 3, 4, 5, 6, 7, 8, 9, 10, 11, 12] st292 st309 := by rw [est309]; exact xg19 (XG.rf hG.1) (by decide) _ _ _
                have hG : XG [1, 2, 3, 4, 5, 6, 7, 8, 9, 10, 11, 12] st st309 := by rw [est309]; exact xg19 hG (by decide) _ _ _
                clear hK2 hne2 hv2 hF2 ht hvm est309 hPs hKs hk hz
                obtain ⟨hP, hK, hN, hBR⟩ := hj
                clear hw
                refine lv_pop hx hb dX11_appendName_38 rfl ?_
                refine lv_iinc (v := (-1)) (lv' := [(3, .int (-1)), (4, .int z298), (0, .ref (A 0)), (1, .long vw)]) hx hb dX11_appendName_39 hl (k := 1) rfl (by decide) (by decide) rfl (fun ls hl => ?_)
                refine lv_goto (tgt := 3) hx hb dX11_appendName_42 (by decide) ?_
                refine lv_iload_n hx hb dX11_appendName_3 rfl (lv_at hl 0 rfl) ?_
                refine lv_if_lt (tgt := 45) hx hb dX11_appendName_4 (by decide) (fun _ => ?_) (fun cc => absurd (by decide) cc)
                exact W.vret hx hb hr (fun t ht hW => ⟨⟨(st309, sl5, so), rfl, ⟨hG, rfl, ⟨(((g6 + 1) + 1) + 1), by show st309 18 1 = 0; rw [hst309a], by show st309 18 3 = _; rw [hst309b], by omega, hfit⟩⟩, xB.of ht hP⟩, hS.F ht⟩) hS.2.2 dX11_appendName_45
            · refine lv_aload_n hx hb dX11_appendName_23 rfl (lv_at hl 2 rfl) ?_
              refine va_get (D := (dC, dI)) (ci := 10) (v := .ref (A 18)) (C := RX11) (T := TX11) (N := 19) hx hb hts ii_X11_appendName_X11 hown hK hP 0 (xw_is (r := 0) (by omega) (xc_fix (r := 0) (by omega))) rfl 14 (by decide) (hts _ mm_X11_appendName_1) (fun _ hh => hh) rfl dX11_appendName_24 ?_
              refine lv_bipush (v := 97) hx hb dX11_appendName_27 (by decide) ?_
              refine lv_iload hx hb dX11_appendName_29 (lv_at hl 0 rfl) ?_
              refine lv_iadd hx hb dX11_appendName_31 ?_
              refine lv_topi (fun z310 ez310 => ?_)
              clear ez310
              refine lv_iconst (v := 1) hx hb dX11_appendName_32 (by decide) ?_
              refine lv_isub hx hb dX11_appendName_33 ?_
              refine lv_topi (fun z311 ez311 => ?_)
              clear ez311
              refine lv_i2c hx hb dX11_appendName_34 rfl ?_
              refine lv_topi (fun z312 ez312 => ?_)
              clear ez312
              have hPs := xsub (cn := ((g6 + 1) + 1)) hP (by rw [hst292a]) (by rw [hst292b])
              have hKs := xKsub hK
              have hns : A 18 ≠ A 19 := fun h9 => absurd (hN 18 19 (by omega) (by omega) h9) (by decide)
              have hS0 := hS
              refine va_callr (va_runV (As := [.int z312]) (rest := []) ⟨hx, hb, hml, hown, hts⟩ (s_J4_append_cf468 l dC dI ad E hEE (A 18) (A 19) (C 19) nb (st292 19) (st292 18 2) ((g6 + 1) + 1) _ z312 hns hfit (by omega) (by omega) (by omega) (by omega)) (cwV 1 hts gX11_appendName_J4_append_cf468 rfl rfl rfl (by decide +kernel) ⟨Nat.le_of_ble_eq_true rfl, Nat.le_of_ble_eq_true rfl⟩) ⟨fun a U g mk q => ⟨q.1, sPre.blind hEE q.2⟩, va_recv hKs hPs (ci := 0) (q0 := 0) rfl rfl, fun U hU hW => ⟨rfl, sPre.of hEE hPs hKs hE hS (hBR.sa _ hS.1) hU hW⟩⟩ rfl rfl hl.1 rfl (lv_room (Nat.le_of_ble_eq_true rfl)) dX11_appendName_35 ⟨Nat.le_of_ble_eq_true rfl, Nat.le_of_ble_eq_true rfl⟩) hS (fun q _ h => hBR.sa _ hS.1 q h) (hBR.sa _ hS.1) (fun x r313 t H5 locs ht hvm hw hB hz hk hS => ?_)
              obtain ⟨hw, hr9, hB⟩ := hB
              subst hr9
              obtain ⟨hPt, hK2, hne2, hv2, hF2⟩ := hB
              rw [ht] at hPt
              have hK2 := va_K.moved hvm.symm hK2
              obtain ⟨v314, cB315, nb316, f317, ml318, cn319⟩ := x
              dsimp only at hPt hK2 hne2 hv2 hF2 hw
              obtain ⟨rfl, rfl, rfl, rfl, hw⟩ := hw
              have hj := xjoin hN hP hK hBR hS0.1 hPt hK2 hk hne2 hv2
              rw [A19_self, C19_self] at hj
              obtain ⟨st320, est320⟩ : ∃ y, y = st19 st292 f317 ml318 (nI (((g6 + 1) + 1) + 1)) := ⟨_, rfl⟩
              rw [← est320] at hj
              have hst320a : st320 18 1 = 0 := by rw [est320]; rfl
              have hst320b : st320 18 3 = (nI (((g6 + 1) + 1) + 1)) := by rw [est320]; rfl
              have hfit : sb_Fit (st320 19) := by rw [est320]; exact hF2
              have hGst320 : XG [1, 2, 3, 4, 5, 6, 7, 8, 9, 10, 11, 12] st292 st320 := by rw [est320]; exact xg19 (XG.rf hG.1) (by decide) _ _ _
              have hG : XG [1, 2, 3, 4, 5, 6, 7, 8, 9, 10, 11, 12] st st320 := by rw [est320]; exact xg19 hG (by decide) _ _ _
              clear hK2 hne2 hv2 hF2 ht hvm est320 hPs hKs hk hz
              obtain ⟨hP, hK, hN, hBR⟩ := hj
              clear hw
              refine lv_pop hx hb dX11_appendName_38 rfl ?_
              refine lv_iinc (v := 0) (lv' := [(3, .int 0), (4, .int z295), (0, .ref (A 0)), (1, .long vw)]) hx hb dX11_appendName_39 hl (k := 1) rfl (by decide) (by decide) rfl (fun ls hl => ?_)
              refine lv_goto (tgt := 3) hx hb dX11_appendName_42 (by decide) ?_
              refine lv_iload_n hx hb dX11_appendName_3 rfl (lv_at hl 0 rfl) ?_
              refine lv_if_lt (tgt := 45) hx hb dX11_appendName_4 (by decide) (fun cc => absurd cc (by decide)) (fun _ => ?_)
              refine lv_lload_n hx hb dX11_appendName_7 rfl (lv_at hl 3 rfl) ?_
              refine lv_iload_n hx hb dX11_appendName_8 rfl (lv_at hl 0 rfl) ?_
              refine lv_iconst (v := 5) hx hb dX11_appendName_9 (by decide) ?_
              refine lv_imul hx hb dX11_appendName_10 ?_
              refine zz_top (v := 0) (by decide) ?_
              refine lv_lushr hx hb dX11_appendName_11 rfl ?_
              refine lv_topl (fun z321 ez321 => ?_)
              clear ez321
              refine lv_l2i hx hb dX11_appendName_12 rfl ?_
              refine lv_topi (fun z322 ez322 => ?_)
              clear ez322
              refine lv_bipush (v := 31) hx hb dX11_appendName_13 (by decide) ?_
              refine lv_iand hx hb dX11_appendName_15 ?_
              refine lv_topi (fun z323 ez323 => ?_)
              clear ez323
              refine lv_istore (lv' := [(4, .int z323), (3, .int 0), (0, .ref (A 0)), (1, .long vw)]) hx hb dX11_appendName_16 hl (by decide) rfl (fun ls hl => ?_)
              refine lv_iload hx hb dX11_appendName_18 (lv_at hl 0 rfl) ?_
              refine lv_if_eq (tgt := 39) hx hb dX11_appendName_20 (by decide) (fun c73 => ?_) (fun c73 => ?_)
              · refine lv_iinc (v := (-1)) (lv' := [(3, .int (-1)), (4, .int z323), (0, .ref (A 0)), (1, .long vw)]) hx hb dX11_appendName_39 hl (k := 1) rfl (by decide) (by decide) rfl (fun ls hl => ?_)
                refine lv_goto (tgt := 3) hx hb dX11_appendName_42 (by decide) ?_
                refine lv_iload_n hx hb dX11_appendName_3 rfl (lv_at hl 0 rfl) ?_
                refine lv_if_lt (tgt := 45) hx hb dX11_appendName_4 (by decide) (fun _ => ?_) (fun cc => absurd (by decide) cc)
                exact W.vret hx hb hr (fun t ht hW => ⟨⟨(st320, sl5, so), rfl, ⟨hG, rfl, ⟨(((g6 + 1) + 1) + 1), by show st320 18 1 = 0; rw [hst320a], by show st320 18 3 = _; rw [hst320b], by omega, hfit⟩⟩, xB.of ht hP⟩, hS.F ht⟩) hS.2.2 dX11_appendName_45
              · refine lv_aload_n hx hb dX11_appendName_23 rfl (lv_at hl 2 rfl) ?_
                refine va_get (D := (dC, dI)) (ci := 10) (v := .ref (A 18)) (C := RX11) (T := TX11) (N := 19) hx hb hts ii_X11_appendName_X11 hown hK hP 0 (xw_is (r := 0) (by omega) (xc_fix (r := 0) (by omega))) rfl 14 (by decide) (hts _ mm_X11_appendName_1) (fun _ hh => hh) rfl dX11_appendName_24 ?_
                refine lv_bipush (v := 97) hx hb dX11_appendName_27 (by decide) ?_
                refine lv_iload hx hb dX11_appendName_29 (lv_at hl 0 rfl) ?_
                refine lv_iadd hx hb dX11_appendName_31 ?_
                refine lv_topi (fun z324 ez324 => ?_)
                clear ez324
                refine lv_iconst (v := 1) hx hb dX11_appendName_32 (by decide) ?_
                refine lv_isub hx hb dX11_appendName_33 ?_
                refine lv_topi (fun z325 ez325 => ?_)
                clear ez325
                refine lv_i2c hx hb dX11_appendName_34 rfl ?_
                refine lv_topi (fun z326 ez326 => ?_)
                clear ez326
                have hPs := xsub (cn := (((g6 + 1) + 1) + 1)) hP (by rw [hst320a]) (by rw [hst320b])
                have hKs := xKsub hK
                have hns : A 18 ≠ A 19 := fun h9 => absurd (hN 18 19 (by omega) (by omega) h9) (by decide)
                have hS0 := hS
                refine va_callr (va_runV (As := [.int z326]) (rest := []) ⟨hx, hb, hml, hown, hts⟩ (s_J4_append_cf468 l dC dI ad E hEE (A 18) (A 19) (C 19) nb (st320 19) (st320 18 2) (((g6 + 1) + 1) + 1) _ z326 hns hfit (by omega) (by omega) (by omega) (by omega)) (cwV 1 hts gX11_appendName_J4_append_cf468 rfl rfl rfl (by decide +kernel) ⟨Nat.le_of_ble_eq_true rfl, Nat.le_of_ble_eq_true rfl⟩) ⟨fun a U g mk q => ⟨q.1, sPre.blind hEE q.2⟩, va_recv hKs hPs (ci := 0) (q0 := 0) rfl rfl, fun U hU hW => ⟨rfl, sPre.of hEE hPs hKs hE hS (hBR.sa _ hS.1) hU hW⟩⟩ rfl rfl hl.1 rfl (lv_room (Nat.le_of_ble_eq_true rfl)) dX11_appendName_35 ⟨Nat.le_of_ble_eq_true rfl, Nat.le_of_ble_eq_true rfl⟩) hS (fun q _ h => hBR.sa _ hS.1 q h) (hBR.sa _ hS.1) (fun x r327 t H5 locs ht hvm hw hB hz hk hS => ?_)
                obtain ⟨hw, hr9, hB⟩ := hB
                subst hr9
                obtain ⟨hPt, hK2, hne2, hv2, hF2⟩ := hB
                rw [ht] at hPt
                have hK2 := va_K.moved hvm.symm hK2
                obtain ⟨v328, cB329, nb330, f331, ml332, cn333⟩ := x
                dsimp only at hPt hK2 hne2 hv2 hF2 hw
                obtain ⟨rfl, rfl, rfl, rfl, hw⟩ := hw
                have hj := xjoin hN hP hK hBR hS0.1 hPt hK2 hk hne2 hv2
                rw [A19_self, C19_self] at hj
                obtain ⟨st334, est334⟩ : ∃ y, y = st19 st320 f331 ml332 (nI ((((g6 + 1) + 1) + 1) + 1)) := ⟨_, rfl⟩
                rw [← est334] at hj
                have hst334a : st334 18 1 = 0 := by rw [est334]; rfl
                have hst334b : st334 18 3 = (nI ((((g6 + 1) + 1) + 1) + 1)) := by rw [est334]; rfl
                have hfit : sb_Fit (st334 19) := by rw [est334]; exact hF2
                have hGst334 : XG [1, 2, 3, 4, 5, 6, 7, 8, 9, 10, 11, 12] st320 st334 := by rw [est334]; exact xg19 (XG.rf hG.1) (by decide) _ _ _
                have hG : XG [1, 2, 3, 4, 5, 6, 7, 8, 9, 10, 11, 12] st st334 := by rw [est334]; exact xg19 hG (by decide) _ _ _
                clear hK2 hne2 hv2 hF2 ht hvm est334 hPs hKs hk hz
                obtain ⟨hP, hK, hN, hBR⟩ := hj
                clear hw
                refine lv_pop hx hb dX11_appendName_38 rfl ?_
                refine lv_iinc (v := (-1)) (lv' := [(3, .int (-1)), (4, .int z323), (0, .ref (A 0)), (1, .long vw)]) hx hb dX11_appendName_39 hl (k := 1) rfl (by decide) (by decide) rfl (fun ls hl => ?_)
                refine lv_goto (tgt := 3) hx hb dX11_appendName_42 (by decide) ?_
                refine lv_iload_n hx hb dX11_appendName_3 rfl (lv_at hl 0 rfl) ?_
                refine lv_if_lt (tgt := 45) hx hb dX11_appendName_4 (by decide) (fun _ => ?_) (fun cc => absurd (by decide) cc)
                exact W.vret hx hb hr (fun t ht hW => ⟨⟨(st334, sl5, so), rfl, ⟨hG, rfl, ⟨((((g6 + 1) + 1) + 1) + 1), by show st334 18 1 = 0; rw [hst334a], by show st334 18 3 = _; rw [hst334b], by omega, hfit⟩⟩, xB.of ht hP⟩, hS.F ht⟩) hS.2.2 dX11_appendName_45
        · refine lv_aload_n hx hb dX11_appendName_23 rfl (lv_at hl 2 rfl) ?_
          refine va_get (D := (dC, dI)) (ci := 10) (v := .ref (A 18)) (C := RX11) (T := TX11) (N := 19) hx hb hts ii_X11_appendName_X11 hown hK hP 0 (xw_is (r := 0) (by omega) (xc_fix (r := 0) (by omega))) rfl 14 (by decide) (hts _ mm_X11_appendName_1) (fun _ hh => hh) rfl dX11_appendName_24 ?_
          refine lv_bipush (v := 97) hx hb dX11_appendName_27 (by decide) ?_
          refine lv_iload hx hb dX11_appendName_29 (lv_at hl 0 rfl) ?_
          refine lv_iadd hx hb dX11_appendName_31 ?_
          refine lv_topi (fun z335 ez335 => ?_)
          clear ez335
          refine lv_iconst (v := 1) hx hb dX11_appendName_32 (by decide) ?_
          refine lv_isub hx hb dX11_appendName_33 ?_
          refine lv_topi (fun z336 ez336 => ?_)
          clear ez336
          refine lv_i2c hx hb dX11_appendName_34 rfl ?_
          refine lv_topi (fun z337 ez337 => ?_)
          clear ez337
          have hPs := xsub (cn := (g6 + 1)) hP (by rw [hst233a]) (by rw [hst233b])
          have hKs := xKsub hK
          have hns : A 18 ≠ A 19 := fun h9 => absurd (hN 18 19 (by omega) (by omega) h9) (by decide)
          have hS0 := hS
          refine va_callr (va_runV (As := [.int z337]) (rest := []) ⟨hx, hb, hml, hown, hts⟩ (s_J4_append_cf468 l dC dI ad E hEE (A 18) (A 19) (C 19) nb (st233 19) (st233 18 2) (g6 + 1) _ z337 hns hfit (by omega) (by omega) (by omega) (by omega)) (cwV 1 hts gX11_appendName_J4_append_cf468 rfl rfl rfl (by decide +kernel) ⟨Nat.le_of_ble_eq_true rfl, Nat.le_of_ble_eq_true rfl⟩) ⟨fun a U g mk q => ⟨q.1, sPre.blind hEE q.2⟩, va_recv hKs hPs (ci := 0) (q0 := 0) rfl rfl, fun U hU hW => ⟨rfl, sPre.of hEE hPs hKs hE hS (hBR.sa _ hS.1) hU hW⟩⟩ rfl rfl hl.1 rfl (lv_room (Nat.le_of_ble_eq_true rfl)) dX11_appendName_35 ⟨Nat.le_of_ble_eq_true rfl, Nat.le_of_ble_eq_true rfl⟩) hS (fun q _ h => hBR.sa _ hS.1 q h) (hBR.sa _ hS.1) (fun x r338 t H5 locs ht hvm hw hB hz hk hS => ?_)
          obtain ⟨hw, hr9, hB⟩ := hB
          subst hr9
          obtain ⟨hPt, hK2, hne2, hv2, hF2⟩ := hB
          rw [ht] at hPt
          have hK2 := va_K.moved hvm.symm hK2
          obtain ⟨v339, cB340, nb341, f342, ml343, cn344⟩ := x
          dsimp only at hPt hK2 hne2 hv2 hF2 hw
          obtain ⟨rfl, rfl, rfl, rfl, hw⟩ := hw
          have hj := xjoin hN hP hK hBR hS0.1 hPt hK2 hk hne2 hv2
          rw [A19_self, C19_self] at hj
          obtain ⟨st345, est345⟩ : ∃ y, y = st19 st233 f342 ml343 (nI ((g6 + 1) + 1)) := ⟨_, rfl⟩
          rw [← est345] at hj
          have hst345a : st345 18 1 = 0 := by rw [est345]; rfl
          have hst345b : st345 18 3 = (nI ((g6 + 1) + 1)) := by rw [est345]; rfl
          have hfit : sb_Fit (st345 19) := by rw [est345]; exact hF2
          have hGst345 : XG [1, 2, 3, 4, 5, 6, 7, 8, 9, 10, 11, 12] st233 st345 := by rw [est345]; exact xg19 (XG.rf hG.1) (by decide) _ _ _
          have hG : XG [1, 2, 3, 4, 5, 6, 7, 8, 9, 10, 11, 12] st st345 := by rw [est345]; exact xg19 hG (by decide) _ _ _
          clear hK2 hne2 hv2 hF2 ht hvm est345 hPs hKs hk hz
          obtain ⟨hP, hK, hN, hBR⟩ := hj
          clear hw
          refine lv_pop hx hb dX11_appendName_38 rfl ?_
          refine lv_iinc (v := 2) (lv' := [(3, .int 2), (4, .int z236), (0, .ref (A 0)), (1, .long vw)]) hx hb dX11_appendName_39 hl (k := 1) rfl (by decide) (by decide) rfl (fun ls hl => ?_)
          refine lv_goto (tgt := 3) hx hb dX11_appendName_42 (by decide) ?_
          refine lv_iload_n hx hb dX11_appendName_3 rfl (lv_at hl 0 rfl) ?_
          refine lv_if_lt (tgt := 45) hx hb dX11_appendName_4 (by decide) (fun cc => absurd cc (by decide)) (fun _ => ?_)
          refine lv_lload_n hx hb dX11_appendName_7 rfl (lv_at hl 3 rfl) ?_
          refine lv_iload_n hx hb dX11_appendName_8 rfl (lv_at hl 0 rfl) ?_
          refine lv_iconst (v := 5) hx hb dX11_appendName_9 (by decide) ?_
          refine lv_imul hx hb dX11_appendName_10 ?_
          refine zz_top (v := 10) (by decide) ?_
          refine lv_lushr hx hb dX11_appendName_11 rfl ?_
          refine lv_topl (fun z346 ez346 => ?_)
          clear ez346
          refine lv_l2i hx hb dX11_appendName_12 rfl ?_
          refine lv_topi (fun z347 ez347 => ?_)
          clear ez347
          refine lv_bipush (v := 31) hx hb dX11_appendName_13 (by decide) ?_
          refine lv_iand hx hb dX11_appendName_15 ?_
          refine lv_topi (fun z348 ez348 => ?_)
          clear ez348
          refine lv_istore (lv' := [(4, .int z348), (3, .int 2), (0, .ref (A 0)), (1, .long vw)]) hx hb dX11_appendName_16 hl (by decide) rfl (fun ls hl => ?_)
          refine lv_iload hx hb dX11_appendName_18 (lv_at hl 0 rfl) ?_
          refine lv_if_eq (tgt := 39) hx hb dX11_appendName_20 (by decide) (fun c77 => ?_) (fun c77 => ?_)
          · refine lv_iinc (v := 1) (lv' := [(3, .int 1), (4, .int z348), (0, .ref (A 0)), (1, .long vw)]) hx hb dX11_appendName_39 hl (k := 1) rfl (by decide) (by decide) rfl (fun ls hl => ?_)
            refine lv_goto (tgt := 3) hx hb dX11_appendName_42 (by decide) ?_
            refine lv_iload_n hx hb dX11_appendName_3 rfl (lv_at hl 0 rfl) ?_
            refine lv_if_lt (tgt := 45) hx hb dX11_appendName_4 (by decide) (fun cc => absurd cc (by decide)) (fun _ => ?_)
            refine lv_lload_n hx hb dX11_appendName_7 rfl (lv_at hl 3 rfl) ?_
            refine lv_iload_n hx hb dX11_appendName_8 rfl (lv_at hl 0 rfl) ?_
            refine lv_iconst (v := 5) hx hb dX11_appendName_9 (by decide) ?_
            refine lv_imul hx hb dX11_appendName_10 ?_
            refine zz_top (v := 5) (by decide) ?_
            refine lv_lushr hx hb dX11_appendName_11 rfl ?_
            refine lv_topl (fun z349 ez349 => ?_)
            clear ez349
            refine lv_l2i hx hb dX11_appendName_12 rfl ?_
            refine lv_topi (fun z350 ez350 => ?_)
            clear ez350
            refine lv_bipush (v := 31) hx hb dX11_appendName_13 (by decide) ?_
            refine lv_iand hx hb dX11_appendName_15 ?_
            refine lv_topi (fun z351 ez351 => ?_)
            clear ez351
            refine lv_istore (lv' := [(4, .int z351), (3, .int 1), (0, .ref (A 0)), (1, .long vw)]) hx hb dX11_appendName_16 hl (by decide) rfl (fun ls hl => ?_)
            refine lv_iload hx hb dX11_appendName_18 (lv_at hl 0 rfl) ?_
            refine lv_if_eq (tgt := 39) hx hb dX11_appendName_20 (by decide) (fun c79 => ?_) (fun c79 => ?_)
            · refine lv_iinc (v := 0) (lv' := [(3, .int 0), (4, .int z351), (0, .ref (A 0)), (1, .long vw)]) hx hb dX11_appendName_39 hl (k := 1) rfl (by decide) (by decide) rfl (fun ls hl => ?_)
              refine lv_goto (tgt := 3) hx hb dX11_appendName_42 (by decide) ?_
              refine lv_iload_n hx hb dX11_appendName_3 rfl (lv_at hl 0 rfl) ?_
              refine lv_if_lt (tgt := 45) hx hb dX11_appendName_4 (by decide) (fun cc => absurd cc (by decide)) (fun _ => ?_)
              refine lv_lload_n hx hb dX11_appendName_7 rfl (lv_at hl 3 rfl) ?_
              refine lv_iload_n hx hb dX11_appendName_8 rfl (lv_at hl 0 rfl) ?_
              refine lv_iconst (v := 5) hx hb dX11_appendName_9 (by decide) ?_
              refine lv_imul hx hb dX11_appendName_10 ?_
              refine zz_top (v := 0) (by decide) ?_
              refine lv_lushr hx hb dX11_appendName_11 rfl ?_
              refine lv_topl (fun z352 ez352 => ?_)
              clear ez352
              refine lv_l2i hx hb dX11_appendName_12 rfl ?_
              refine lv_topi (fun z353 ez353 => ?_)
              clear ez353
              refine lv_bipush (v := 31) hx hb dX11_appendName_13 (by decide) ?_
              refine lv_iand hx hb dX11_appendName_15 ?_
              refine lv_topi (fun z354 ez354 => ?_)
              clear ez354
              refine lv_istore (lv' := [(4, .int z354), (3, .int 0), (0, .ref (A 0)), (1, .long vw)]) hx hb dX11_appendName_16 hl (by decide) rfl (fun ls hl => ?_)
              refine lv_iload hx hb dX11_appendName_18 (lv_at hl 0 rfl) ?_
              refine lv_if_eq (tgt := 39) hx hb dX11_appendName_20 (by decide) (fun c81 => ?_) (fun c81 => ?_)
              · refine lv_iinc (v := (-1)) (lv' := [(3, .int (-1)), (4, .int z354), (0, .ref (A 0)), (1, .long vw)]) hx hb dX11_appendName_39 hl (k := 1) rfl (by decide) (by decide) rfl (fun ls hl => ?_)
                refine lv_goto (tgt := 3) hx hb dX11_appendName_42 (by decide) ?_
                refine lv_iload_n hx hb dX11_appendName_3 rfl (lv_at hl 0 rfl) ?_
                refine lv_if_lt (tgt := 45) hx hb dX11_appendName_4 (by decide) (fun _ => ?_) (fun cc => absurd (by decide) cc)
                exact W.vret hx hb hr (fun t ht hW => ⟨⟨(st345, sl5, so), rfl, ⟨hG, rfl, ⟨((g6 + 1) + 1), by show st345 18 1 = 0; rw [hst345a], by show st345 18 3 = _; rw [hst345b], by omega, hfit⟩⟩, xB.of ht hP⟩, hS.F ht⟩) hS.2.2 dX11_appendName_45
              · refine lv_aload_n hx hb dX11_appendName_23 rfl (lv_at hl 2 rfl) ?_
                refine va_get (D := (dC, dI)) (ci := 10) (v := .ref (A 18)) (C := RX11) (T := TX11) (N := 19) hx hb hts ii_X11_appendName_X11 hown hK hP 0 (xw_is (r := 0) (by omega) (xc_fix (r := 0) (by omega))) rfl 14 (by decide) (hts _ mm_X11_appendName_1) (fun _ hh => hh) rfl dX11_appendName_24 ?_
                refine lv_bipush (v := 97) hx hb dX11_appendName_27 (by decide) ?_
                refine lv_iload hx hb dX11_appendName_29 (lv_at hl 0 rfl) ?_
                refine lv_iadd hx hb dX11_appendName_31 ?_
                refine lv_topi (fun z355 ez355 => ?_)
                clear ez355
                refine lv_iconst (v := 1) hx hb dX11_appendName_32 (by decide) ?_
                refine lv_isub hx hb dX11_appendName_33 ?_
                refine lv_topi (fun z356 ez356 => ?_)
                clear ez356
                refine lv_i2c hx hb dX11_appendName_34 rfl ?_
                refine lv_topi (fun z357 ez357 => ?_)
                clear ez357
                have hPs := xsub (cn := ((g6 + 1) + 1)) hP (by rw [hst345a]) (by rw [hst345b])
                have hKs := xKsub hK
                have hns : A 18 ≠ A 19 := fun h9 => absurd (hN 18 19 (by omega) (by omega) h9) (by decide)
                have hS0 := hS
                refine va_callr (va_runV (As := [.int z357]) (rest := []) ⟨hx, hb, hml, hown, hts⟩ (s_J4_append_cf468 l dC dI ad E hEE (A 18) (A 19) (C 19) nb (st345 19) (st345 18 2) ((g6 + 1) + 1) _ z357 hns hfit (by omega) (by omega) (by omega) (by omega)) (cwV 1 hts gX11_appendName_J4_append_cf468 rfl rfl rfl (by decide +kernel) ⟨Nat.le_of_ble_eq_true rfl, Nat.le_of_ble_eq_true rfl⟩) ⟨fun a U g mk q => ⟨q.1, sPre.blind hEE q.2⟩, va_recv hKs hPs (ci := 0) (q0 := 0) rfl rfl, fun U hU hW => ⟨rfl, sPre.of hEE hPs hKs hE hS (hBR.sa _ hS.1) hU hW⟩⟩ rfl rfl hl.1 rfl (lv_room (Nat.le_of_ble_eq_true rfl)) dX11_appendName_35 ⟨Nat.le_of_ble_eq_true rfl, Nat.le_of_ble_eq_true rfl⟩) hS (fun q _ h => hBR.sa _ hS.1 q h) (hBR.sa _ hS.1) (fun x r358 t H5 locs ht hvm hw hB hz hk hS => ?_)
                obtain ⟨hw, hr9, hB⟩ := hB
                subst hr9
                obtain ⟨hPt, hK2, hne2, hv2, hF2⟩ := hB
                rw [ht] at hPt
                have hK2 := va_K.moved hvm.symm hK2
                obtain ⟨v359, cB360, nb361, f362, ml363, cn364⟩ := x
                dsimp only at hPt hK2 hne2 hv2 hF2 hw
                obtain ⟨rfl, rfl, rfl, rfl, hw⟩ := hw
                have hj := xjoin hN hP hK hBR hS0.1 hPt hK2 hk hne2 hv2
                rw [A19_self, C19_self] at hj
                obtain ⟨st365, est365⟩ : ∃ y, y = st19 st345 f362 ml363 (nI (((g6 + 1) + 1) + 1)) := ⟨_, rfl⟩
                rw [← est365] at hj
                have hst365a : st365 18 1 = 0 := by rw [est365]; rfl
                have hst365b : st365 18 3 = (nI (((g6 + 1) + 1) + 1)) := by rw [est365]; rfl
                have hfit : sb_Fit (st365 19) := by rw [est365]; exact hF2
                have hGst365 : XG [1, 2, 3, 4, 5, 6, 7, 8, 9, 10, 11, 12] st345 st365 := by rw [est365]; exact xg19 (XG.rf hG.1) (by decide) _ _ _
                have hG : XG [1, 2, 3, 4, 5, 6, 7, 8, 9, 10, 11, 12] st st365 := by rw [est365]; exact xg19 hG (by decide) _ _ _
                clear hK2 hne2 hv2 hF2 ht hvm est365 hPs hKs hk hz
                obtain ⟨hP, hK, hN, hBR⟩ := hj
                clear hw
                refine lv_pop hx hb dX11_appendName_38 rfl ?_
                refine lv_iinc (v := (-1)) (lv' := [(3, .int (-1)), (4, .int z354), (0, .ref (A 0)), (1, .long vw)]) hx hb dX11_appendName_39 hl (k := 1) rfl (by decide) (by decide) rfl (fun ls hl => ?_)
                refine lv_goto (tgt := 3) hx hb dX11_appendName_42 (by decide) ?_
                refine lv_iload_n hx hb dX11_appendName_3 rfl (lv_at hl 0 rfl) ?_
                refine lv_if_lt (tgt := 45) hx hb dX11_appendName_4 (by decide) (fun _ => ?_) (fun cc => absurd (by decide) cc)
                exact W.vret hx hb hr (fun t ht hW => ⟨⟨(st365, sl5, so), rfl, ⟨hG, rfl, ⟨(((g6 + 1) + 1) + 1), by show st365 18 1 = 0; rw [hst365a], by show st365 18 3 = _; rw [hst365b], by omega, hfit⟩⟩, xB.of ht hP⟩, hS.F ht⟩) hS.2.2 dX11_appendName_45
            · refine lv_aload_n hx hb dX11_appendName_23 rfl (lv_at hl 2 rfl) ?_
              refine va_get (D := (dC, dI)) (ci := 10) (v := .ref (A 18)) (C := RX11) (T := TX11) (N := 19) hx hb hts ii_X11_appendName_X11 hown hK hP 0 (xw_is (r := 0) (by omega) (xc_fix (r := 0) (by omega))) rfl 14 (by decide) (hts _ mm_X11_appendName_1) (fun _ hh => hh) rfl dX11_appendName_24 ?_
              refine lv_bipush (v := 97) hx hb dX11_appendName_27 (by decide) ?_
              refine lv_iload hx hb dX11_appendName_29 (lv_at hl 0 rfl) ?_
              refine lv_iadd hx hb dX11_appendName_31 ?_
              refine lv_topi (fun z366 ez366 => ?_)
              clear ez366
              refine lv_iconst (v := 1) hx hb dX11_appendName_32 (by decide) ?_
              refine lv_isub hx hb dX11_appendName_33 ?_
              refine lv_topi (fun z367 ez367 => ?_)
              clear ez367
              refine lv_i2c hx hb dX11_appendName_34 rfl ?_
              refine lv_topi (fun z368 ez368 => ?_)
              clear ez368
              have hPs := xsub (cn := ((g6 + 1) + 1)) hP (by rw [hst345a]) (by rw [hst345b])
              have hKs := xKsub hK
              have hns : A 18 ≠ A 19 := fun h9 => absurd (hN 18 19 (by omega) (by omega) h9) (by decide)
              have hS0 := hS
              refine va_callr (va_runV (As := [.int z368]) (rest := []) ⟨hx, hb, hml, hown, hts⟩ (s_J4_append_cf468 l dC dI ad E hEE (A 18) (A 19) (C 19) nb (st345 19) (st345 18 2) ((g6 + 1) + 1) _ z368 hns hfit (by omega) (by omega) (by omega) (by omega)) (cwV 1 hts gX11_appendName_J4_append_cf468 rfl rfl rfl (by decide +kernel) ⟨Nat.le_of_ble_eq_true rfl, Nat.le_of_ble_eq_true rfl⟩) ⟨fun a U g mk q => ⟨q.1, sPre.blind hEE q.2⟩, va_recv hKs hPs (ci := 0) (q0 := 0) rfl rfl, fun U hU hW => ⟨rfl, sPre.of hEE hPs hKs hE hS (hBR.sa _ hS.1) hU hW⟩⟩ rfl rfl hl.1 rfl (lv_room (Nat.le_of_ble_eq_true rfl)) dX11_appendName_35 ⟨Nat.le_of_ble_eq_true rfl, Nat.le_of_ble_eq_true rfl⟩) hS (fun q _ h => hBR.sa _ hS.1 q h) (hBR.sa _ hS.1) (fun x r369 t H5 locs ht hvm hw hB hz hk hS => ?_)
              obtain ⟨hw, hr9, hB⟩ := hB
              subst hr9
              obtain ⟨hPt, hK2, hne2, hv2, hF2⟩ := hB
              rw [ht] at hPt
              have hK2 := va_K.moved hvm.symm hK2
              obtain ⟨v370, cB371, nb372, f373, ml374, cn375⟩ := x
              dsimp only at hPt hK2 hne2 hv2 hF2 hw
              obtain ⟨rfl, rfl, rfl, rfl, hw⟩ := hw
              have hj := xjoin hN hP hK hBR hS0.1 hPt hK2 hk hne2 hv2
              rw [A19_self, C19_self] at hj
              obtain ⟨st376, est376⟩ : ∃ y, y = st19 st345 f373 ml374 (nI (((g6 + 1) + 1) + 1)) := ⟨_, rfl⟩
              rw [← est376] at hj
              have hst376a : st376 18 1 = 0 := by rw [est376]; rfl
              have hst376b : st376 18 3 = (nI (((g6 + 1) + 1) + 1)) := by rw [est376]; rfl
              have hfit : sb_Fit (st376 19) := by rw [est376]; exact hF2
              have hGst376 : XG [1, 2, 3, 4, 5, 6, 7, 8, 9, 10, 11, 12] st345 st376 := by rw [est376]; exact xg19 (XG.rf hG.1) (by decide) _ _ _
              have hG : XG [1, 2, 3, 4, 5, 6, 7, 8, 9, 10, 11, 12] st st376 := by rw [est376]; exact xg19 hG (by decide) _ _ _
              clear hK2 hne2 hv2 hF2 ht hvm est376 hPs hKs hk hz
              obtain ⟨hP, hK, hN, hBR⟩ := hj
              clear hw
              refine lv_pop hx hb dX11_appendName_38 rfl ?_
              refine lv_iinc (v := 0) (lv' := [(3, .int 0), (4, .int z351), (0, .ref (A 0)), (1, .long vw)]) hx hb dX11_appendName_39 hl (k := 1) rfl (by decide) (by decide) rfl (fun ls hl => ?_)
              refine lv_goto (tgt := 3) hx hb dX11_appendName_42 (by decide) ?_
              refine lv_iload_n hx hb dX11_appendName_3 rfl (lv_at hl 0 rfl) ?_
              refine lv_if_lt (tgt := 45) hx hb dX11_appendName_4 (by decide) (fun cc => absurd cc (by decide)) (fun _ => ?_)
              refine lv_lload_n hx hb dX11_appendName_7 rfl (lv_at hl 3 rfl) ?_
              refine lv_iload_n hx hb dX11_appendName_8 rfl (lv_at hl 0 rfl) ?_
              refine lv_iconst (v := 5) hx hb dX11_appendName_9 (by decide) ?_
              refine lv_imul hx hb dX11_appendName_10 ?_
              refine zz_top (v := 0) (by decide) ?_
              refine lv_lushr hx hb dX11_appendName_11 rfl ?_
              refine lv_topl (fun z377 ez377 => ?_)
              clear ez377
              refine lv_l2i hx hb dX11_appendName_12 rfl ?_
              refine lv_topi (fun z378 ez378 => ?_)
              clear ez378
              refine lv_bipush (v := 31) hx hb dX11_appendName_13 (by decide) ?_
              refine lv_iand hx hb dX11_appendName_15 ?_
              refine lv_topi (fun z379 ez379 => ?_)
              clear ez379
              refine lv_istore (lv' := [(4, .int z379), (3, .int 0), (0, .ref (A 0)), (1, .long vw)]) hx hb dX11_appendName_16 hl (by decide) rfl (fun ls hl => ?_)
              refine lv_iload hx hb dX11_appendName_18 (lv_at hl 0 rfl) ?_
              refine lv_if_eq (tgt := 39) hx hb dX11_appendName_20 (by decide) (fun c85 => ?_) (fun c85 => ?_)
              · refine lv_iinc (v := (-1)) (lv' := [(3, .int (-1)), (4, .int z379), (0, .ref (A 0)), (1, .long vw)]) hx hb dX11_appendName_39 hl (k := 1) rfl (by decide) (by decide) rfl (fun ls hl => ?_)
                refine lv_goto (tgt := 3) hx hb dX11_appendName_42 (by decide) ?_
                refine lv_iload_n hx hb dX11_appendName_3 rfl (lv_at hl 0 rfl) ?_
                refine lv_if_lt (tgt := 45) hx hb dX11_appendName_4 (by decide) (fun _ => ?_) (fun cc => absurd (by decide) cc)
                exact W.vret hx hb hr (fun t ht hW => ⟨⟨(st376, sl5, so), rfl, ⟨hG, rfl, ⟨(((g6 + 1) + 1) + 1), by show st376 18 1 = 0; rw [hst376a], by show st376 18 3 = _; rw [hst376b], by omega, hfit⟩⟩, xB.of ht hP⟩, hS.F ht⟩) hS.2.2 dX11_appendName_45
              · refine lv_aload_n hx hb dX11_appendName_23 rfl (lv_at hl 2 rfl) ?_
                refine va_get (D := (dC, dI)) (ci := 10) (v := .ref (A 18)) (C := RX11) (T := TX11) (N := 19) hx hb hts ii_X11_appendName_X11 hown hK hP 0 (xw_is (r := 0) (by omega) (xc_fix (r := 0) (by omega))) rfl 14 (by decide) (hts _ mm_X11_appendName_1) (fun _ hh => hh) rfl dX11_appendName_24 ?_
                refine lv_bipush (v := 97) hx hb dX11_appendName_27 (by decide) ?_
                refine lv_iload hx hb dX11_appendName_29 (lv_at hl 0 rfl) ?_
                refine lv_iadd hx hb dX11_appendName_31 ?_
                refine lv_topi (fun z380 ez380 => ?_)
                clear ez380
                refine lv_iconst (v := 1) hx hb dX11_appendName_32 (by decide) ?_
                refine lv_isub hx hb dX11_appendName_33 ?_
                refine lv_topi (fun z381 ez381 => ?_)
                clear ez381
                refine lv_i2c hx hb dX11_appendName_34 rfl ?_
                refine lv_topi (fun z382 ez382 => ?_)
                clear ez382
                have hPs := xsub (cn := (((g6 + 1) + 1) + 1)) hP (by rw [hst376a]) (by rw [hst376b])
                have hKs := xKsub hK
                have hns : A 18 ≠ A 19 := fun h9 => absurd (hN 18 19 (by omega) (by omega) h9) (by decide)
                have hS0 := hS
                refine va_callr (va_runV (As := [.int z382]) (rest := []) ⟨hx, hb, hml, hown, hts⟩ (s_J4_append_cf468 l dC dI ad E hEE (A 18) (A 19) (C 19) nb (st376 19) (st376 18 2) (((g6 + 1) + 1) + 1) _ z382 hns hfit (by omega) (by omega) (by omega) (by omega)) (cwV 1 hts gX11_appendName_J4_append_cf468 rfl rfl rfl (by decide +kernel) ⟨Nat.le_of_ble_eq_true rfl, Nat.le_of_ble_eq_true rfl⟩) ⟨fun a U g mk q => ⟨q.1, sPre.blind hEE q.2⟩, va_recv hKs hPs (ci := 0) (q0 := 0) rfl rfl, fun U hU hW => ⟨rfl, sPre.of hEE hPs hKs hE hS (hBR.sa _ hS.1) hU hW⟩⟩ rfl rfl hl.1 rfl (lv_room (Nat.le_of_ble_eq_true rfl)) dX11_appendName_35 ⟨Nat.le_of_ble_eq_true rfl, Nat.le_of_ble_eq_true rfl⟩) hS (fun q _ h => hBR.sa _ hS.1 q h) (hBR.sa _ hS.1) (fun x r383 t H5 locs ht hvm hw hB hz hk hS => ?_)
                obtain ⟨hw, hr9, hB⟩ := hB
                subst hr9
                obtain ⟨hPt, hK2, hne2, hv2, hF2⟩ := hB
                rw [ht] at hPt
                have hK2 := va_K.moved hvm.symm hK2
                obtain ⟨v384, cB385, nb386, f387, ml388, cn389⟩ := x
                dsimp only at hPt hK2 hne2 hv2 hF2 hw
                obtain ⟨rfl, rfl, rfl, rfl, hw⟩ := hw
                have hj := xjoin hN hP hK hBR hS0.1 hPt hK2 hk hne2 hv2
                rw [A19_self, C19_self] at hj
                obtain ⟨st390, est390⟩ : ∃ y, y = st19 st376 f387 ml388 (nI ((((g6 + 1) + 1) + 1) + 1)) := ⟨_, rfl⟩
                rw [← est390] at hj
                have hst390a : st390 18 1 = 0 := by rw [est390]; rfl
                have hst390b : st390 18 3 = (nI ((((g6 + 1) + 1) + 1) + 1)) := by rw [est390]; rfl
                have hfit : sb_Fit (st390 19) := by rw [est390]; exact hF2
                have hGst390 : XG [1, 2, 3, 4, 5, 6, 7, 8, 9, 10, 11, 12] st376 st390 := by rw [est390]; exact xg19 (XG.rf hG.1) (by decide) _ _ _
                have hG : XG [1, 2, 3, 4, 5, 6, 7, 8, 9, 10, 11, 12] st st390 := by rw [est390]; exact xg19 hG (by decide) _ _ _
                clear hK2 hne2 hv2 hF2 ht hvm est390 hPs hKs hk hz
                obtain ⟨hP, hK, hN, hBR⟩ := hj
                clear hw
                refine lv_pop hx hb dX11_appendName_38 rfl ?_
                refine lv_iinc (v := (-1)) (lv' := [(3, .int (-1)), (4, .int z379), (0, .ref (A 0)), (1, .long vw)]) hx hb dX11_appendName_39 hl (k := 1) rfl (by decide) (by decide) rfl (fun ls hl => ?_)
                refine lv_goto (tgt := 3) hx hb dX11_appendName_42 (by decide) ?_
                refine lv_iload_n hx hb dX11_appendName_3 rfl (lv_at hl 0 rfl) ?_
                refine lv_if_lt (tgt := 45) hx hb dX11_appendName_4 (by decide) (fun _ => ?_) (fun cc => absurd (by decide) cc)
                exact W.vret hx hb hr (fun t ht hW => ⟨⟨(st390, sl5, so), rfl, ⟨hG, rfl, ⟨((((g6 + 1) + 1) + 1) + 1), by show st390 18 1 = 0; rw [hst390a], by show st390 18 3 = _; rw [hst390b], by omega, hfit⟩⟩, xB.of ht hP⟩, hS.F ht⟩) hS.2.2 dX11_appendName_45
          · refine lv_aload_n hx hb dX11_appendName_23 rfl (lv_at hl 2 rfl) ?_
            refine va_get (D := (dC, dI)) (ci := 10) (v := .ref (A 18)) (C := RX11) (T := TX11) (N := 19) hx hb hts ii_X11_appendName_X11 hown hK hP 0 (xw_is (r := 0) (by omega) (xc_fix (r := 0) (by omega))) rfl 14 (by decide) (hts _ mm_X11_appendName_1) (fun _ hh => hh) rfl dX11_appendName_24 ?_
            refine lv_bipush (v := 97) hx hb dX11_appendName_27 (by decide) ?_
            refine lv_iload hx hb dX11_appendName_29 (lv_at hl 0 rfl) ?_
            refine lv_iadd hx hb dX11_appendName_31 ?_
            refine lv_topi (fun z391 ez391 => ?_)
            clear ez391
            refine lv_iconst (v := 1) hx hb dX11_appendName_32 (by decide) ?_
            refine lv_isub hx hb dX11_appendName_33 ?_
            refine lv_topi (fun z392 ez392 => ?_)
            clear ez392
            refine lv_i2c hx hb dX11_appendName_34 rfl ?_
            refine lv_topi (fun z393 ez393 => ?_)
            clear ez393
            have hPs := xsub (cn := ((g6 + 1) + 1)) hP (by rw [hst345a]) (by rw [hst345b])
            have hKs := xKsub hK
            have hns : A 18 ≠ A 19 := fun h9 => absurd (hN 18 19 (by omega) (by omega) h9) (by decide)
            have hS0 := hS
            refine va_callr (va_runV (As := [.int z393]) (rest := []) ⟨hx, hb, hml, hown, hts⟩ (s_J4_append_cf468 l dC dI ad E hEE (A 18) (A 19) (C 19) nb (st345 19) (st345 18 2) ((g6 + 1) + 1) _ z393 hns hfit (by omega) (by omega) (by omega) (by omega)) (cwV 1 hts gX11_appendName_J4_append_cf468 rfl rfl rfl (by decide +kernel) ⟨Nat.le_of_ble_eq_true rfl, Nat.le_of_ble_eq_true rfl⟩) ⟨fun a U g mk q => ⟨q.1, sPre.blind hEE q.2⟩, va_recv hKs hPs (ci := 0) (q0 := 0) rfl rfl, fun U hU hW => ⟨rfl, sPre.of hEE hPs hKs hE hS (hBR.sa _ hS.1) hU hW⟩⟩ rfl rfl hl.1 rfl (lv_room (Nat.le_of_ble_eq_true rfl)) dX11_appendName_35 ⟨Nat.le_of_ble_eq_true rfl, Nat.le_of_ble_eq_true rfl⟩) hS (fun q _ h => hBR.sa _ hS.1 q h) (hBR.sa _ hS.1) (fun x r394 t H5 locs ht hvm hw hB hz hk hS => ?_)
            obtain ⟨hw, hr9, hB⟩ := hB
            subst hr9
            obtain ⟨hPt, hK2, hne2, hv2, hF2⟩ := hB
            rw [ht] at hPt
            have hK2 := va_K.moved hvm.symm hK2
            obtain ⟨v395, cB396, nb397, f398, ml399, cn400⟩ := x
            dsimp only at hPt hK2 hne2 hv2 hF2 hw
            obtain ⟨rfl, rfl, rfl, rfl, hw⟩ := hw
            have hj := xjoin hN hP hK hBR hS0.1 hPt hK2 hk hne2 hv2
            rw [A19_self, C19_self] at hj
            obtain ⟨st401, est401⟩ : ∃ y, y = st19 st345 f398 ml399 (nI (((g6 + 1) + 1) + 1)) := ⟨_, rfl⟩
            rw [← est401] at hj
            have hst401a : st401 18 1 = 0 := by rw [est401]; rfl
            have hst401b : st401 18 3 = (nI (((g6 + 1) + 1) + 1)) := by rw [est401]; rfl
            have hfit : sb_Fit (st401 19) := by rw [est401]; exact hF2
            have hGst401 : XG [1, 2, 3, 4, 5, 6, 7, 8, 9, 10, 11, 12] st345 st401 := by rw [est401]; exact xg19 (XG.rf hG.1) (by decide) _ _ _
            have hG : XG [1, 2, 3, 4, 5, 6, 7, 8, 9, 10, 11, 12] st st401 := by rw [est401]; exact xg19 hG (by decide) _ _ _
            clear hK2 hne2 hv2 hF2 ht hvm est401 hPs hKs hk hz
            obtain ⟨hP, hK, hN, hBR⟩ := hj
            clear hw
            refine lv_pop hx hb dX11_appendName_38 rfl ?_
            refine lv_iinc (v := 1) (lv' := [(3, .int 1), (4, .int z348), (0, .ref (A 0)), (1, .long vw)]) hx hb dX11_appendName_39 hl (k := 1) rfl (by decide) (by decide) rfl (fun ls hl => ?_)
            refine lv_goto (tgt := 3) hx hb dX11_appendName_42 (by decide) ?_
            refine lv_iload_n hx hb dX11_appendName_3 rfl (lv_at hl 0 rfl) ?_
            refine lv_if_lt (tgt := 45) hx hb dX11_appendName_4 (by decide) (fun cc => absurd cc (by decide)) (fun _ => ?_)
            refine lv_lload_n hx hb dX11_appendName_7 rfl (lv_at hl 3 rfl) ?_
            refine lv_iload_n hx hb dX11_appendName_8 rfl (lv_at hl 0 rfl) ?_
            refine lv_iconst (v := 5) hx hb dX11_appendName_9 (by decide) ?_
            refine lv_imul hx hb dX11_appendName_10 ?_
            refine zz_top (v := 5) (by decide) ?_
            refine lv_lushr hx hb dX11_appendName_11 rfl ?_
            refine lv_topl (fun z402 ez402 => ?_)
            clear ez402
            refine lv_l2i hx hb dX11_appendName_12 rfl ?_
            refine lv_topi (fun z403 ez403 => ?_)
            clear ez403
            refine lv_bipush (v := 31) hx hb dX11_appendName_13 (by decide) ?_
            refine lv_iand hx hb dX11_appendName_15 ?_
            refine lv_topi (fun z404 ez404 => ?_)
            clear ez404
            refine lv_istore (lv' := [(4, .int z404), (3, .int 1), (0, .ref (A 0)), (1, .long vw)]) hx hb dX11_appendName_16 hl (by decide) rfl (fun ls hl => ?_)
            refine lv_iload hx hb dX11_appendName_18 (lv_at hl 0 rfl) ?_
            refine lv_if_eq (tgt := 39) hx hb dX11_appendName_20 (by decide) (fun c89 => ?_) (fun c89 => ?_)
            · refine lv_iinc (v := 0) (lv' := [(3, .int 0), (4, .int z404), (0, .ref (A 0)), (1, .long vw)]) hx hb dX11_appendName_39 hl (k := 1) rfl (by decide) (by decide) rfl (fun ls hl => ?_)
              refine lv_goto (tgt := 3) hx hb dX11_appendName_42 (by decide) ?_
              refine lv_iload_n hx hb dX11_appendName_3 rfl (lv_at hl 0 rfl) ?_
              refine lv_if_lt (tgt := 45) hx hb dX11_appendName_4 (by decide) (fun cc => absurd cc (by decide)) (fun _ => ?_)
              refine lv_lload_n hx hb dX11_appendName_7 rfl (lv_at hl 3 rfl) ?_
              refine lv_iload_n hx hb dX11_appendName_8 rfl (lv_at hl 0 rfl) ?_
              refine lv_iconst (v := 5) hx hb dX11_appendName_9 (by decide) ?_
              refine lv_imul hx hb dX11_appendName_10 ?_
              refine zz_top (v := 0) (by decide) ?_
              refine lv_lushr hx hb dX11_appendName_11 rfl ?_
              refine lv_topl (fun z405 ez405 => ?_)
              clear ez405
              refine lv_l2i hx hb dX11_appendName_12 rfl ?_
              refine lv_topi (fun z406 ez406 => ?_)
              clear ez406
              refine lv_bipush (v := 31) hx hb dX11_appendName_13 (by decide) ?_
              refine lv_iand hx hb dX11_appendName_15 ?_
              refine lv_topi (fun z407 ez407 => ?_)
              clear ez407
              refine lv_istore (lv' := [(4, .int z407), (3, .int 0), (0, .ref (A 0)), (1, .long vw)]) hx hb dX11_appendName_16 hl (by decide) rfl (fun ls hl => ?_)
              refine lv_iload hx hb dX11_appendName_18 (lv_at hl 0 rfl) ?_
              refine lv_if_eq (tgt := 39) hx hb dX11_appendName_20 (by decide) (fun c91 => ?_) (fun c91 => ?_)
              · refine lv_iinc (v := (-1)) (lv' := [(3, .int (-1)), (4, .int z407), (0, .ref (A 0)), (1, .long vw)]) hx hb dX11_appendName_39 hl (k := 1) rfl (by decide) (by decide) rfl (fun ls hl => ?_)
                refine lv_goto (tgt := 3) hx hb dX11_appendName_42 (by decide) ?_
                refine lv_iload_n hx hb dX11_appendName_3 rfl (lv_at hl 0 rfl) ?_
                refine lv_if_lt (tgt := 45) hx hb dX11_appendName_4 (by decide) (fun _ => ?_) (fun cc => absurd (by decide) cc)
                exact W.vret hx hb hr (fun t ht hW => ⟨⟨(st401, sl5, so), rfl, ⟨hG, rfl, ⟨(((g6 + 1) + 1) + 1), by show st401 18 1 = 0; rw [hst401a], by show st401 18 3 = _; rw [hst401b], by omega, hfit⟩⟩, xB.of ht hP⟩, hS.F ht⟩) hS.2.2 dX11_appendName_45
              · refine lv_aload_n hx hb dX11_appendName_23 rfl (lv_at hl 2 rfl) ?_
                refine va_get (D := (dC, dI)) (ci := 10) (v := .ref (A 18)) (C := RX11) (T := TX11) (N := 19) hx hb hts ii_X11_appendName_X11 hown hK hP 0 (xw_is (r := 0) (by omega) (xc_fix (r := 0) (by omega))) rfl 14 (by decide) (hts _ mm_X11_appendName_1) (fun _ hh => hh) rfl dX11_appendName_24 ?_
                refine lv_bipush (v := 97) hx hb dX11_appendName_27 (by decide) ?_
                refine lv_iload hx hb dX11_appendName_29 (lv_at hl 0 rfl) ?_
                refine lv_iadd hx hb dX11_appendName_31 ?_
                refine lv_topi (fun z408 ez408 => ?_)
                clear ez408
                refine lv_iconst (v := 1) hx hb dX11_appendName_32 (by decide) ?_
                refine lv_isub hx hb dX11_appendName_33 ?_
                refine lv_topi (fun z409 ez409 => ?_)
                clear ez409
                refine lv_i2c hx hb dX11_appendName_34 rfl ?_
                refine lv_topi (fun z410 ez410 => ?_)
                clear ez410
                have hPs := xsub (cn := (((g6 + 1) + 1) + 1)) hP (by rw [hst401a]) (by rw [hst401b])
                have hKs := xKsub hK
                have hns : A 18 ≠ A 19 := fun h9 => absurd (hN 18 19 (by omega) (by omega) h9) (by decide)
                have hS0 := hS
                refine va_callr (va_runV (As := [.int z410]) (rest := []) ⟨hx, hb, hml, hown, hts⟩ (s_J4_append_cf468 l dC dI ad E hEE (A 18) (A 19) (C 19) nb (st401 19) (st401 18 2) (((g6 + 1) + 1) + 1) _ z410 hns hfit (by omega) (by omega) (by omega) (by omega)) (cwV 1 hts gX11_appendName_J4_append_cf468 rfl rfl rfl (by decide +kernel) ⟨Nat.le_of_ble_eq_true rfl, Nat.le_of_ble_eq_true rfl⟩) ⟨fun a U g mk q => ⟨q.1, sPre.blind hEE q.2⟩, va_recv hKs hPs (ci := 0) (q0 := 0) rfl rfl, fun U hU hW => ⟨rfl, sPre.of hEE hPs hKs hE hS (hBR.sa _ hS.1) hU hW⟩⟩ rfl rfl hl.1 rfl (lv_room (Nat.le_of_ble_eq_true rfl)) dX11_appendName_35 ⟨Nat.le_of_ble_eq_true rfl, Nat.le_of_ble_eq_true rfl⟩) hS (fun q _ h => hBR.sa _ hS.1 q h) (hBR.sa _ hS.1) (fun x r411 t H5 locs ht hvm hw hB hz hk hS => ?_)
                obtain ⟨hw, hr9, hB⟩ := hB
                subst hr9
                obtain ⟨hPt, hK2, hne2, hv2, hF2⟩ := hB
                rw [ht] at hPt
                have hK2 := va_K.moved hvm.symm hK2
                obtain ⟨v412, cB413, nb414, f415, ml416, cn417⟩ := x
                dsimp only at hPt hK2 hne2 hv2 hF2 hw
                obtain ⟨rfl, rfl, rfl, rfl, hw⟩ := hw
                have hj := xjoin hN hP hK hBR hS0.1 hPt hK2 hk hne2 hv2
                rw [A19_self, C19_self] at hj
                obtain ⟨st418, est418⟩ : ∃ y, y = st19 st401 f415 ml416 (nI ((((g6 + 1) + 1) + 1) + 1)) := ⟨_, rfl⟩
                rw [← est418] at hj
                have hst418a : st418 18 1 = 0 := by rw [est418]; rfl
                have hst418b : st418 18 3 = (nI ((((g6 + 1) + 1) + 1) + 1)) := by rw [est418]; rfl
                have hfit : sb_Fit (st418 19) := by rw [est418]; exact hF2
                have hGst418 : XG [1, 2, 3, 4, 5, 6, 7, 8, 9, 10, 11, 12] st401 st418 := by rw [est418]; exact xg19 (XG.rf hG.1) (by decide) _ _ _
                have hG : XG [1, 2, 3, 4, 5, 6, 7, 8, 9, 10, 11, 12] st st418 := by rw [est418]; exact xg19 hG (by decide) _ _ _
                clear hK2 hne2 hv2 hF2 ht hvm est418 hPs hKs hk hz
                obtain ⟨hP, hK, hN, hBR⟩ := hj
                clear hw
                refine lv_pop hx hb dX11_appendName_38 rfl ?_
                refine lv_iinc (v := (-1)) (lv' := [(3, .int (-1)), (4, .int z407), (0, .ref (A 0)), (1, .long vw)]) hx hb dX11_appendName_39 hl (k := 1) rfl (by decide) (by decide) rfl (fun ls hl => ?_)
                refine lv_goto (tgt := 3) hx hb dX11_appendName_42 (by decide) ?_
                refine lv_iload_n hx hb dX11_appendName_3 rfl (lv_at hl 0 rfl) ?_
                refine lv_if_lt (tgt := 45) hx hb dX11_appendName_4 (by decide) (fun _ => ?_) (fun cc => absurd (by decide) cc)
                exact W.vret hx hb hr (fun t ht hW => ⟨⟨(st418, sl5, so), rfl, ⟨hG, rfl, ⟨((((g6 + 1) + 1) + 1) + 1), by show st418 18 1 = 0; rw [hst418a], by show st418 18 3 = _; rw [hst418b], by omega, hfit⟩⟩, xB.of ht hP⟩, hS.F ht⟩) hS.2.2 dX11_appendName_45
            · refine lv_aload_n hx hb dX11_appendName_23 rfl (lv_at hl 2 rfl) ?_
              refine va_get (D := (dC, dI)) (ci := 10) (v := .ref (A 18)) (C := RX11) (T := TX11) (N := 19) hx hb hts ii_X11_appendName_X11 hown hK hP 0 (xw_is (r := 0) (by omega) (xc_fix (r := 0) (by omega))) rfl 14 (by decide) (hts _ mm_X11_appendName_1) (fun _ hh => hh) rfl dX11_appendName_24 ?_
              refine lv_bipush (v := 97) hx hb dX11_appendName_27 (by decide) ?_
              refine lv_iload hx hb dX11_appendName_29 (lv_at hl 0 rfl) ?_
              refine lv_iadd hx hb dX11_appendName_31 ?_
              refine lv_topi (fun z419 ez419 => ?_)
              clear ez419
              refine lv_iconst (v := 1) hx hb dX11_appendName_32 (by decide) ?_
              refine lv_isub hx hb dX11_appendName_33 ?_
              refine lv_topi (fun z420 ez420 => ?_)
              clear ez420
              refine lv_i2c hx hb dX11_appendName_34 rfl ?_
              refine lv_topi (fun z421 ez421 => ?_)
              clear ez421
              have hPs := xsub (cn := (((g6 + 1) + 1) + 1)) hP (by rw [hst401a]) (by rw [hst401b])
              have hKs := xKsub hK
              have hns : A 18 ≠ A 19 := fun h9 => absurd (hN 18 19 (by omega) (by omega) h9) (by decide)
              have hS0 := hS
              refine va_callr (va_runV (As := [.int z421]) (rest := []) ⟨hx, hb, hml, hown, hts⟩ (s_J4_append_cf468 l dC dI ad E hEE (A 18) (A 19) (C 19) nb (st401 19) (st401 18 2) (((g6 + 1) + 1) + 1) _ z421 hns hfit (by omega) (by omega) (by omega) (by omega)) (cwV 1 hts gX11_appendName_J4_append_cf468 rfl rfl rfl (by decide +kernel) ⟨Nat.le_of_ble_eq_true rfl, Nat.le_of_ble_eq_true rfl⟩) ⟨fun a U g mk q => ⟨q.1, sPre.blind hEE q.2⟩, va_recv hKs hPs (ci := 0) (q0 := 0) rfl rfl, fun U hU hW => ⟨rfl, sPre.of hEE hPs hKs hE hS (hBR.sa _ hS.1) hU hW⟩⟩ rfl rfl hl.1 rfl (lv_room (Nat.le_of_ble_eq_true rfl)) dX11_appendName_35 ⟨Nat.le_of_ble_eq_true rfl, Nat.le_of_ble_eq_true rfl⟩) hS (fun q _ h => hBR.sa _ hS.1 q h) (hBR.sa _ hS.1) (fun x r422 t H5 locs ht hvm hw hB hz hk hS => ?_)
              obtain ⟨hw, hr9, hB⟩ := hB
              subst hr9
              obtain ⟨hPt, hK2, hne2, hv2, hF2⟩ := hB
              rw [ht] at hPt
              have hK2 := va_K.moved hvm.symm hK2
              obtain ⟨v423, cB424, nb425, f426, ml427, cn428⟩ := x
              dsimp only at hPt hK2 hne2 hv2 hF2 hw
              obtain ⟨rfl, rfl, rfl, rfl, hw⟩ := hw
              have hj := xjoin hN hP hK hBR hS0.1 hPt hK2 hk hne2 hv2
              rw [A19_self, C19_self] at hj
              obtain ⟨st429, est429⟩ : ∃ y, y = st19 st401 f426 ml427 (nI ((((g6 + 1) + 1) + 1) + 1)) := ⟨_, rfl⟩
              rw [← est429] at hj
              have hst429a : st429 18 1 = 0 := by rw [est429]; rfl
              have hst429b : st429 18 3 = (nI ((((g6 + 1) + 1) + 1) + 1)) := by rw [est429]; rfl
              have hfit : sb_Fit (st429 19) := by rw [est429]; exact hF2
              have hGst429 : XG [1, 2, 3, 4, 5, 6, 7, 8, 9, 10, 11, 12] st401 st429 := by rw [est429]; exact xg19 (XG.rf hG.1) (by decide) _ _ _
              have hG : XG [1, 2, 3, 4, 5, 6, 7, 8, 9, 10, 11, 12] st st429 := by rw [est429]; exact xg19 hG (by decide) _ _ _
              clear hK2 hne2 hv2 hF2 ht hvm est429 hPs hKs hk hz
              obtain ⟨hP, hK, hN, hBR⟩ := hj
              clear hw
              refine lv_pop hx hb dX11_appendName_38 rfl ?_
              refine lv_iinc (v := 0) (lv' := [(3, .int 0), (4, .int z404), (0, .ref (A 0)), (1, .long vw)]) hx hb dX11_appendName_39 hl (k := 1) rfl (by decide) (by decide) rfl (fun ls hl => ?_)
              refine lv_goto (tgt := 3) hx hb dX11_appendName_42 (by decide) ?_
              refine lv_iload_n hx hb dX11_appendName_3 rfl (lv_at hl 0 rfl) ?_
              refine lv_if_lt (tgt := 45) hx hb dX11_appendName_4 (by decide) (fun cc => absurd cc (by decide)) (fun _ => ?_)
              refine lv_lload_n hx hb dX11_appendName_7 rfl (lv_at hl 3 rfl) ?_
              refine lv_iload_n hx hb dX11_appendName_8 rfl (lv_at hl 0 rfl) ?_
              refine lv_iconst (v := 5) hx hb dX11_appendName_9 (by decide) ?_
              refine lv_imul hx hb dX11_appendName_10 ?_
              refine zz_top (v := 0) (by decide) ?_
              refine lv_lushr hx hb dX11_appendName_11 rfl ?_
              refine lv_topl (fun z430 ez430 => ?_)
              clear ez430
              refine lv_l2i hx hb dX11_appendName_12 rfl ?_
              refine lv_topi (fun z431 ez431 => ?_)
              clear ez431
              refine lv_bipush (v := 31) hx hb dX11_appendName_13 (by decide) ?_
              refine lv_iand hx hb dX11_appendName_15 ?_
              refine lv_topi (fun z432 ez432 => ?_)
              clear ez432
              refine lv_istore (lv' := [(4, .int z432), (3, .int 0), (0, .ref (A 0)), (1, .long vw)]) hx hb dX11_appendName_16 hl (by decide) rfl (fun ls hl => ?_)
              refine lv_iload hx hb dX11_appendName_18 (lv_at hl 0 rfl) ?_
              refine lv_if_eq (tgt := 39) hx hb dX11_appendName_20 (by decide) (fun c95 => ?_) (fun c95 => ?_)
              · refine lv_iinc (v := (-1)) (lv' := [(3, .int (-1)), (4, .int z432), (0, .ref (A 0)), (1, .long vw)]) hx hb dX11_appendName_39 hl (k := 1) rfl (by decide) (by decide) rfl (fun ls hl => ?_)
                refine lv_goto (tgt := 3) hx hb dX11_appendName_42 (by decide) ?_
                refine lv_iload_n hx hb dX11_appendName_3 rfl (lv_at hl 0 rfl) ?_
                refine lv_if_lt (tgt := 45) hx hb dX11_appendName_4 (by decide) (fun _ => ?_) (fun cc => absurd (by decide) cc)
                exact W.vret hx hb hr (fun t ht hW => ⟨⟨(st429, sl5, so), rfl, ⟨hG, rfl, ⟨((((g6 + 1) + 1) + 1) + 1), by show st429 18 1 = 0; rw [hst429a], by show st429 18 3 = _; rw [hst429b], by omega, hfit⟩⟩, xB.of ht hP⟩, hS.F ht⟩) hS.2.2 dX11_appendName_45
              · refine lv_aload_n hx hb dX11_appendName_23 rfl (lv_at hl 2 rfl) ?_
                refine va_get (D := (dC, dI)) (ci := 10) (v := .ref (A 18)) (C := RX11) (T := TX11) (N := 19) hx hb hts ii_X11_appendName_X11 hown hK hP 0 (xw_is (r := 0) (by omega) (xc_fix (r := 0) (by omega))) rfl 14 (by decide) (hts _ mm_X11_appendName_1) (fun _ hh => hh) rfl dX11_appendName_24 ?_
                refine lv_bipush (v := 97) hx hb dX11_appendName_27 (by decide) ?_
                refine lv_iload hx hb dX11_appendName_29 (lv_at hl 0 rfl) ?_
                refine lv_iadd hx hb dX11_appendName_31 ?_
                refine lv_topi (fun z433 ez433 => ?_)
                clear ez433
                refine lv_iconst (v := 1) hx hb dX11_appendName_32 (by decide) ?_
                refine lv_isub hx hb dX11_appendName_33 ?_
                refine lv_topi (fun z434 ez434 => ?_)
                clear ez434
                refine lv_i2c hx hb dX11_appendName_34 rfl ?_
                refine lv_topi (fun z435 ez435 => ?_)
                clear ez435
                have hPs := xsub (cn := ((((g6 + 1) + 1) + 1) + 1)) hP (by rw [hst429a]) (by rw [hst429b])
                have hKs := xKsub hK
                have hns : A 18 ≠ A 19 := fun h9 => absurd (hN 18 19 (by omega) (by omega) h9) (by decide)
                have hS0 := hS
                refine va_callr (va_runV (As := [.int z435]) (rest := []) ⟨hx, hb, hml, hown, hts⟩ (s_J4_append_cf468 l dC dI ad E hEE (A 18) (A 19) (C 19) nb (st429 19) (st429 18 2) ((((g6 + 1) + 1) + 1) + 1) _ z435 hns hfit (by omega) (by omega) (by omega) (by omega)) (cwV 1 hts gX11_appendName_J4_append_cf468 rfl rfl rfl (by decide +kernel) ⟨Nat.le_of_ble_eq_true rfl, Nat.le_of_ble_eq_true rfl⟩) ⟨fun a U g mk q => ⟨q.1, sPre.blind hEE q.2⟩, va_recv hKs hPs (ci := 0) (q0 := 0) rfl rfl, fun U hU hW => ⟨rfl, sPre.of hEE hPs hKs hE hS (hBR.sa _ hS.1) hU hW⟩⟩ rfl rfl hl.1 rfl (lv_room (Nat.le_of_ble_eq_true rfl)) dX11_appendName_35 ⟨Nat.le_of_ble_eq_true rfl, Nat.le_of_ble_eq_true rfl⟩) hS (fun q _ h => hBR.sa _ hS.1 q h) (hBR.sa _ hS.1) (fun x r436 t H5 locs ht hvm hw hB hz hk hS => ?_)
                obtain ⟨hw, hr9, hB⟩ := hB
                subst hr9
                obtain ⟨hPt, hK2, hne2, hv2, hF2⟩ := hB
                rw [ht] at hPt
                have hK2 := va_K.moved hvm.symm hK2
                obtain ⟨v437, cB438, nb439, f440, ml441, cn442⟩ := x
                dsimp only at hPt hK2 hne2 hv2 hF2 hw
                obtain ⟨rfl, rfl, rfl, rfl, hw⟩ := hw
                have hj := xjoin hN hP hK hBR hS0.1 hPt hK2 hk hne2 hv2
                rw [A19_self, C19_self] at hj
                obtain ⟨st443, est443⟩ : ∃ y, y = st19 st429 f440 ml441 (nI (((((g6 + 1) + 1) + 1) + 1) + 1)) := ⟨_, rfl⟩
                rw [← est443] at hj
                have hst443a : st443 18 1 = 0 := by rw [est443]; rfl
                have hst443b : st443 18 3 = (nI (((((g6 + 1) + 1) + 1) + 1) + 1)) := by rw [est443]; rfl
                have hfit : sb_Fit (st443 19) := by rw [est443]; exact hF2
                have hGst443 : XG [1, 2, 3, 4, 5, 6, 7, 8, 9, 10, 11, 12] st429 st443 := by rw [est443]; exact xg19 (XG.rf hG.1) (by decide) _ _ _
                have hG : XG [1, 2, 3, 4, 5, 6, 7, 8, 9, 10, 11, 12] st st443 := by rw [est443]; exact xg19 hG (by decide) _ _ _
                clear hK2 hne2 hv2 hF2 ht hvm est443 hPs hKs hk hz
                obtain ⟨hP, hK, hN, hBR⟩ := hj
                clear hw
                refine lv_pop hx hb dX11_appendName_38 rfl ?_
                refine lv_iinc (v := (-1)) (lv' := [(3, .int (-1)), (4, .int z432), (0, .ref (A 0)), (1, .long vw)]) hx hb dX11_appendName_39 hl (k := 1) rfl (by decide) (by decide) rfl (fun ls hl => ?_)
                refine lv_goto (tgt := 3) hx hb dX11_appendName_42 (by decide) ?_
                refine lv_iload_n hx hb dX11_appendName_3 rfl (lv_at hl 0 rfl) ?_
                refine lv_if_lt (tgt := 45) hx hb dX11_appendName_4 (by decide) (fun _ => ?_) (fun cc => absurd (by decide) cc)
                exact W.vret hx hb hr (fun t ht hW => ⟨⟨(st443, sl5, so), rfl, ⟨hG, rfl, ⟨(((((g6 + 1) + 1) + 1) + 1) + 1), by show st443 18 1 = 0; rw [hst443a], by show st443 18 3 = _; rw [hst443b], by omega, hfit⟩⟩, xB.of ht hP⟩, hS.F ht⟩) hS.2.2 dX11_appendName_45
    · refine lv_aload_n hx hb dX11_appendName_23 rfl (lv_at hl 2 rfl) ?_
      refine va_get (D := (dC, dI)) (ci := 10) (v := .ref (A 18)) (C := RX11) (T := TX11) (N := 19) hx hb hts ii_X11_appendName_X11 hown hK hP 0 (xw_is (r := 0) (by omega) (xc_fix (r := 0) (by omega))) rfl 14 (by decide) (hts _ mm_X11_appendName_1) (fun _ hh => hh) rfl dX11_appendName_24 ?_
      refine lv_bipush (v := 97) hx hb dX11_appendName_27 (by decide) ?_
      refine lv_iload hx hb dX11_appendName_29 (lv_at hl 0 rfl) ?_
      refine lv_iadd hx hb dX11_appendName_31 ?_
      refine lv_topi (fun z444 ez444 => ?_)
      clear ez444
      refine lv_iconst (v := 1) hx hb dX11_appendName_32 (by decide) ?_
      refine lv_isub hx hb dX11_appendName_33 ?_
      refine lv_topi (fun z445 ez445 => ?_)
      clear ez445
      refine lv_i2c (v := z445) hx hb dX11_appendName_34 ((sb_byte z445 (by omega)).2.1) ?_
      have hPs := xsub (cn := g6) hP (by rw [hv9_0]) (by rw [eg6])
      have hKs := xKsub hK
      have hns : A 18 ≠ A 19 := fun h9 => absurd (hN 18 19 (by omega) (by omega) h9) (by decide)
      have hS0 := hS
      refine va_callr (va_runV (As := [.int z445]) (rest := []) ⟨hx, hb, hml, hown, hts⟩ (s_J4_append_cf468 l dC dI ad E hEE (A 18) (A 19) (C 19) nb (st4 19) (st4 18 2) g6 _ z445 hns hfit (by omega) (by omega) (by omega) (by omega)) (cwV 1 hts gX11_appendName_J4_append_cf468 rfl rfl rfl (by decide +kernel) ⟨Nat.le_of_ble_eq_true rfl, Nat.le_of_ble_eq_true rfl⟩) ⟨fun a U g mk q => ⟨q.1, sPre.blind hEE q.2⟩, va_recv hKs hPs (ci := 0) (q0 := 0) rfl rfl, fun U hU hW => ⟨rfl, sPre.of hEE hPs hKs hE hS (hBR.sa _ hS.1) hU hW⟩⟩ rfl rfl hl.1 rfl (lv_room (Nat.le_of_ble_eq_true rfl)) dX11_appendName_35 ⟨Nat.le_of_ble_eq_true rfl, Nat.le_of_ble_eq_true rfl⟩) hS (fun q _ h => hBR.sa _ hS.1 q h) (hBR.sa _ hS.1) (fun x r446 t H5 locs ht hvm hw hB hz hk hS => ?_)
      obtain ⟨hw, hr9, hB⟩ := hB
      subst hr9
      obtain ⟨hPt, hK2, hne2, hv2, hF2⟩ := hB
      rw [ht] at hPt
      have hK2 := va_K.moved hvm.symm hK2
      obtain ⟨v447, cB448, nb449, f450, ml451, cn452⟩ := x
      dsimp only at hPt hK2 hne2 hv2 hF2 hw
      obtain ⟨rfl, rfl, rfl, rfl, hw⟩ := hw
      have hj := xjoin hN hP hK hBR hS0.1 hPt hK2 hk hne2 hv2
      rw [A19_self, C19_self] at hj
      obtain ⟨st453, est453⟩ : ∃ y, y = st19 st4 f450 ml451 (nI (g6 + 1)) := ⟨_, rfl⟩
      rw [← est453] at hj
      have hst453a : st453 18 1 = 0 := by rw [est453]; rfl
      have hst453b : st453 18 3 = (nI (g6 + 1)) := by rw [est453]; rfl
      have hfit : sb_Fit (st453 19) := by rw [est453]; exact hF2
      have hGst453 : XG [1, 2, 3, 4, 5, 6, 7, 8, 9, 10, 11, 12] st4 st453 := by rw [est453]; exact xg19 (XG.rf hG.1) (by decide) _ _ _
      have hG : XG [1, 2, 3, 4, 5, 6, 7, 8, 9, 10, 11, 12] st st453 := by rw [est453]; exact xg19 hG (by decide) _ _ _
      clear hK2 hne2 hv2 hF2 ht hvm est453 hPs hKs hk hz
      obtain ⟨hP, hK, hN, hBR⟩ := hj
      clear hw
      refine lv_pop hx hb dX11_appendName_38 rfl ?_
      refine lv_iinc (v := 4) (lv' := [(3, .int 4), (4, .int z14), (0, .ref (A 0)), (1, .long vw)]) hx hb dX11_appendName_39 hl (k := 1) rfl (by decide) (by decide) rfl (fun ls hl => ?_)
      refine lv_goto (tgt := 3) hx hb dX11_appendName_42 (by decide) ?_
      refine lv_iload_n hx hb dX11_appendName_3 rfl (lv_at hl 0 rfl) ?_
      refine lv_if_lt (tgt := 45) hx hb dX11_appendName_4 (by decide) (fun cc => absurd cc (by decide)) (fun _ => ?_)
      refine lv_lload_n hx hb dX11_appendName_7 rfl (lv_at hl 3 rfl) ?_
      refine lv_iload_n hx hb dX11_appendName_8 rfl (lv_at hl 0 rfl) ?_
      refine lv_iconst (v := 5) hx hb dX11_appendName_9 (by decide) ?_
      refine lv_imul hx hb dX11_appendName_10 ?_
      refine zz_top (v := 20) (by decide) ?_
      refine lv_lushr hx hb dX11_appendName_11 rfl ?_
      refine lv_topl (fun z454 ez454 => ?_)
      clear ez454
      refine lv_l2i hx hb dX11_appendName_12 rfl ?_
      refine lv_topi (fun z455 ez455 => ?_)
      clear ez455
      refine lv_bipush (v := 31) hx hb dX11_appendName_13 (by decide) ?_
      refine lv_iand hx hb dX11_appendName_15 ?_
      refine lv_topi (fun z456 ez456 => ?_)
      clear ez456
      refine lv_istore (lv' := [(4, .int z456), (3, .int 4), (0, .ref (A 0)), (1, .long vw)]) hx hb dX11_appendName_16 hl (by decide) rfl (fun ls hl => ?_)
      refine lv_iload hx hb dX11_appendName_18 (lv_at hl 0 rfl) ?_
      refine lv_if_eq (tgt := 39) hx hb dX11_appendName_20 (by decide) (fun c99 => ?_) (fun c99 => ?_)
      · refine lv_iinc (v := 3) (lv' := [(3, .int 3), (4, .int z456), (0, .ref (A 0)), (1, .long vw)]) hx hb dX11_appendName_39 hl (k := 1) rfl (by decide) (by decide) rfl (fun ls hl => ?_)
        refine lv_goto (tgt := 3) hx hb dX11_appendName_42 (by decide) ?_
        refine lv_iload_n hx hb dX11_appendName_3 rfl (lv_at hl 0 rfl) ?_
        refine lv_if_lt (tgt := 45) hx hb dX11_appendName_4 (by decide) (fun cc => absurd cc (by decide)) (fun _ => ?_)
        refine lv_lload_n hx hb dX11_appendName_7 rfl (lv_at hl 3 rfl) ?_
        refine lv_iload_n hx hb dX11_appendName_8 rfl (lv_at hl 0 rfl) ?_
        refine lv_iconst (v := 5) hx hb dX11_appendName_9 (by decide) ?_
        refine lv_imul hx hb dX11_appendName_10 ?_
        refine zz_top (v := 15) (by decide) ?_
        refine lv_lushr hx hb dX11_appendName_11 rfl ?_
        refine lv_topl (fun z457 ez457 => ?_)
        clear ez457
        refine lv_l2i hx hb dX11_appendName_12 rfl ?_
        refine lv_topi (fun z458 ez458 => ?_)
        clear ez458
        refine lv_bipush (v := 31) hx hb dX11_appendName_13 (by decide) ?_
        refine lv_iand hx hb dX11_appendName_15 ?_
        refine lv_topi (fun z459 ez459 => ?_)
        clear ez459
        refine lv_istore (lv' := [(4, .int z459), (3, .int 3), (0, .ref (A 0)), (1, .long vw)]) hx hb dX11_appendName_16 hl (by decide) rfl (fun ls hl => ?_)
        refine lv_iload hx hb dX11_appendName_18 (lv_at hl 0 rfl) ?_
        refine lv_if_eq (tgt := 39) hx hb dX11_appendName_20 (by decide) (fun c101 => ?_) (fun c101 => ?_)
        · refine lv_iinc (v := 2) (lv' := [(3, .int 2), (4, .int z459), (0, .ref (A 0)), (1, .long vw)]) hx hb dX11_appendName_39 hl (k := 1) rfl (by decide) (by decide) rfl (fun ls hl => ?_)
          refine lv_goto (tgt := 3) hx hb dX11_appendName_42 (by decide) ?_
          refine lv_iload_n hx hb dX11_appendName_3 rfl (lv_at hl 0 rfl) ?_
          refine lv_if_lt (tgt := 45) hx hb dX11_appendName_4 (by decide) (fun cc => absurd cc (by decide)) (fun _ => ?_)
          refine lv_lload_n hx hb dX11_appendName_7 rfl (lv_at hl 3 rfl) ?_
          refine lv_iload_n hx hb dX11_appendName_8 rfl (lv_at hl 0 rfl) ?_
          refine lv_iconst (v := 5) hx hb dX11_appendName_9 (by decide) ?_
          refine lv_imul hx hb dX11_appendName_10 ?_
          refine zz_top (v := 10) (by decide) ?_
          refine lv_lushr hx hb dX11_appendName_11 rfl ?_
          refine lv_topl (fun z460 ez460 => ?_)
          clear ez460
          refine lv_l2i hx hb dX11_appendName_12 rfl ?_
          refine lv_topi (fun z461 ez461 => ?_)
          clear ez461
          refine lv_bipush (v := 31) hx hb dX11_appendName_13 (by decide) ?_
          refine lv_iand hx hb dX11_appendName_15 ?_
          refine lv_topi (fun z462 ez462 => ?_)
          clear ez462
          refine lv_istore (lv' := [(4, .int z462), (3, .int 2), (0, .ref (A 0)), (1, .long vw)]) hx hb dX11_appendName_16 hl (by decide) rfl (fun ls hl => ?_)
          refine lv_iload hx hb dX11_appendName_18 (lv_at hl 0 rfl) ?_
          refine lv_if_eq (tgt := 39) hx hb dX11_appendName_20 (by decide) (fun c103 => ?_) (fun c103 => ?_)
          · refine lv_iinc (v := 1) (lv' := [(3, .int 1), (4, .int z462), (0, .ref (A 0)), (1, .long vw)]) hx hb dX11_appendName_39 hl (k := 1) rfl (by decide) (by decide) rfl (fun ls hl => ?_)
            refine lv_goto (tgt := 3) hx hb dX11_appendName_42 (by decide) ?_
            refine lv_iload_n hx hb dX11_appendName_3 rfl (lv_at hl 0 rfl) ?_
            refine lv_if_lt (tgt := 45) hx hb dX11_appendName_4 (by decide) (fun cc => absurd cc (by decide)) (fun _ => ?_)
            refine lv_lload_n hx hb dX11_appendName_7 rfl (lv_at hl 3 rfl) ?_
            refine lv_iload_n hx hb dX11_appendName_8 rfl (lv_at hl 0 rfl) ?_
            refine lv_iconst (v := 5) hx hb dX11_appendName_9 (by decide) ?_
            refine lv_imul hx hb dX11_appendName_10 ?_
            refine zz_top (v := 5) (by decide) ?_
            refine lv_lushr hx hb dX11_appendName_11 rfl ?_
            refine lv_topl (fun z463 ez463 => ?_)
            clear ez463
            refine lv_l2i hx hb dX11_appendName_12 rfl ?_
            refine lv_topi (fun z464 ez464 => ?_)
            clear ez464
            refine lv_bipush (v := 31) hx hb dX11_appendName_13 (by decide) ?_
            refine lv_iand hx hb dX11_appendName_15 ?_
            refine lv_topi (fun z465 ez465 => ?_)
            clear ez465
            refine lv_istore (lv' := [(4, .int z465), (3, .int 1), (0, .ref (A 0)), (1, .long vw)]) hx hb dX11_appendName_16 hl (by decide) rfl (fun ls hl => ?_)
            refine lv_iload hx hb dX11_appendName_18 (lv_at hl 0 rfl) ?_
            refine lv_if_eq (tgt := 39) hx hb dX11_appendName_20 (by decide) (fun c105 => ?_) (fun c105 => ?_)
            · refine lv_iinc (v := 0) (lv' := [(3, .int 0), (4, .int z465), (0, .ref (A 0)), (1, .long vw)]) hx hb dX11_appendName_39 hl (k := 1) rfl (by decide) (by decide) rfl (fun ls hl => ?_)
              refine lv_goto (tgt := 3) hx hb dX11_appendName_42 (by decide) ?_
              refine lv_iload_n hx hb dX11_appendName_3 rfl (lv_at hl 0 rfl) ?_
              refine lv_if_lt (tgt := 45) hx hb dX11_appendName_4 (by decide) (fun cc => absurd cc (by decide)) (fun _ => ?_)
              refine lv_lload_n hx hb dX11_appendName_7 rfl (lv_at hl 3 rfl) ?_
              refine lv_iload_n hx hb dX11_appendName_8 rfl (lv_at hl 0 rfl) ?_
              refine lv_iconst (v := 5) hx hb dX11_appendName_9 (by decide) ?_
              refine lv_imul hx hb dX11_appendName_10 ?_
              refine zz_top (v := 0) (by decide) ?_
              refine lv_lushr hx hb dX11_appendName_11 rfl ?_
              refine lv_topl (fun z466 ez466 => ?_)
              clear ez466
              refine lv_l2i hx hb dX11_appendName_12 rfl ?_
              refine lv_topi (fun z467 ez467 => ?_)
              clear ez467
              refine lv_bipush (v := 31) hx hb dX11_appendName_13 (by decide) ?_
              refine lv_iand hx hb dX11_appendName_15 ?_
              refine lv_topi (fun z468 ez468 => ?_)
              clear ez468
              refine lv_istore (lv' := [(4, .int z468), (3, .int 0), (0, .ref (A 0)), (1, .long vw)]) hx hb dX11_appendName_16 hl (by decide) rfl (fun ls hl => ?_)
              refine lv_iload hx hb dX11_appendName_18 (lv_at hl 0 rfl) ?_
              refine lv_if_eq (tgt := 39) hx hb dX11_appendName_20 (by decide) (fun c107 => ?_) (fun c107 => ?_)
              · refine lv_iinc (v := (-1)) (lv' := [(3, .int (-1)), (4, .int z468), (0, .ref (A 0)), (1, .long vw)]) hx hb dX11_appendName_39 hl (k := 1) rfl (by decide) (by decide) rfl (fun ls hl => ?_)
                refine lv_goto (tgt := 3) hx hb dX11_appendName_42 (by decide) ?_
                refine lv_iload_n hx hb dX11_appendName_3 rfl (lv_at hl 0 rfl) ?_
                refine lv_if_lt (tgt := 45) hx hb dX11_appendName_4 (by decide) (fun _ => ?_) (fun cc => absurd (by decide) cc)
                exact W.vret hx hb hr (fun t ht hW => ⟨⟨(st453, sl5, so), rfl, ⟨hG, rfl, ⟨(g6 + 1), by show st453 18 1 = 0; rw [hst453a], by show st453 18 3 = _; rw [hst453b], by omega, hfit⟩⟩, xB.of ht hP⟩, hS.F ht⟩) hS.2.2 dX11_appendName_45
              · refine lv_aload_n hx hb dX11_appendName_23 rfl (lv_at hl 2 rfl) ?_
                refine va_get (D := (dC, dI)) (ci := 10) (v := .ref (A 18)) (C := RX11) (T := TX11) (N := 19) hx hb hts ii_X11_appendName_X11 hown hK hP 0 (xw_is (r := 0) (by omega) (xc_fix (r := 0) (by omega))) rfl 14 (by decide) (hts _ mm_X11_appendName_1) (fun _ hh => hh) rfl dX11_appendName_24 ?_
                refine lv_bipush (v := 97) hx hb dX11_appendName_27 (by decide) ?_
                refine lv_iload hx hb dX11_appendName_29 (lv_at hl 0 rfl) ?_
                refine lv_iadd hx hb dX11_appendName_31 ?_
                refine lv_topi (fun z469 ez469 => ?_)
                clear ez469
                refine lv_iconst (v := 1) hx hb dX11_appendName_32 (by decide) ?_
                refine lv_isub hx hb dX11_appendName_33 ?_
                refine lv_topi (fun z470 ez470 => ?_)
                clear ez470
                refine lv_i2c hx hb dX11_appendName_34 rfl ?_
                refine lv_topi (fun z471 ez471 => ?_)
                clear ez471
                have hPs := xsub (cn := (g6 + 1)) hP (by rw [hst453a]) (by rw [hst453b])
                have hKs := xKsub hK
                have hns : A 18 ≠ A 19 := fun h9 => absurd (hN 18 19 (by omega) (by omega) h9) (by decide)
                have hS0 := hS
                refine va_callr (va_runV (As := [.int z471]) (rest := []) ⟨hx, hb, hml, hown, hts⟩ (s_J4_append_cf468 l dC dI ad E hEE (A 18) (A 19) (C 19) nb (st453 19) (st453 18 2) (g6 + 1) _ z471 hns hfit (by omega) (by omega) (by omega) (by omega)) (cwV 1 hts gX11_appendName_J4_append_cf468 rfl rfl rfl (by decide +kernel) ⟨Nat.le_of_ble_eq_true rfl, Nat.le_of_ble_eq_true rfl⟩) ⟨fun a U g mk q => ⟨q.1, sPre.blind hEE q.2⟩, va_recv hKs hPs (ci := 0) (q0 := 0) rfl rfl, fun U hU hW => ⟨rfl, sPre.of hEE hPs hKs hE hS (hBR.sa _ hS.1) hU hW⟩⟩ rfl rfl hl.1 rfl (lv_room (Nat.le_of_ble_eq_true rfl)) dX11_appendName_35 ⟨Nat.le_of_ble_eq_true rfl, Nat.le_of_ble_eq_true rfl⟩) hS (fun q _ h => hBR.sa _ hS.1 q h) (hBR.sa _ hS.1) (fun x r472 t H5 locs ht hvm hw hB hz hk hS => ?_)
                obtain ⟨hw, hr9, hB⟩ := hB
                subst hr9
                obtain ⟨hPt, hK2, hne2, hv2, hF2⟩ := hB
                rw [ht] at hPt
                have hK2 := va_K.moved hvm.symm hK2
                obtain ⟨v473, cB474, nb475, f476, ml477, cn478⟩ := x
                dsimp only at hPt hK2 hne2 hv2 hF2 hw
                obtain ⟨rfl, rfl, rfl, rfl, hw⟩ := hw
                have hj := xjoin hN hP hK hBR hS0.1 hPt hK2 hk hne2 hv2
                rw [A19_self, C19_self] at hj
                obtain ⟨st479, est479⟩ : ∃ y, y = st19 st453 f476 ml477 (nI ((g6 + 1) + 1)) := ⟨_, rfl⟩
                rw [← est479] at hj
                have hst479a : st479 18 1 = 0 := by rw [est479]; rfl
                have hst479b : st479 18 3 = (nI ((g6 + 1) + 1)) := by rw [est479]; rfl
                have hfit : sb_Fit (st479 19) := by rw [est479]; exact hF2
                have hGst479 : XG [1, 2, 3, 4, 5, 6, 7, 8, 9, 10, 11, 12] st453 st479 := by rw [est479]; exact xg19 (XG.rf hG.1) (by decide) _ _ _
                have hG : XG [1, 2, 3, 4, 5, 6, 7, 8, 9, 10, 11, 12] st st479 := by rw [est479]; exact xg19 hG (by decide) _ _ _
                clear hK2 hne2 hv2 hF2 ht hvm est479 hPs hKs hk hz
                obtain ⟨hP, hK, hN, hBR⟩ := hj
                clear hw
                refine lv_pop hx hb dX11_appendName_38 rfl ?_
                refine lv_iinc (v := (-1)) (lv' := [(3, .int (-1)), (4, .int z468), (0, .ref (A 0)), (1, .long vw)]) hx hb dX11_appendName_39 hl (k := 1) rfl (by decide) (by decide) rfl (fun ls hl => ?_)
                refine lv_goto (tgt := 3) hx hb dX11_appendName_42 (by decide) ?_
                refine lv_iload_n hx hb dX11_appendName_3 rfl (lv_at hl 0 rfl) ?_
                refine lv_if_lt (tgt := 45) hx hb dX11_appendName_4 (by decide) (fun _ => ?_) (fun cc => absurd (by decide) cc)
                exact W.vret hx hb hr (fun t ht hW => ⟨⟨(st479, sl5, so), rfl, ⟨hG, rfl, ⟨((g6 + 1) + 1), by show st479 18 1 = 0; rw [hst479a], by show st479 18 3 = _; rw [hst479b], by omega, hfit⟩⟩, xB.of ht hP⟩, hS.F ht⟩) hS.2.2 dX11_appendName_45
            · refine lv_aload_n hx hb dX11_appendName_23 rfl (lv_at hl 2 rfl) ?_
              refine va_get (D := (dC, dI)) (ci := 10) (v := .ref (A 18)) (C := RX11) (T := TX11) (N := 19) hx hb hts ii_X11_appendName_X11 hown hK hP 0 (xw_is (r := 0) (by omega) (xc_fix (r := 0) (by omega))) rfl 14 (by decide) (hts _ mm_X11_appendName_1) (fun _ hh => hh) rfl dX11_appendName_24 ?_
              refine lv_bipush (v := 97) hx hb dX11_appendName_27 (by decide) ?_
              refine lv_iload hx hb dX11_appendName_29 (lv_at hl 0 rfl) ?_
              refine lv_iadd hx hb dX11_appendName_31 ?_
              refine lv_topi (fun z480 ez480 => ?_)
              clear ez480
              refine lv_iconst (v := 1) hx hb dX11_appendName_32 (by decide) ?_
              refine lv_isub hx hb dX11_appendName_33 ?_
              refine lv_topi (fun z481 ez481 => ?_)
              clear ez481
              refine lv_i2c hx hb dX11_appendName_34 rfl ?_
              refine lv_topi (fun z482 ez482 => ?_)
              clear ez482
              have hPs := xsub (cn := (g6 + 1)) hP (by rw [hst453a]) (by rw [hst453b])
              have hKs := xKsub hK
              have hns : A 18 ≠ A 19 := fun h9 => absurd (hN 18 19 (by omega) (by omega) h9) (by decide)
              have hS0 := hS
              refine va_callr (va_runV (As := [.int z482]) (rest := []) ⟨hx, hb, hml, hown, hts⟩ (s_J4_append_cf468 l dC dI ad E hEE (A 18) (A 19) (C 19) nb (st453 19) (st453 18 2) (g6 + 1) _ z482 hns hfit (by omega) (by omega) (by omega) (by omega)) (cwV 1 hts gX11_appendName_J4_append_cf468 rfl rfl rfl (by decide +kernel) ⟨Nat.le_of_ble_eq_true rfl, Nat.le_of_ble_eq_true rfl⟩) ⟨fun a U g mk q => ⟨q.1, sPre.blind hEE q.2⟩, va_recv hKs hPs (ci := 0) (q0 := 0) rfl rfl, fun U hU hW => ⟨rfl, sPre.of hEE hPs hKs hE hS (hBR.sa _ hS.1) hU hW⟩⟩ rfl rfl hl.1 rfl (lv_room (Nat.le_of_ble_eq_true rfl)) dX11_appendName_35 ⟨Nat.le_of_ble_eq_true rfl, Nat.le_of_ble_eq_true rfl⟩) hS (fun q _ h => hBR.sa _ hS.1 q h) (hBR.sa _ hS.1) (fun x r483 t H5 locs ht hvm hw hB hz hk hS => ?_)
              obtain ⟨hw, hr9, hB⟩ := hB
              subst hr9
              obtain ⟨hPt, hK2, hne2, hv2, hF2⟩ := hB
              rw [ht] at hPt
              have hK2 := va_K.moved hvm.symm hK2
              obtain ⟨v484, cB485, nb486, f487, ml488, cn489⟩ := x
              dsimp only at hPt hK2 hne2 hv2 hF2 hw
              obtain ⟨rfl, rfl, rfl, rfl, hw⟩ := hw
              have hj := xjoin hN hP hK hBR hS0.1 hPt hK2 hk hne2 hv2
              rw [A19_self, C19_self] at hj
              obtain ⟨st490, est490⟩ : ∃ y, y = st19 st453 f487 ml488 (nI ((g6 + 1) + 1)) := ⟨_, rfl⟩
              rw [← est490] at hj
              have hst490a : st490 18 1 = 0 := by rw [est490]; rfl
              have hst490b : st490 18 3 = (nI ((g6 + 1) + 1)) := by rw [est490]; rfl
              have hfit : sb_Fit (st490 19) := by rw [est490]; exact hF2
              have hGst490 : XG [1, 2, 3, 4, 5, 6, 7, 8, 9, 10, 11, 12] st453 st490 := by rw [est490]; exact xg19 (XG.rf hG.1) (by decide) _ _ _
              have hG : XG [1, 2, 3, 4, 5, 6, 7, 8, 9, 10, 11, 12] st st490 := by rw [est490]; exact xg19 hG (by decide) _ _ _
              clear hK2 hne2 hv2 hF2 ht hvm est490 hPs hKs hk hz
              obtain ⟨hP, hK, hN, hBR⟩ := hj
              clear hw
              refine lv_pop hx hb dX11_appendName_38 rfl ?_
              refine lv_iinc (v := 0) (lv' := [(3, .int 0), (4, .int z465), (0, .ref (A 0)), (1, .long vw)]) hx hb dX11_appendName_39 hl (k := 1) rfl (by decide) (by decide) rfl (fun ls hl => ?_)
              refine lv_goto (tgt := 3) hx hb dX11_appendName_42 (by decide) ?_
              refine lv_iload_n hx hb dX11_appendName_3 rfl (lv_at hl 0 rfl) ?_
              refine lv_if_lt (tgt := 45) hx hb dX11_appendName_4 (by decide) (fun cc => absurd cc (by decide)) (fun _ => ?_)
              refine lv_lload_n hx hb dX11_appendName_7 rfl (lv_at hl 3 rfl) ?_
              refine lv_iload_n hx hb dX11_appendName_8 rfl (lv_at hl 0 rfl) ?_
              refine lv_iconst (v := 5) hx hb dX11_appendName_9 (by decide) ?_
              refine lv_imul hx hb dX11_appendName_10 ?_
              refine zz_top (v := 0) (by decide) ?_
              refine lv_lushr hx hb dX11_appendName_11 rfl ?_
              refine lv_topl (fun z491 ez491 => ?_)
              clear ez491
              refine lv_l2i hx hb dX11_appendName_12 rfl ?_
              refine lv_topi (fun z492 ez492 => ?_)
              clear ez492
              refine lv_bipush (v := 31) hx hb dX11_appendName_13 (by decide) ?_
              refine lv_iand hx hb dX11_appendName_15 ?_
              refine lv_topi (fun z493 ez493 => ?_)
              clear ez493
              refine lv_istore (lv' := [(4, .int z493), (3, .int 0), (0, .ref (A 0)), (1, .long vw)]) hx hb dX11_appendName_16 hl (by decide) rfl (fun ls hl => ?_)
              refine lv_iload hx hb dX11_appendName_18 (lv_at hl 0 rfl) ?_
              refine lv_if_eq (tgt := 39) hx hb dX11_appendName_20 (by decide) (fun c111 => ?_) (fun c111 => ?_)
              · refine lv_iinc (v := (-1)) (lv' := [(3, .int (-1)), (4, .int z493), (0, .ref (A 0)), (1, .long vw)]) hx hb dX11_appendName_39 hl (k := 1) rfl (by decide) (by decide) rfl (fun ls hl => ?_)
                refine lv_goto (tgt := 3) hx hb dX11_appendName_42 (by decide) ?_
                refine lv_iload_n hx hb dX11_appendName_3 rfl (lv_at hl 0 rfl) ?_
                refine lv_if_lt (tgt := 45) hx hb dX11_appendName_4 (by decide) (fun _ => ?_) (fun cc => absurd (by decide) cc)
                exact W.vret hx hb hr (fun t ht hW => ⟨⟨(st490, sl5, so), rfl, ⟨hG, rfl, ⟨((g6 + 1) + 1), by show st490 18 1 = 0; rw [hst490a], by show st490 18 3 = _; rw [hst490b], by omega, hfit⟩⟩, xB.of ht hP⟩, hS.F ht⟩) hS.2.2 dX11_appendName_45
              · refine lv_aload_n hx hb dX11_appendName_23 rfl (lv_at hl 2 rfl) ?_
                refine va_get (D := (dC, dI)) (ci := 10) (v := .ref (A 18)) (C := RX11) (T := TX11) (N := 19) hx hb hts ii_X11_appendName_X11 hown hK hP 0 (xw_is (r := 0) (by omega) (xc_fix (r := 0) (by omega))) rfl 14 (by decide) (hts _ mm_X11_appendName_1) (fun _ hh => hh) rfl dX11_appendName_24 ?_
                refine lv_bipush (v := 97) hx hb dX11_appendName_27 (by decide) ?_
                refine lv_iload hx hb dX11_appendName_29 (lv_at hl 0 rfl) ?_
                refine lv_iadd hx hb dX11_appendName_31 ?_
                refine lv_topi (fun z494 ez494 => ?_)
                clear ez494
                refine lv_iconst (v := 1) hx hb dX11_appendName_32 (by decide) ?_
                refine lv_isub hx hb dX11_appendName_33 ?_
                refine lv_topi (fun z495 ez495 => ?_)
                clear ez495
                refine lv_i2c hx hb dX11_appendName_34 rfl ?_
                refine lv_topi (fun z496 ez496 => ?_)
                clear ez496
                have hPs := xsub (cn := ((g6 + 1) + 1)) hP (by rw [hst490a]) (by rw [hst490b])
                have hKs := xKsub hK
                have hns : A 18 ≠ A 19 := fun h9 => absurd (hN 18 19 (by omega) (by omega) h9) (by decide)
                have hS0 := hS
                refine va_callr (va_runV (As := [.int z496]) (rest := []) ⟨hx, hb, hml, hown, hts⟩ (s_J4_append_cf468 l dC dI ad E hEE (A 18) (A 19) (C 19) nb (st490 19) (st490 18 2) ((g6 + 1) + 1) _ z496 hns hfit (by omega) (by omega) (by omega) (by omega)) (cwV 1 hts gX11_appendName_J4_append_cf468 rfl rfl rfl (by decide +kernel) ⟨Nat.le_of_ble_eq_true rfl, Nat.le_of_ble_eq_true rfl⟩) ⟨fun a U g mk q => ⟨q.1, sPre.blind hEE q.2⟩, va_recv hKs hPs (ci := 0) (q0 := 0) rfl rfl, fun U hU hW => ⟨rfl, sPre.of hEE hPs hKs hE hS (hBR.sa _ hS.1) hU hW⟩⟩ rfl rfl hl.1 rfl (lv_room (Nat.le_of_ble_eq_true rfl)) dX11_appendName_35 ⟨Nat.le_of_ble_eq_true rfl, Nat.le_of_ble_eq_true rfl⟩) hS (fun q _ h => hBR.sa _ hS.1 q h) (hBR.sa _ hS.1) (fun x r497 t H5 locs ht hvm hw hB hz hk hS => ?_)
                obtain ⟨hw, hr9, hB⟩ := hB
                subst hr9
                obtain ⟨hPt, hK2, hne2, hv2, hF2⟩ := hB
                rw [ht] at hPt
                have hK2 := va_K.moved hvm.symm hK2
                obtain ⟨v498, cB499, nb500, f501, ml502, cn503⟩ := x
                dsimp only at hPt hK2 hne2 hv2 hF2 hw
                obtain ⟨rfl, rfl, rfl, rfl, hw⟩ := hw
                have hj := xjoin hN hP hK hBR hS0.1 hPt hK2 hk hne2 hv2
                rw [A19_self, C19_self] at hj
                obtain ⟨st504, est504⟩ : ∃ y, y = st19 st490 f501 ml502 (nI (((g6 + 1) + 1) + 1)) := ⟨_, rfl⟩
                rw [← est504] at hj
                have hst504a : st504 18 1 = 0 := by rw [est504]; rfl
                have hst504b : st504 18 3 = (nI (((g6 + 1) + 1) + 1)) := by rw [est504]; rfl
                have hfit : sb_Fit (st504 19) := by rw [est504]; exact hF2
                have hGst504 : XG [1, 2, 3, 4, 5, 6, 7, 8, 9, 10, 11, 12] st490 st504 := by rw [est504]; exact xg19 (XG.rf hG.1) (by decide) _ _ _
                have hG : XG [1, 2, 3, 4, 5, 6, 7, 8, 9, 10, 11, 12] st st504 := by rw [est504]; exact xg19 hG (by decide) _ _ _
                clear hK2 hne2 hv2 hF2 ht hvm est504 hPs hKs hk hz
                obtain ⟨hP, hK, hN, hBR⟩ := hj
                clear hw
                refine lv_pop hx hb dX11_appendName_38 rfl ?_
                refine lv_iinc (v := (-1)) (lv' := [(3, .int (-1)), (4, .int z493), (0, .ref (A 0)), (1, .long vw)]) hx hb dX11_appendName_39 hl (k := 1) rfl (by decide) (by decide) rfl (fun ls hl => ?_)
                refine lv_goto (tgt := 3) hx hb dX11_appendName_42 (by decide) ?_
                refine lv_iload_n hx hb dX11_appendName_3 rfl (lv_at hl 0 rfl) ?_
                refine lv_if_lt (tgt := 45) hx hb dX11_appendName_4 (by decide) (fun _ => ?_) (fun cc => absurd (by decide) cc)
                exact W.vret hx hb hr (fun t ht hW => ⟨⟨(st504, sl5, so), rfl, ⟨hG, rfl, ⟨(((g6 + 1) + 1) + 1), by show st504 18 1 = 0; rw [hst504a], by show st504 18 3 = _; rw [hst504b], by omega, hfit⟩⟩, xB.of ht hP⟩, hS.F ht⟩) hS.2.2 dX11_appendName_45
          · refine lv_aload_n hx hb dX11_appendName_23 rfl (lv_at hl 2 rfl) ?_
            refine va_get (D := (dC, dI)) (ci := 10) (v := .ref (A 18)) (C := RX11) (T := TX11) (N := 19) hx hb hts ii_X11_appendName_X11 hown hK hP 0 (xw_is (r := 0) (by omega) (xc_fix (r := 0) (by omega))) rfl 14 (by decide) (hts _ mm_X11_appendName_1) (fun _ hh => hh) rfl dX11_appendName_24 ?_
            refine lv_bipush (v := 97) hx hb dX11_appendName_27 (by decide) ?_
            refine lv_iload hx hb dX11_appendName_29 (lv_at hl 0 rfl) ?_
            refine lv_iadd hx hb dX11_appendName_31 ?_
            refine lv_topi (fun z505 ez505 => ?_)
            clear ez505
            refine lv_iconst (v := 1) hx hb dX11_appendName_32 (by decide) ?_
            refine lv_isub hx hb dX11_appendName_33 ?_
            refine lv_topi (fun z506 ez506 => ?_)
            clear ez506
            refine lv_i2c hx hb dX11_appendName_34 rfl ?_
            refine lv_topi (fun z507 ez507 => ?_)
            clear ez507
            have hPs := xsub (cn := (g6 + 1)) hP (by rw [hst453a]) (by rw [hst453b])
            have hKs := xKsub hK
            have hns : A 18 ≠ A 19 := fun h9 => absurd (hN 18 19 (by omega) (by omega) h9) (by decide)
            have hS0 := hS
            refine va_callr (va_runV (As := [.int z507]) (rest := []) ⟨hx, hb, hml, hown, hts⟩ (s_J4_append_cf468 l dC dI ad E hEE (A 18) (A 19) (C 19) nb (st453 19) (st453 18 2) (g6 + 1) _ z507 hns hfit (by omega) (by omega) (by omega) (by omega)) (cwV 1 hts gX11_appendName_J4_append_cf468 rfl rfl rfl (by decide +kernel) ⟨Nat.le_of_ble_eq_true rfl, Nat.le_of_ble_eq_true rfl⟩) ⟨fun a U g mk q => ⟨q.1, sPre.blind hEE q.2⟩, va_recv hKs hPs (ci := 0) (q0 := 0) rfl rfl, fun U hU hW => ⟨rfl, sPre.of hEE hPs hKs hE hS (hBR.sa _ hS.1) hU hW⟩⟩ rfl rfl hl.1 rfl (lv_room (Nat.le_of_ble_eq_true rfl)) dX11_appendName_35 ⟨Nat.le_of_ble_eq_true rfl, Nat.le_of_ble_eq_true rfl⟩) hS (fun q _ h => hBR.sa _ hS.1 q h) (hBR.sa _ hS.1) (fun x r508 t H5 locs ht hvm hw hB hz hk hS => ?_)
            obtain ⟨hw, hr9, hB⟩ := hB
            subst hr9
            obtain ⟨hPt, hK2, hne2, hv2, hF2⟩ := hB
            rw [ht] at hPt
            have hK2 := va_K.moved hvm.symm hK2
            obtain ⟨v509, cB510, nb511, f512, ml513, cn514⟩ := x
            dsimp only at hPt hK2 hne2 hv2 hF2 hw
            obtain ⟨rfl, rfl, rfl, rfl, hw⟩ := hw
            have hj := xjoin hN hP hK hBR hS0.1 hPt hK2 hk hne2 hv2
            rw [A19_self, C19_self] at hj
            obtain ⟨st515, est515⟩ : ∃ y, y = st19 st453 f512 ml513 (nI ((g6 + 1) + 1)) := ⟨_, rfl⟩
            rw [← est515] at hj
            have hst515a : st515 18 1 = 0 := by rw [est515]; rfl
            have hst515b : st515 18 3 = (nI ((g6 + 1) + 1)) := by rw [est515]; rfl
            have hfit : sb_Fit (st515 19) := by rw [est515]; exact hF2
            have hGst515 : XG [1, 2, 3, 4, 5, 6, 7, 8, 9, 10, 11, 12] st453 st515 := by rw [est515]; exact xg19 (XG.rf hG.1) (by decide) _ _ _
            have hG : XG [1, 2, 3, 4, 5, 6, 7, 8, 9, 10, 11, 12] st st515 := by rw [est515]; exact xg19 hG (by decide) _ _ _
            clear hK2 hne2 hv2 hF2 ht hvm est515 hPs hKs hk hz
            obtain ⟨hP, hK, hN, hBR⟩ := hj
            clear hw
            refine lv_pop hx hb dX11_appendName_38 rfl ?_
            refine lv_iinc (v := 1) (lv' := [(3, .int 1), (4, .int z462), (0, .ref (A 0)), (1, .long vw)]) hx hb dX11_appendName_39 hl (k := 1) rfl (by decide) (by decide) rfl (fun ls hl => ?_)
            refine lv_goto (tgt := 3) hx hb dX11_appendName_42 (by decide) ?_
            refine lv_iload_n hx hb dX11_appendName_3 rfl (lv_at hl 0 rfl) ?_
            refine lv_if_lt (tgt := 45) hx hb dX11_appendName_4 (by decide) (fun cc => absurd cc (by decide)) (fun _ => ?_)
            refine lv_lload_n hx hb dX11_appendName_7 rfl (lv_at hl 3 rfl) ?_
            refine lv_iload_n hx hb dX11_appendName_8 rfl (lv_at hl 0 rfl) ?_
            refine lv_iconst (v := 5) hx hb dX11_appendName_9 (by decide) ?_
            refine lv_imul hx hb dX11_appendName_10 ?_
            refine zz_top (v := 5) (by decide) ?_
            refine lv_lushr hx hb dX11_appendName_11 rfl ?_
            refine lv_topl (fun z516 ez516 => ?_)
            clear ez516
            refine lv_l2i hx hb dX11_appendName_12 rfl ?_
            refine lv_topi (fun z517 ez517 => ?_)
            clear ez517
            refine lv_bipush (v := 31) hx hb dX11_appendName_13 (by decide) ?_
            refine lv_iand hx hb dX11_appendName_15 ?_
            refine lv_topi (fun z518 ez518 => ?_)
            clear ez518
            refine lv_istore (lv' := [(4, .int z518), (3, .int 1), (0, .ref (A 0)), (1, .long vw)]) hx hb dX11_appendName_16 hl (by decide) rfl (fun ls hl => ?_)
            refine lv_iload hx hb dX11_appendName_18 (lv_at hl 0 rfl) ?_
            refine lv_if_eq (tgt := 39) hx hb dX11_appendName_20 (by decide) (fun c115 => ?_) (fun c115 => ?_)
            · refine lv_iinc (v := 0) (lv' := [(3, .int 0), (4, .int z518), (0, .ref (A 0)), (1, .long vw)]) hx hb dX11_appendName_39 hl (k := 1) rfl (by decide) (by decide) rfl (fun ls hl => ?_)
              refine lv_goto (tgt := 3) hx hb dX11_appendName_42 (by decide) ?_
              refine lv_iload_n hx hb dX11_appendName_3 rfl (lv_at hl 0 rfl) ?_
              refine lv_if_lt (tgt := 45) hx hb dX11_appendName_4 (by decide) (fun cc => absurd cc (by decide)) (fun _ => ?_)
              refine lv_lload_n hx hb dX11_appendName_7 rfl (lv_at hl 3 rfl) ?_
              refine lv_iload_n hx hb dX11_appendName_8 rfl (lv_at hl 0 rfl) ?_
              refine lv_iconst (v := 5) hx hb dX11_appendName_9 (by decide) ?_
              refine lv_imul hx hb dX11_appendName_10 ?_
              refine zz_top (v := 0) (by decide) ?_
              refine lv_lushr hx hb dX11_appendName_11 rfl ?_
              refine lv_topl (fun z519 ez519 => ?_)
              clear ez519
              refine lv_l2i hx hb dX11_appendName_12 rfl ?_
              refine lv_topi (fun z520 ez520 => ?_)
              clear ez520
              refine lv_bipush (v := 31) hx hb dX11_appendName_13 (by decide) ?_
              refine lv_iand hx hb dX11_appendName_15 ?_
              refine lv_topi (fun z521 ez521 => ?_)
              clear ez521
              refine lv_istore (lv' := [(4, .int z521), (3, .int 0), (0, .ref (A 0)), (1, .long vw)]) hx hb dX11_appendName_16 hl (by decide) rfl (fun ls hl => ?_)
              refine lv_iload hx hb dX11_appendName_18 (lv_at hl 0 rfl) ?_
              refine lv_if_eq (tgt := 39) hx hb dX11_appendName_20 (by decide) (fun c117 => ?_) (fun c117 => ?_)
              · refine lv_iinc (v := (-1)) (lv' := [(3, .int (-1)), (4, .int z521), (0, .ref (A 0)), (1, .long vw)]) hx hb dX11_appendName_39 hl (k := 1) rfl (by decide) (by decide) rfl (fun ls hl => ?_)
                refine lv_goto (tgt := 3) hx hb dX11_appendName_42 (by decide) ?_
                refine lv_iload_n hx hb dX11_appendName_3 rfl (lv_at hl 0 rfl) ?_
                refine lv_if_lt (tgt := 45) hx hb dX11_appendName_4 (by decide) (fun _ => ?_) (fun cc => absurd (by decide) cc)
                exact W.vret hx hb hr (fun t ht hW => ⟨⟨(st515, sl5, so), rfl, ⟨hG, rfl, ⟨((g6 + 1) + 1), by show st515 18 1 = 0; rw [hst515a], by show st515 18 3 = _; rw [hst515b], by omega, hfit⟩⟩, xB.of ht hP⟩, hS.F ht⟩) hS.2.2 dX11_appendName_45
              · refine lv_aload_n hx hb dX11_appendName_23 rfl (lv_at hl 2 rfl) ?_
                refine va_get (D := (dC, dI)) (ci := 10) (v := .ref (A 18)) (C := RX11) (T := TX11) (N := 19) hx hb hts ii_X11_appendName_X11 hown hK hP 0 (xw_is (r := 0) (by omega) (xc_fix (r := 0) (by omega))) rfl 14 (by decide) (hts _ mm_X11_appendName_1) (fun _ hh => hh) rfl dX11_appendName_24 ?_
                refine lv_bipush (v := 97) hx hb dX11_appendName_27 (by decide) ?_
                refine lv_iload hx hb dX11_appendName_29 (lv_at hl 0 rfl) ?_
                refine lv_iadd hx hb dX11_appendName_31 ?_
                refine lv_topi (fun z522 ez522 => ?_)
                clear ez522
                refine lv_iconst (v := 1) hx hb dX11_appendName_32 (by decide) ?_
                refine lv_isub hx hb dX11_appendName_33 ?_
                refine lv_topi (fun z523 ez523 => ?_)
                clear ez523
                refine lv_i2c hx hb dX11_appendName_34 rfl ?_
                refine lv_topi (fun z524 ez524 => ?_)
                clear ez524
                have hPs := xsub (cn := ((g6 + 1) + 1)) hP (by rw [hst515a]) (by rw [hst515b])
                have hKs := xKsub hK
                have hns : A 18 ≠ A 19 := fun h9 => absurd (hN 18 19 (by omega) (by omega) h9) (by decide)
                have hS0 := hS
                refine va_callr (va_runV (As := [.int z524]) (rest := []) ⟨hx, hb, hml, hown, hts⟩ (s_J4_append_cf468 l dC dI ad E hEE (A 18) (A 19) (C 19) nb (st515 19) (st515 18 2) ((g6 + 1) + 1) _ z524 hns hfit (by omega) (by omega) (by omega) (by omega)) (cwV 1 hts gX11_appendName_J4_append_cf468 rfl rfl rfl (by decide +kernel) ⟨Nat.le_of_ble_eq_true rfl, Nat.le_of_ble_eq_true rfl⟩) ⟨fun a U g mk q => ⟨q.1, sPre.blind hEE q.2⟩, va_recv hKs hPs (ci := 0) (q0 := 0) rfl rfl, fun U hU hW => ⟨rfl, sPre.of hEE hPs hKs hE hS (hBR.sa _ hS.1) hU hW⟩⟩ rfl rfl hl.1 rfl (lv_room (Nat.le_of_ble_eq_true rfl)) dX11_appendName_35 ⟨Nat.le_of_ble_eq_true rfl, Nat.le_of_ble_eq_true rfl⟩) hS (fun q _ h => hBR.sa _ hS.1 q h) (hBR.sa _ hS.1) (fun x r525 t H5 locs ht hvm hw hB hz hk hS => ?_)
                obtain ⟨hw, hr9, hB⟩ := hB
                subst hr9
                obtain ⟨hPt, hK2, hne2, hv2, hF2⟩ := hB
                rw [ht] at hPt
                have hK2 := va_K.moved hvm.symm hK2
                obtain ⟨v526, cB527, nb528, f529, ml530, cn531⟩ := x
                dsimp only at hPt hK2 hne2 hv2 hF2 hw
                obtain ⟨rfl, rfl, rfl, rfl, hw⟩ := hw
                have hj := xjoin hN hP hK hBR hS0.1 hPt hK2 hk hne2 hv2
                rw [A19_self, C19_self] at hj
                obtain ⟨st532, est532⟩ : ∃ y, y = st19 st515 f529 ml530 (nI (((g6 + 1) + 1) + 1)) := ⟨_, rfl⟩
                rw [← est532] at hj
                have hst532a : st532 18 1 = 0 := by rw [est532]; rfl
                have hst532b : st532 18 3 = (nI (((g6 + 1) + 1) + 1)) := by rw [est532]; rfl
                have hfit : sb_Fit (st532 19) := by rw [est532]; exact hF2
                have hGst532 : XG [1, 2, 3, 4, 5, 6, 7, 8, 9, 10, 11, 12] st515 st532 := by rw [est532]; exact xg19 (XG.rf hG.1) (by decide) _ _ _
                have hG : XG [1, 2, 3, 4, 5, 6, 7, 8, 9, 10, 11, 12] st st532 := by rw [est532]; exact xg19 hG (by decide) _ _ _
                clear hK2 hne2 hv2 hF2 ht hvm est532 hPs hKs hk hz
                obtain ⟨hP, hK, hN, hBR⟩ := hj
                clear hw
                refine lv_pop hx hb dX11_appendName_38 rfl ?_
                refine lv_iinc (v := (-1)) (lv' := [(3, .int (-1)), (4, .int z521), (0, .ref (A 0)), (1, .long vw)]) hx hb dX11_appendName_39 hl (k := 1) rfl (by decide) (by decide) rfl (fun ls hl => ?_)
                refine lv_goto (tgt := 3) hx hb dX11_appendName_42 (by decide) ?_
                refine lv_iload_n hx hb dX11_appendName_3 rfl (lv_at hl 0 rfl) ?_
                refine lv_if_lt (tgt := 45) hx hb dX11_appendName_4 (by decide) (fun _ => ?_) (fun cc => absurd (by decide) cc)
                exact W.vret hx hb hr (fun t ht hW => ⟨⟨(st532, sl5, so), rfl, ⟨hG, rfl, ⟨(((g6 + 1) + 1) + 1), by show st532 18 1 = 0; rw [hst532a], by show st532 18 3 = _; rw [hst532b], by omega, hfit⟩⟩, xB.of ht hP⟩, hS.F ht⟩) hS.2.2 dX11_appendName_45
            · refine lv_aload_n hx hb dX11_appendName_23 rfl (lv_at hl 2 rfl) ?_
              refine va_get (D := (dC, dI)) (ci := 10) (v := .ref (A 18)) (C := RX11) (T := TX11) (N := 19) hx hb hts ii_X11_appendName_X11 hown hK hP 0 (xw_is (r := 0) (by omega) (xc_fix (r := 0) (by omega))) rfl 14 (by decide) (hts _ mm_X11_appendName_1) (fun _ hh => hh) rfl dX11_appendName_24 ?_
              refine lv_bipush (v := 97) hx hb dX11_appendName_27 (by decide) ?_
              refine lv_iload hx hb dX11_appendName_29 (lv_at hl 0 rfl) ?_
              refine lv_iadd hx hb dX11_appendName_31 ?_
              refine lv_topi (fun z533 ez533 => ?_)
              clear ez533
              refine lv_iconst (v := 1) hx hb dX11_appendName_32 (by decide) ?_
              refine lv_isub hx hb dX11_appendName_33 ?_
              refine lv_topi (fun z534 ez534 => ?_)
              clear ez534
              refine lv_i2c hx hb dX11_appendName_34 rfl ?_
              refine lv_topi (fun z535 ez535 => ?_)
              clear ez535
              have hPs := xsub (cn := ((g6 + 1) + 1)) hP (by rw [hst515a]) (by rw [hst515b])
              have hKs := xKsub hK
              have hns : A 18 ≠ A 19 := fun h9 => absurd (hN 18 19 (by omega) (by omega) h9) (by decide)
              have hS0 := hS
              refine va_callr (va_runV (As := [.int z535]) (rest := []) ⟨hx, hb, hml, hown, hts⟩ (s_J4_append_cf468 l dC dI ad E hEE (A 18) (A 19) (C 19) nb (st515 19) (st515 18 2) ((g6 + 1) + 1) _ z535 hns hfit (by omega) (by omega) (by omega) (by omega)) (cwV 1 hts gX11_appendName_J4_append_cf468 rfl rfl rfl (by decide +kernel) ⟨Nat.le_of_ble_eq_true rfl, Nat.le_of_ble_eq_true rfl⟩) ⟨fun a U g mk q => ⟨q.1, sPre.blind hEE q.2⟩, va_recv hKs hPs (ci := 0) (q0 := 0) rfl rfl, fun U hU hW => ⟨rfl, sPre.of hEE hPs hKs hE hS (hBR.sa _ hS.1) hU hW⟩⟩ rfl rfl hl.1 rfl (lv_room (Nat.le_of_ble_eq_true rfl)) dX11_appendName_35 ⟨Nat.le_of_ble_eq_true rfl, Nat.le_of_ble_eq_true rfl⟩) hS (fun q _ h => hBR.sa _ hS.1 q h) (hBR.sa _ hS.1) (fun x r536 t H5 locs ht hvm hw hB hz hk hS => ?_)
              obtain ⟨hw, hr9, hB⟩ := hB
              subst hr9
              obtain ⟨hPt, hK2, hne2, hv2, hF2⟩ := hB
              rw [ht] at hPt
              have hK2 := va_K.moved hvm.symm hK2
              obtain ⟨v537, cB538, nb539, f540, ml541, cn542⟩ := x
              dsimp only at hPt hK2 hne2 hv2 hF2 hw
              obtain ⟨rfl, rfl, rfl, rfl, hw⟩ := hw
              have hj := xjoin hN hP hK hBR hS0.1 hPt hK2 hk hne2 hv2
              rw [A19_self, C19_self] at hj
              obtain ⟨st543, est543⟩ : ∃ y, y = st19 st515 f540 ml541 (nI (((g6 + 1) + 1) + 1)) := ⟨_, rfl⟩
              rw [← est543] at hj
              have hst543a : st543 18 1 = 0 := by rw [est543]; rfl
              have hst543b : st543 18 3 = (nI (((g6 + 1) + 1) + 1)) := by rw [est543]; rfl
              have hfit : sb_Fit (st543 19) := by rw [est543]; exact hF2
              have hGst543 : XG [1, 2, 3, 4, 5, 6, 7, 8, 9, 10, 11, 12] st515 st543 := by rw [est543]; exact xg19 (XG.rf hG.1) (by decide) _ _ _
              have hG : XG [1, 2, 3, 4, 5, 6, 7, 8, 9, 10, 11, 12] st st543 := by rw [est543]; exact xg19 hG (by decide) _ _ _
              clear hK2 hne2 hv2 hF2 ht hvm est543 hPs hKs hk hz
              obtain ⟨hP, hK, hN, hBR⟩ := hj
              clear hw
              refine lv_pop hx hb dX11_appendName_38 rfl ?_
              refine lv_iinc (v := 0) (lv' := [(3, .int 0), (4, .int z518), (0, .ref (A 0)), (1, .long vw)]) hx hb dX11_appendName_39 hl (k := 1) rfl (by decide) (by decide) rfl (fun ls hl => ?_)
              refine lv_goto (tgt := 3) hx hb dX11_appendName_42 (by decide) ?_
              refine lv_iload_n hx hb dX11_appendName_3 rfl (lv_at hl 0 rfl) ?_
              refine lv_if_lt (tgt := 45) hx hb dX11_appendName_4 (by decide) (fun cc => absurd cc (by decide)) (fun _ => ?_)
              refine lv_lload_n hx hb dX11_appendName_7 rfl (lv_at hl 3 rfl) ?_
              refine lv_iload_n hx hb dX11_appendName_8 rfl (lv_at hl 0 rfl) ?_
              refine lv_iconst (v := 5) hx hb dX11_appendName_9 (by decide) ?_
              refine lv_imul hx hb dX11_appendName_10 ?_
              refine zz_top (v := 0) (by decide) ?_
              refine lv_lushr hx hb dX11_appendName_11 rfl ?_
              refine lv_topl (fun z544 ez544 => ?_)
              clear ez544
              refine lv_l2i hx hb dX11_appendName_12 rfl ?_
              refine lv_topi (fun z545 ez545 => ?_)
              clear ez545
              refine lv_bipush (v := 31) hx hb dX11_appendName_13 (by decide) ?_
              refine lv_iand hx hb dX11_appendName_15 ?_
              refine lv_topi (fun z546 ez546 => ?_)
              clear ez546
              refine lv_istore (lv' := [(4, .int z546), (3, .int 0), (0, .ref (A 0)), (1, .long vw)]) hx hb dX11_appendName_16 hl (by decide) rfl (fun ls hl => ?_)
              refine lv_iload hx hb dX11_appendName_18 (lv_at hl 0 rfl) ?_
              refine lv_if_eq (tgt := 39) hx hb dX11_appendName_20 (by decide) (fun c121 => ?_) (fun c121 => ?_)
              · refine lv_iinc (v := (-1)) (lv' := [(3, .int (-1)), (4, .int z546), (0, .ref (A 0)), (1, .long vw)]) hx hb dX11_appendName_39 hl (k := 1) rfl (by decide) (by decide) rfl (fun ls hl => ?_)
                refine lv_goto (tgt := 3) hx hb dX11_appendName_42 (by decide) ?_
                refine lv_iload_n hx hb dX11_appendName_3 rfl (lv_at hl 0 rfl) ?_
                refine lv_if_lt (tgt := 45) hx hb dX11_appendName_4 (by decide) (fun _ => ?_) (fun cc => absurd (by decide) cc)
                exact W.vret hx hb hr (fun t ht hW => ⟨⟨(st543, sl5, so), rfl, ⟨hG, rfl, ⟨(((g6 + 1) + 1) + 1), by show st543 18 1 = 0; rw [hst543a], by show st543 18 3 = _; rw [hst543b], by omega, hfit⟩⟩, xB.of ht hP⟩, hS.F ht⟩) hS.2.2 dX11_appendName_45
              · refine lv_aload_n hx hb dX11_appendName_23 rfl (lv_at hl 2 rfl) ?_
                refine va_get (D := (dC, dI)) (ci := 10) (v := .ref (A 18)) (C := RX11) (T := TX11) (N := 19) hx hb hts ii_X11_appendName_X11 hown hK hP 0 (xw_is (r := 0) (by omega) (xc_fix (r := 0) (by omega))) rfl 14 (by decide) (hts _ mm_X11_appendName_1) (fun _ hh => hh) rfl dX11_appendName_24 ?_
                refine lv_bipush (v := 97) hx hb dX11_appendName_27 (by decide) ?_
                refine lv_iload hx hb dX11_appendName_29 (lv_at hl 0 rfl) ?_
                refine lv_iadd hx hb dX11_appendName_31 ?_
                refine lv_topi (fun z547 ez547 => ?_)
                clear ez547
                refine lv_iconst (v := 1) hx hb dX11_appendName_32 (by decide) ?_
                refine lv_isub hx hb dX11_appendName_33 ?_
                refine lv_topi (fun z548 ez548 => ?_)
                clear ez548
                refine lv_i2c hx hb dX11_appendName_34 rfl ?_
                refine lv_topi (fun z549 ez549 => ?_)
                clear ez549
                have hPs := xsub (cn := (((g6 + 1) + 1) + 1)) hP (by rw [hst543a]) (by rw [hst543b])
                have hKs := xKsub hK
                have hns : A 18 ≠ A 19 := fun h9 => absurd (hN 18 19 (by omega) (by omega) h9) (by decide)
                have hS0 := hS
                refine va_callr (va_runV (As := [.int z549]) (rest := []) ⟨hx, hb, hml, hown, hts⟩ (s_J4_append_cf468 l dC dI ad E hEE (A 18) (A 19) (C 19) nb (st543 19) (st543 18 2) (((g6 + 1) + 1) + 1) _ z549 hns hfit (by omega) (by omega) (by omega) (by omega)) (cwV 1 hts gX11_appendName_J4_append_cf468 rfl rfl rfl (by decide +kernel) ⟨Nat.le_of_ble_eq_true rfl, Nat.le_of_ble_eq_true rfl⟩) ⟨fun a U g mk q => ⟨q.1, sPre.blind hEE q.2⟩, va_recv hKs hPs (ci := 0) (q0 := 0) rfl rfl, fun U hU hW => ⟨rfl, sPre.of hEE hPs hKs hE hS (hBR.sa _ hS.1) hU hW⟩⟩ rfl rfl hl.1 rfl (lv_room (Nat.le_of_ble_eq_true rfl)) dX11_appendName_35 ⟨Nat.le_of_ble_eq_true rfl, Nat.le_of_ble_eq_true rfl⟩) hS (fun q _ h => hBR.sa _ hS.1 q h) (hBR.sa _ hS.1) (fun x r550 t H5 locs ht hvm hw hB hz hk hS => ?_)
                obtain ⟨hw, hr9, hB⟩ := hB
                subst hr9
                obtain ⟨hPt, hK2, hne2, hv2, hF2⟩ := hB
                rw [ht] at hPt
                have hK2 := va_K.moved hvm.symm hK2
                obtain ⟨v551, cB552, nb553, f554, ml555, cn556⟩ := x
                dsimp only at hPt hK2 hne2 hv2 hF2 hw
                obtain ⟨rfl, rfl, rfl, rfl, hw⟩ := hw
                have hj := xjoin hN hP hK hBR hS0.1 hPt hK2 hk hne2 hv2
                rw [A19_self, C19_self] at hj
                obtain ⟨st557, est557⟩ : ∃ y, y = st19 st543 f554 ml555 (nI ((((g6 + 1) + 1) + 1) + 1)) := ⟨_, rfl⟩
                rw [← est557] at hj
                have hst557a : st557 18 1 = 0 := by rw [est557]; rfl
                have hst557b : st557 18 3 = (nI ((((g6 + 1) + 1) + 1) + 1)) := by rw [est557]; rfl
                have hfit : sb_Fit (st557 19) := by rw [est557]; exact hF2
                have hGst557 : XG [1, 2, 3, 4, 5, 6, 7, 8, 9, 10, 11, 12] st543 st557 := by rw [est557]; exact xg19 (XG.rf hG.1) (by decide) _ _ _
                have hG : XG [1, 2, 3, 4, 5, 6, 7, 8, 9, 10, 11, 12] st st557 := by rw [est557]; exact xg19 hG (by decide) _ _ _
                clear hK2 hne2 hv2 hF2 ht hvm est557 hPs hKs hk hz
                obtain ⟨hP, hK, hN, hBR⟩ := hj
                clear hw
                refine lv_pop hx hb dX11_appendName_38 rfl ?_
                refine lv_iinc (v := (-1)) (lv' := [(3, .int (-1)), (4, .int z546), (0, .ref (A 0)), (1, .long vw)]) hx hb dX11_appendName_39 hl (k := 1) rfl (by decide) (by decide) rfl (fun ls hl => ?_)
                refine lv_goto (tgt := 3) hx hb dX11_appendName_42 (by decide) ?_
                refine lv_iload_n hx hb dX11_appendName_3 rfl (lv_at hl 0 rfl) ?_
                refine lv_if_lt (tgt := 45) hx hb dX11_appendName_4 (by decide) (fun _ => ?_) (fun cc => absurd (by decide) cc)
                exact W.vret hx hb hr (fun t ht hW => ⟨⟨(st557, sl5, so), rfl, ⟨hG, rfl, ⟨((((g6 + 1) + 1) + 1) + 1), by show st557 18 1 = 0; rw [hst557a], by show st557 18 3 = _; rw [hst557b], by omega, hfit⟩⟩, xB.of ht hP⟩, hS.F ht⟩) hS.2.2 dX11_appendName_45
        · refine lv_aload_n hx hb dX11_appendName_23 rfl (lv_at hl 2 rfl) ?_
          refine va_get (D := (dC, dI)) (ci := 10) (v := .ref (A 18)) (C := RX11) (T := TX11) (N := 19) hx hb hts ii_X11_appendName_X11 hown hK hP 0 (xw_is (r := 0) (by omega) (xc_fix (r := 0) (by omega))) rfl 14 (by decide) (hts _ mm_X11_appendName_1) (fun _ hh => hh) rfl dX11_appendName_24 ?_
          refine lv_bipush (v := 97) hx hb dX11_appendName_27 (by decide) ?_
          refine lv_iload hx hb dX11_appendName_29 (lv_at hl 0 rfl) ?_
          refine lv_iadd hx hb dX11_appendName_31 ?_
          refine lv_topi (fun z558 ez558 => ?_)
          clear ez558
          refine lv_iconst (v := 1) hx hb dX11_appendName_32 (by decide) ?_
          refine lv_isub hx hb dX11_appendName_33 ?_
          refine lv_topi (fun z559 ez559 => ?_)
          clear ez559
          refine lv_i2c hx hb dX11_appendName_34 rfl ?_
          refine lv_topi (fun z560 ez560 => ?_)
          clear ez560
          have hPs := xsub (cn := (g6 + 1)) hP (by rw [hst453a]) (by rw [hst453b])
          have hKs := xKsub hK
          have hns : A 18 ≠ A 19 := fun h9 => absurd (hN 18 19 (by omega) (by omega) h9) (by decide)
          have hS0 := hS
          refine va_callr (va_runV (As := [.int z560]) (rest := []) ⟨hx, hb, hml, hown, hts⟩ (s_J4_append_cf468 l dC dI ad E hEE (A 18) (A 19) (C 19) nb (st453 19) (st453 18 2) (g6 + 1) _ z560 hns hfit (by omega) (by omega) (by omega) (by omega)) (cwV 1 hts gX11_appendName_J4_append_cf468 rfl rfl rfl (by decide +kernel) ⟨Nat.le_of_ble_eq_true rfl, Nat.le_of_ble_eq_true rfl⟩) ⟨fun a U g mk q => ⟨q.1, sPre.blind hEE q.2⟩, va_recv hKs hPs (ci := 0) (q0 := 0) rfl rfl, fun U hU hW => ⟨rfl, sPre.of hEE hPs hKs hE hS (hBR.sa _ hS.1) hU hW⟩⟩ rfl rfl hl.1 rfl (lv_room (Nat.le_of_ble_eq_true rfl)) dX11_appendName_35 ⟨Nat.le_of_ble_eq_true rfl, Nat.le_of_ble_eq_true rfl⟩) hS (fun q _ h => hBR.sa _ hS.1 q h) (hBR.sa _ hS.1) (fun x r561 t H5 locs ht hvm hw hB hz hk hS => ?_)
          obtain ⟨hw, hr9, hB⟩ := hB
          subst hr9
          obtain ⟨hPt, hK2, hne2, hv2, hF2⟩ := hB
          rw [ht] at hPt
          have hK2 := va_K.moved hvm.symm hK2
          obtain ⟨v562, cB563, nb564, f565, ml566, cn567⟩ := x
          dsimp only at hPt hK2 hne2 hv2 hF2 hw
          obtain ⟨rfl, rfl, rfl, rfl, hw⟩ := hw
          have hj := xjoin hN hP hK hBR hS0.1 hPt hK2 hk hne2 hv2
          rw [A19_self, C19_self] at hj
          obtain ⟨st568, est568⟩ : ∃ y, y = st19 st453 f565 ml566 (nI ((g6 + 1) + 1)) := ⟨_, rfl⟩
          rw [← est568] at hj
          have hst568a : st568 18 1 = 0 := by rw [est568]; rfl
          have hst568b : st568 18 3 = (nI ((g6 + 1) + 1)) := by rw [est568]; rfl
          have hfit : sb_Fit (st568 19) := by rw [est568]; exact hF2
          have hGst568 : XG [1, 2, 3, 4, 5, 6, 7, 8, 9, 10, 11, 12] st453 st568 := by rw [est568]; exact xg19 (XG.rf hG.1) (by decide) _ _ _
          have hG : XG [1, 2, 3, 4, 5, 6, 7, 8, 9, 10, 11, 12] st st568 := by rw [est568]; exact xg19 hG (by decide) _ _ _
          clear hK2 hne2 hv2 hF2 ht hvm est568 hPs hKs hk hz
          obtain ⟨hP, hK, hN, hBR⟩ := hj
          clear hw
          refine lv_pop hx hb dX11_appendName_38 rfl ?_
          refine lv_iinc (v := 2) (lv' := [(3, .int 2), (4, .int z459), (0, .ref (A 0)), (1, .long vw)]) hx hb dX11_appendName_39 hl (k := 1) rfl (by decide) (by decide) rfl (fun ls hl => ?_)
          refine lv_goto (tgt := 3) hx hb dX11_appendName_42 (by decide) ?_
          refine lv_iload_n hx hb dX11_appendName_3 rfl (lv_at hl 0 rfl) ?_
          refine lv_if_lt (tgt := 45) hx hb dX11_appendName_4 (by decide) (fun cc => absurd cc (by decide)) (fun _ => ?_)
          refine lv_lload_n hx hb dX11_appendName_7 rfl (lv_at hl 3 rfl) ?_
          refine lv_iload_n hx hb dX11_appendName_8 rfl (lv_at hl 0 rfl) ?_
          refine lv_iconst (v := 5) hx hb dX11_appendName_9 (by decide) ?_
          refine lv_imul hx hb dX11_appendName_10 ?_
          refine zz_top (v := 10) (by decide) ?_
          refine lv_lushr hx hb dX11_appendName_11 rfl ?_
          refine lv_topl (fun z569 ez569 => ?_)
          clear ez569
          refine lv_l2i hx hb dX11_appendName_12 rfl ?_
          refine lv_topi (fun z570 ez570 => ?_)
          clear ez570
          refine lv_bipush (v := 31) hx hb dX11_appendName_13 (by decide) ?_
          refine lv_iand hx hb dX11_appendName_15 ?_
          refine lv_topi (fun z571 ez571 => ?_)
          clear ez571
          refine lv_istore (lv' := [(4, .int z571), (3, .int 2), (0, .ref (A 0)), (1, .long vw)]) hx hb dX11_appendName_16 hl (by decide) rfl (fun ls hl => ?_)
          refine lv_iload hx hb dX11_appendName_18 (lv_at hl 0 rfl) ?_
          refine lv_if_eq (tgt := 39) hx hb dX11_appendName_20 (by decide) (fun c125 => ?_) (fun c125 => ?_)
          · refine lv_iinc (v := 1) (lv' := [(3, .int 1), (4, .int z571), (0, .ref (A 0)), (1, .long vw)]) hx hb dX11_appendName_39 hl (k := 1) rfl (by decide) (by decide) rfl (fun ls hl => ?_)
            refine lv_goto (tgt := 3) hx hb dX11_appendName_42 (by decide) ?_
            refine lv_iload_n hx hb dX11_appendName_3 rfl (lv_at hl 0 rfl) ?_
            refine lv_if_lt (tgt := 45) hx hb dX11_appendName_4 (by decide) (fun cc => absurd cc (by decide)) (fun _ => ?_)
            refine lv_lload_n hx hb dX11_appendName_7 rfl (lv_at hl 3 rfl) ?_
            refine lv_iload_n hx hb dX11_appendName_8 rfl (lv_at hl 0 rfl) ?_
            refine lv_iconst (v := 5) hx hb dX11_appendName_9 (by decide) ?_
            refine lv_imul hx hb dX11_appendName_10 ?_
            refine zz_top (v := 5) (by decide) ?_
            refine lv_lushr hx hb dX11_appendName_11 rfl ?_
            refine lv_topl (fun z572 ez572 => ?_)
            clear ez572
            refine lv_l2i hx hb dX11_appendName_12 rfl ?_
            refine lv_topi (fun z573 ez573 => ?_)
            clear ez573
            refine lv_bipush (v := 31) hx hb dX11_appendName_13 (by decide) ?_
            refine lv_iand hx hb dX11_appendName_15 ?_
            refine lv_topi (fun z574 ez574 => ?_)
            clear ez574
            refine lv_istore (lv' := [(4, .int z574), (3, .int 1), (0, .ref (A 0)), (1, .long vw)]) hx hb dX11_appendName_16 hl (by decide) rfl (fun ls hl => ?_)
            refine lv_iload hx hb dX11_appendName_18 (lv_at hl 0 rfl) ?_
            refine lv_if_eq (tgt := 39) hx hb dX11_appendName_20 (by decide) (fun c127 => ?_) (fun c127 => ?_)
            · refine lv_iinc (v := 0) (lv' := [(3, .int 0), (4, .int z574), (0, .ref (A 0)), (1, .long vw)]) hx hb dX11_appendName_39 hl (k := 1) rfl (by decide) (by decide) rfl (fun ls hl => ?_)
              refine lv_goto (tgt := 3) hx hb dX11_appendName_42 (by decide) ?_
              refine lv_iload_n hx hb dX11_appendName_3 rfl (lv_at hl 0 rfl) ?_
              refine lv_if_lt (tgt := 45) hx hb dX11_appendName_4 (by decide) (fun cc => absurd cc (by decide)) (fun _ => ?_)
              refine lv_lload_n hx hb dX11_appendName_7 rfl (lv_at hl 3 rfl) ?_
              refine lv_iload_n hx hb dX11_appendName_8 rfl (lv_at hl 0 rfl) ?_
              refine lv_iconst (v := 5) hx hb dX11_appendName_9 (by decide) ?_
              refine lv_imul hx hb dX11_appendName_10 ?_
              refine zz_top (v := 0) (by decide) ?_
              refine lv_lushr hx hb dX11_appendName_11 rfl ?_
              refine lv_topl (fun z575 ez575 => ?_)
              clear ez575
              refine lv_l2i hx hb dX11_appendName_12 rfl ?_
              refine lv_topi (fun z576 ez576 => ?_)
              clear ez576
              refine lv_bipush (v := 31) hx hb dX11_appendName_13 (by decide) ?_
              refine lv_iand hx hb dX11_appendName_15 ?_
              refine lv_topi (fun z577 ez577 => ?_)
              clear ez577
              refine lv_istore (lv' := [(4, .int z577), (3, .int 0), (0, .ref (A 0)), (1, .long vw)]) hx hb dX11_appendName_16 hl (by decide) rfl (fun ls hl => ?_)
              refine lv_iload hx hb dX11_appendName_18 (lv_at hl 0 rfl) ?_
              refine lv_if_eq (tgt := 39) hx hb dX11_appendName_20 (by decide) (fun c129 => ?_) (fun c129 => ?_)
              · refine lv_iinc (v := (-1)) (lv' := [(3, .int (-1)), (4, .int z577), (0, .ref (A 0)), (1, .long vw)]) hx hb dX11_appendName_39 hl (k := 1) rfl (by decide) (by decide) rfl (fun ls hl => ?_)
                refine lv_goto (tgt := 3) hx hb dX11_appendName_42 (by decide) ?_
                refine lv_iload_n hx hb dX11_appendName_3 rfl (lv_at hl 0 rfl) ?_
                refine lv_if_lt (tgt := 45) hx hb dX11_appendName_4 (by decide) (fun _ => ?_) (fun cc => absurd (by decide) cc)
                exact W.vret hx hb hr (fun t ht hW => ⟨⟨(st568, sl5, so), rfl, ⟨hG, rfl, ⟨((g6 + 1) + 1), by show st568 18 1 = 0; rw [hst568a], by show st568 18 3 = _; rw [hst568b], by omega, hfit⟩⟩, xB.of ht hP⟩, hS.F ht⟩) hS.2.2 dX11_appendName_45
              · refine lv_aload_n hx hb dX11_appendName_23 rfl (lv_at hl 2 rfl) ?_
                refine va_get (D := (dC, dI)) (ci := 10) (v := .ref (A 18)) (C := RX11) (T := TX11) (N := 19) hx hb hts ii_X11_appendName_X11 hown hK hP 0 (xw_is (r := 0) (by omega) (xc_fix (r := 0) (by omega))) rfl 14 (by decide) (hts _ mm_X11_appendName_1) (fun _ hh => hh) rfl dX11_appendName_24 ?_
                refine lv_bipush (v := 97) hx hb dX11_appendName_27 (by decide) ?_
                refine lv_iload hx hb dX11_appendName_29 (lv_at hl 0 rfl) ?_
                refine lv_iadd hx hb dX11_appendName_31 ?_
                refine lv_topi (fun z578 ez578 => ?_)
                clear ez578
                refine lv_iconst (v := 1) hx hb dX11_appendName_32 (by decide) ?_
                refine lv_isub hx hb dX11_appendName_33 ?_
                refine lv_topi (fun z579 ez579 => ?_)
                clear ez579
                refine lv_i2c hx hb dX11_appendName_34 rfl ?_
                refine lv_topi (fun z580 ez580 => ?_)
                clear ez580
                have hPs := xsub (cn := ((g6 + 1) + 1)) hP (by rw [hst568a]) (by rw [hst568b])
                have hKs := xKsub hK
                have hns : A 18 ≠ A 19 := fun h9 => absurd (hN 18 19 (by omega) (by omega) h9) (by decide)
                have hS0 := hS
                refine va_callr (va_runV (As := [.int z580]) (rest := []) ⟨hx, hb, hml, hown, hts⟩ (s_J4_append_cf468 l dC dI ad E hEE (A 18) (A 19) (C 19) nb (st568 19) (st568 18 2) ((g6 + 1) + 1) _ z580 hns hfit (by omega) (by omega) (by omega) (by omega)) (cwV 1 hts gX11_appendName_J4_append_cf468 rfl rfl rfl (by decide +kernel) ⟨Nat.le_of_ble_eq_true rfl, Nat.le_of_ble_eq_true rfl⟩) ⟨fun a U g mk q => ⟨q.1, sPre.blind hEE q.2⟩, va_recv hKs hPs (ci := 0) (q0 := 0) rfl rfl, fun U hU hW => ⟨rfl, sPre.of hEE hPs hKs hE hS (hBR.sa _ hS.1) hU hW⟩⟩ rfl rfl hl.1 rfl (lv_room (Nat.le_of_ble_eq_true rfl)) dX11_appendName_35 ⟨Nat.le_of_ble_eq_true rfl, Nat.le_of_ble_eq_true rfl⟩) hS (fun q _ h => hBR.sa _ hS.1 q h) (hBR.sa _ hS.1) (fun x r581 t H5 locs ht hvm hw hB hz hk hS => ?_)
                obtain ⟨hw, hr9, hB⟩ := hB
                subst hr9
                obtain ⟨hPt, hK2, hne2, hv2, hF2⟩ := hB
                rw [ht] at hPt
                have hK2 := va_K.moved hvm.symm hK2
                obtain ⟨v582, cB583, nb584, f585, ml586, cn587⟩ := x
                dsimp only at hPt hK2 hne2 hv2 hF2 hw
                obtain ⟨rfl, rfl, rfl, rfl, hw⟩ := hw
                have hj := xjoin hN hP hK hBR hS0.1 hPt hK2 hk hne2 hv2
                rw [A19_self, C19_self] at hj
                obtain ⟨st588, est588⟩ : ∃ y, y = st19 st568 f585 ml586 (nI (((g6 + 1) + 1) + 1)) := ⟨_, rfl⟩
                rw [← est588] at hj
                have hst588a : st588 18 1 = 0 := by rw [est588]; rfl
                have hst588b : st588 18 3 = (nI (((g6 + 1) + 1) + 1)) := by rw [est588]; rfl
                have hfit : sb_Fit (st588 19) := by rw [est588]; exact hF2
                have hGst588 : XG [1, 2, 3, 4, 5, 6, 7, 8, 9, 10, 11, 12] st568 st588 := by rw [est588]; exact xg19 (XG.rf hG.1) (by decide) _ _ _
                have hG : XG [1, 2, 3, 4, 5, 6, 7, 8, 9, 10, 11, 12] st st588 := by rw [est588]; exact xg19 hG (by decide) _ _ _
                clear hK2 hne2 hv2 hF2 ht hvm est588 hPs hKs hk hz
                obtain ⟨hP, hK, hN, hBR⟩ := hj
                clear hw
                refine lv_pop hx hb dX11_appendName_38 rfl ?_
                refine lv_iinc (v := (-1)) (lv' := [(3, .int (-1)), (4, .int z577), (0, .ref (A 0)), (1, .long vw)]) hx hb dX11_appendName_39 hl (k := 1) rfl (by decide) (by decide) rfl (fun ls hl => ?_)
                refine lv_goto (tgt := 3) hx hb dX11_appendName_42 (by decide) ?_
                refine lv_iload_n hx hb dX11_appendName_3 rfl (lv_at hl 0 rfl) ?_
                refine lv_if_lt (tgt := 45) hx hb dX11_appendName_4 (by decide) (fun _ => ?_) (fun cc => absurd (by decide) cc)
                exact W.vret hx hb hr (fun t ht hW => ⟨⟨(st588, sl5, so), rfl, ⟨hG, rfl, ⟨(((g6 + 1) + 1) + 1), by show st588 18 1 = 0; rw [hst588a], by show st588 18 3 = _; rw [hst588b], by omega, hfit⟩⟩, xB.of ht hP⟩, hS.F ht⟩) hS.2.2 dX11_appendName_45
            · refine lv_aload_n hx hb dX11_appendName_23 rfl (lv_at hl 2 rfl) ?_
              refine va_get (D := (dC, dI)) (ci := 10) (v := .ref (A 18)) (C := RX11) (T := TX11) (N := 19) hx hb hts ii_X11_appendName_X11 hown hK hP 0 (xw_is (r := 0) (by omega) (xc_fix (r := 0) (by omega))) rfl 14 (by decide) (hts _ mm_X11_appendName_1) (fun _ hh => hh) rfl dX11_appendName_24 ?_
              refine lv_bipush (v := 97) hx hb dX11_appendName_27 (by decide) ?_
              refine lv_iload hx hb dX11_appendName_29 (lv_at hl 0 rfl) ?_
              refine lv_iadd hx hb dX11_appendName_31 ?_
              refine lv_topi (fun z589 ez589 => ?_)
              clear ez589
              refine lv_iconst (v := 1) hx hb dX11_appendName_32 (by decide) ?_
              refine lv_isub hx hb dX11_appendName_33 ?_
              refine lv_topi (fun z590 ez590 => ?_)
              clear ez590
              refine lv_i2c hx hb dX11_appendName_34 rfl ?_
              refine lv_topi (fun z591 ez591 => ?_)
              clear ez591
              have hPs := xsub (cn := ((g6 + 1) + 1)) hP (by rw [hst568a]) (by rw [hst568b])
              have hKs := xKsub hK
              have hns : A 18 ≠ A 19 := fun h9 => absurd (hN 18 19 (by omega) (by omega) h9) (by decide)
              have hS0 := hS
              refine va_callr (va_runV (As := [.int z591]) (rest := []) ⟨hx, hb, hml, hown, hts⟩ (s_J4_append_cf468 l dC dI ad E hEE (A 18) (A 19) (C 19) nb (st568 19) (st568 18 2) ((g6 + 1) + 1) _ z591 hns hfit (by omega) (by omega) (by omega) (by omega)) (cwV 1 hts gX11_appendName_J4_append_cf468 rfl rfl rfl (by decide +kernel) ⟨Nat.le_of_ble_eq_true rfl, Nat.le_of_ble_eq_true rfl⟩) ⟨fun a U g mk q => ⟨q.1, sPre.blind hEE q.2⟩, va_recv hKs hPs (ci := 0) (q0 := 0) rfl rfl, fun U hU hW => ⟨rfl, sPre.of hEE hPs hKs hE hS (hBR.sa _ hS.1) hU hW⟩⟩ rfl rfl hl.1 rfl (lv_room (Nat.le_of_ble_eq_true rfl)) dX11_appendName_35 ⟨Nat.le_of_ble_eq_true rfl, Nat.le_of_ble_eq_true rfl⟩) hS (fun q _ h => hBR.sa _ hS.1 q h) (hBR.sa _ hS.1) (fun x r592 t H5 locs ht hvm hw hB hz hk hS => ?_)
              obtain ⟨hw, hr9, hB⟩ := hB
              subst hr9
              obtain ⟨hPt, hK2, hne2, hv2, hF2⟩ := hB
              rw [ht] at hPt
              have hK2 := va_K.moved hvm.symm hK2
              obtain ⟨v593, cB594, nb595, f596, ml597, cn598⟩ := x
              dsimp only at hPt hK2 hne2 hv2 hF2 hw
              obtain ⟨rfl, rfl, rfl, rfl, hw⟩ := hw
              have hj := xjoin hN hP hK hBR hS0.1 hPt hK2 hk hne2 hv2
              rw [A19_self, C19_self] at hj
              obtain ⟨st599, est599⟩ : ∃ y, y = st19 st568 f596 ml597 (nI (((g6 + 1) + 1) + 1)) := ⟨_, rfl⟩
              rw [← est599] at hj
              have hst599a : st599 18 1 = 0 := by rw [est599]; rfl
              have hst599b : st599 18 3 = (nI (((g6 + 1) + 1) + 1)) := by rw [est599]; rfl
              have hfit : sb_Fit (st599 19) := by rw [est599]; exact hF2
              have hGst599 : XG [1, 2, 3, 4, 5, 6, 7, 8, 9, 10, 11, 12] st568 st599 := by rw [est599]; exact xg19 (XG.rf hG.1) (by decide) _ _ _
              have hG : XG [1, 2, 3, 4, 5, 6, 7, 8, 9, 10, 11, 12] st st599 := by rw [est599]; exact xg19 hG (by decide) _ _ _
              clear hK2 hne2 hv2 hF2 ht hvm est599 hPs hKs hk hz
              obtain ⟨hP, hK, hN, hBR⟩ := hj
              clear hw
              refine lv_pop hx hb dX11_appendName_38 rfl ?_
              refine lv_iinc (v := 0) (lv' := [(3, .int 0), (4, .int z574), (0, .ref (A 0)), (1, .long vw)]) hx hb dX11_appendName_39 hl (k := 1) rfl (by decide) (by decide) rfl (fun ls hl => ?_)
              refine lv_goto (tgt := 3) hx hb dX11_appendName_42 (by decide) ?_
              refine lv_iload_n hx hb dX11_appendName_3 rfl (lv_at hl 0 rfl) ?_
              refine lv_if_lt (tgt := 45) hx hb dX11_appendName_4 (by decide) (fun cc => absurd cc (by decide)) (fun _ => ?_)
              refine lv_lload_n hx hb dX11_appendName_7 rfl (lv_at hl 3 rfl) ?_
              refine lv_iload_n hx hb dX11_appendName_8 rfl (lv_at hl 0 rfl) ?_
              refine lv_iconst (v := 5) hx hb dX11_appendName_9 (by decide) ?_
              refine lv_imul hx hb dX11_appendName_10 ?_
              refine zz_top (v := 0) (by decide) ?_
              refine lv_lushr hx hb dX11_appendName_11 rfl ?_
              refine lv_topl (fun z600 ez600 => ?_)
              clear ez600
              refine lv_l2i hx hb dX11_appendName_12 rfl ?_
              refine lv_topi (fun z601 ez601 => ?_)
              clear ez601
              refine lv_bipush (v := 31) hx hb dX11_appendName_13 (by decide) ?_
              refine lv_iand hx hb dX11_appendName_15 ?_
              refine lv_topi (fun z602 ez602 => ?_)
              clear ez602
              refine lv_istore (lv' := [(4, .int z602), (3, .int 0), (0, .ref (A 0)), (1, .long vw)]) hx hb dX11_appendName_16 hl (by decide) rfl (fun ls hl => ?_)
              refine lv_iload hx hb dX11_appendName_18 (lv_at hl 0 rfl) ?_
              refine lv_if_eq (tgt := 39) hx hb dX11_appendName_20 (by decide) (fun c133 => ?_) (fun c133 => ?_)
              · refine lv_iinc (v := (-1)) (lv' := [(3, .int (-1)), (4, .int z602), (0, .ref (A 0)), (1, .long vw)]) hx hb dX11_appendName_39 hl (k := 1) rfl (by decide) (by decide) rfl (fun ls hl => ?_)
                refine lv_goto (tgt := 3) hx hb dX11_appendName_42 (by decide) ?_
                refine lv_iload_n hx hb dX11_appendName_3 rfl (lv_at hl 0 rfl) ?_
                refine lv_if_lt (tgt := 45) hx hb dX11_appendName_4 (by decide) (fun _ => ?_) (fun cc => absurd (by decide) cc)
                exact W.vret hx hb hr (fun t ht hW => ⟨⟨(st599, sl5, so), rfl, ⟨hG, rfl, ⟨(((g6 + 1) + 1) + 1), by show st599 18 1 = 0; rw [hst599a], by show st599 18 3 = _; rw [hst599b], by omega, hfit⟩⟩, xB.of ht hP⟩, hS.F ht⟩) hS.2.2 dX11_appendName_45
              · refine lv_aload_n hx hb dX11_appendName_23 rfl (lv_at hl 2 rfl) ?_
                refine va_get (D := (dC, dI)) (ci := 10) (v := .ref (A 18)) (C := RX11) (T := TX11) (N := 19) hx hb hts ii_X11_appendName_X11 hown hK hP 0 (xw_is (r := 0) (by omega) (xc_fix (r := 0) (by omega))) rfl 14 (by decide) (hts _ mm_X11_appendName_1) (fun _ hh => hh) rfl dX11_appendName_24 ?_
                refine lv_bipush (v := 97) hx hb dX11_appendName_27 (by decide) ?_
                refine lv_iload hx hb dX11_appendName_29 (lv_at hl 0 rfl) ?_
                refine lv_iadd hx hb dX11_appendName_31 ?_
                refine lv_topi (fun z603 ez603 => ?_)
                clear ez603
                refine lv_iconst (v := 1) hx hb dX11_appendName_32 (by decide) ?_
                refine lv_isub hx hb dX11_appendName_33 ?_
                refine lv_topi (fun z604 ez604 => ?_)
                clear ez604
                refine lv_i2c hx hb dX11_appendName_34 rfl ?_
                refine lv_topi (fun z605 ez605 => ?_)
                clear ez605
                have hPs := xsub (cn := (((g6 + 1) + 1) + 1)) hP (by rw [hst599a]) (by rw [hst599b])
                have hKs := xKsub hK
                have hns : A 18 ≠ A 19 := fun h9 => absurd (hN 18 19 (by omega) (by omega) h9) (by decide)
                have hS0 := hS
                refine va_callr (va_runV (As := [.int z605]) (rest := []) ⟨hx, hb, hml, hown, hts⟩ (s_J4_append_cf468 l dC dI ad E hEE (A 18) (A 19) (C 19) nb (st599 19) (st599 18 2) (((g6 + 1) + 1) + 1) _ z605 hns hfit (by omega) (by omega) (by omega) (by omega)) (cwV 1 hts gX11_appendName_J4_append_cf468 rfl rfl rfl (by decide +kernel) ⟨Nat.le_of_ble_eq_true rfl, Nat.le_of_ble_eq_true rfl⟩) ⟨fun a U g mk q => ⟨q.1, sPre.blind hEE q.2⟩, va_recv hKs hPs (ci := 0) (q0 := 0) rfl rfl, fun U hU hW => ⟨rfl, sPre.of hEE hPs hKs hE hS (hBR.sa _ hS.1) hU hW⟩⟩ rfl rfl hl.1 rfl (lv_room (Nat.le_of_ble_eq_true rfl)) dX11_appendName_35 ⟨Nat.le_of_ble_eq_true rfl, Nat.le_of_ble_eq_true rfl⟩) hS (fun q _ h => hBR.sa _ hS.1 q h) (hBR.sa _ hS.1) (fun x r606 t H5 locs ht hvm hw hB hz hk hS => ?_)
                obtain ⟨hw, hr9, hB⟩ := hB
                subst hr9
                obtain ⟨hPt, hK2, hne2, hv2, hF2⟩ := hB
                rw [ht] at hPt
                have hK2 := va_K.moved hvm.symm hK2
                obtain ⟨v607, cB608, nb609, f610, ml611, cn612⟩ := x
                dsimp only at hPt hK2 hne2 hv2 hF2 hw
                obtain ⟨rfl, rfl, rfl, rfl, hw⟩ := hw
                have hj := xjoin hN hP hK hBR hS0.1 hPt hK2 hk hne2 hv2
                rw [A19_self, C19_self] at hj
                obtain ⟨st613, est613⟩ : ∃ y, y = st19 st599 f610 ml611 (nI ((((g6 + 1) + 1) + 1) + 1)) := ⟨_, rfl⟩
                rw [← est613] at hj
                have hst613a : st613 18 1 = 0 := by rw [est613]; rfl
                have hst613b : st613 18 3 = (nI ((((g6 + 1) + 1) + 1) + 1)) := by rw [est613]; rfl
                have hfit : sb_Fit (st613 19) := by rw [est613]; exact hF2
                have hGst613 : XG [1, 2, 3, 4, 5, 6, 7, 8, 9, 10, 11, 12] st599 st613 := by rw [est613]; exact xg19 (XG.rf hG.1) (by decide) _ _ _
                have hG : XG [1, 2, 3, 4, 5, 6, 7, 8, 9, 10, 11, 12] st st613 := by rw [est613]; exact xg19 hG (by decide) _ _ _
                clear hK2 hne2 hv2 hF2 ht hvm est613 hPs hKs hk hz
                obtain ⟨hP, hK, hN, hBR⟩ := hj
                clear hw
                refine lv_pop hx hb dX11_appendName_38 rfl ?_
                refine lv_iinc (v := (-1)) (lv' := [(3, .int (-1)), (4, .int z602), (0, .ref (A 0)), (1, .long vw)]) hx hb dX11_appendName_39 hl (k := 1) rfl (by decide) (by decide) rfl (fun ls hl => ?_)
                refine lv_goto (tgt := 3) hx hb dX11_appendName_42 (by decide) ?_
                refine lv_iload_n hx hb dX11_appendName_3 rfl (lv_at hl 0 rfl) ?_
                refine lv_if_lt (tgt := 45) hx hb dX11_appendName_4 (by decide) (fun _ => ?_) (fun cc => absurd (by decide) cc)
                exact W.vret hx hb hr (fun t ht hW => ⟨⟨(st613, sl5, so), rfl, ⟨hG, rfl, ⟨((((g6 + 1) + 1) + 1) + 1), by show st613 18 1 = 0; rw [hst613a], by show st613 18 3 = _; rw [hst613b], by omega, hfit⟩⟩, xB.of ht hP⟩, hS.F ht⟩) hS.2.2 dX11_appendName_45
          · refine lv_aload_n hx hb dX11_appendName_23 rfl (lv_at hl 2 rfl) ?_
            refine va_get (D := (dC, dI)) (ci := 10) (v := .ref (A 18)) (C := RX11) (T := TX11) (N := 19) hx hb hts ii_X11_appendName_X11 hown hK hP 0 (xw_is (r := 0) (by omega) (xc_fix (r := 0) (by omega))) rfl 14 (by decide) (hts _ mm_X11_appendName_1) (fun _ hh => hh) rfl dX11_appendName_24 ?_
            refine lv_bipush (v := 97) hx hb dX11_appendName_27 (by decide) ?_
            refine lv_iload hx hb dX11_appendName_29 (lv_at hl 0 rfl) ?_
            refine lv_iadd hx hb dX11_appendName_31 ?_
            refine lv_topi (fun z614 ez614 => ?_)
            clear ez614
            refine lv_iconst (v := 1) hx hb dX11_appendName_32 (by decide) ?_
            refine lv_isub hx hb dX11_appendName_33 ?_
            refine lv_topi (fun z615 ez615 => ?_)
            clear ez615
            refine lv_i2c hx hb dX11_appendName_34 rfl ?_
            refine lv_topi (fun z616 ez616 => ?_)
            clear ez616
            have hPs := xsub (cn := ((g6 + 1) + 1)) hP (by rw [hst568a]) (by rw [hst568b])
            have hKs := xKsub hK
            have hns : A 18 ≠ A 19 := fun h9 => absurd (hN 18 19 (by omega) (by omega) h9) (by decide)
            have hS0 := hS
            refine va_callr (va_runV (As := [.int z616]) (rest := []) ⟨hx, hb, hml, hown, hts⟩ (s_J4_append_cf468 l dC dI ad E hEE (A 18) (A 19) (C 19) nb (st568 19) (st568 18 2) ((g6 + 1) + 1) _ z616 hns hfit (by omega) (by omega) (by omega) (by omega)) (cwV 1 hts gX11_appendName_J4_append_cf468 rfl rfl rfl (by decide +kernel) ⟨Nat.le_of_ble_eq_true rfl, Nat.le_of_ble_eq_true rfl⟩) ⟨fun a U g mk q => ⟨q.1, sPre.blind hEE q.2⟩, va_recv hKs hPs (ci := 0) (q0 := 0) rfl rfl, fun U hU hW => ⟨rfl, sPre.of hEE hPs hKs hE hS (hBR.sa _ hS.1) hU hW⟩⟩ rfl rfl hl.1 rfl (lv_room (Nat.le_of_ble_eq_true rfl)) dX11_appendName_35 ⟨Nat.le_of_ble_eq_true rfl, Nat.le_of_ble_eq_true rfl⟩) hS (fun q _ h => hBR.sa _ hS.1 q h) (hBR.sa _ hS.1) (fun x r617 t H5 locs ht hvm hw hB hz hk hS => ?_)
            obtain ⟨hw, hr9, hB⟩ := hB
            subst hr9
            obtain ⟨hPt, hK2, hne2, hv2, hF2⟩ := hB
            rw [ht] at hPt
            have hK2 := va_K.moved hvm.symm hK2
            obtain ⟨v618, cB619, nb620, f621, ml622, cn623⟩ := x
            dsimp only at hPt hK2 hne2 hv2 hF2 hw
            obtain ⟨rfl, rfl, rfl, rfl, hw⟩ := hw
            have hj := xjoin hN hP hK hBR hS0.1 hPt hK2 hk hne2 hv2
            rw [A19_self, C19_self] at hj
            obtain ⟨st624, est624⟩ : ∃ y, y = st19 st568 f621 ml622 (nI (((g6 + 1) + 1) + 1)) := ⟨_, rfl⟩
            rw [← est624] at hj
            have hst624a : st624 18 1 = 0 := by rw [est624]; rfl
            have hst624b : st624 18 3 = (nI (((g6 + 1) + 1) + 1)) := by rw [est624]; rfl
            have hfit : sb_Fit (st624 19) := by rw [est624]; exact hF2
            have hGst624 : XG [1, 2, 3, 4, 5, 6, 7, 8, 9, 10, 11, 12] st568 st624 := by rw [est624]; exact xg19 (XG.rf hG.1) (by decide) _ _ _
            have hG : XG [1, 2, 3, 4, 5, 6, 7, 8, 9, 10, 11, 12] st st624 := by rw [est624]; exact xg19 hG (by decide) _ _ _
            clear hK2 hne2 hv2 hF2 ht hvm est624 hPs hKs hk hz
            obtain ⟨hP, hK, hN, hBR⟩ := hj
            clear hw
            refine lv_pop hx hb dX11_appendName_38 rfl ?_
            refine lv_iinc (v := 1) (lv' := [(3, .int 1), (4, .int z571), (0, .ref (A 0)), (1, .long vw)]) hx hb dX11_appendName_39 hl (k := 1) rfl (by decide) (by decide) rfl (fun ls hl => ?_)
            refine lv_goto (tgt := 3) hx hb dX11_appendName_42 (by decide) ?_
            refine lv_iload_n hx hb dX11_appendName_3 rfl (lv_at hl 0 rfl) ?_
            refine lv_if_lt (tgt := 45) hx hb dX11_appendName_4 (by decide) (fun cc => absurd cc (by decide)) (fun _ => ?_)
            refine lv_lload_n hx hb dX11_appendName_7 rfl (lv_at hl 3 rfl) ?_
            refine lv_iload_n hx hb dX11_appendName_8 rfl (lv_at hl 0 rfl) ?_
            refine lv_iconst (v := 5) hx hb dX11_appendName_9 (by decide) ?_
            refine lv_imul hx hb dX11_appendName_10 ?_
            refine zz_top (v := 5) (by decide) ?_
            refine lv_lushr hx hb dX11_appendName_11 rfl ?_
            refine lv_topl (fun z625 ez625 => ?_)
            clear ez625
            refine lv_l2i hx hb dX11_appendName_12 rfl ?_
            refine lv_topi (fun z626 ez626 => ?_)
            clear ez626
            refine lv_bipush (v := 31) hx hb dX11_appendName_13 (by decide) ?_
            refine lv_iand hx hb dX11_appendName_15 ?_
            refine lv_topi (fun z627 ez627 => ?_)
            clear ez627
            refine lv_istore (lv' := [(4, .int z627), (3, .int 1), (0, .ref (A 0)), (1, .long vw)]) hx hb dX11_appendName_16 hl (by decide) rfl (fun ls hl => ?_)
            refine lv_iload hx hb dX11_appendName_18 (lv_at hl 0 rfl) ?_
            refine lv_if_eq (tgt := 39) hx hb dX11_appendName_20 (by decide) (fun c137 => ?_) (fun c137 => ?_)
            · refine lv_iinc (v := 0) (lv' := [(3, .int 0), (4, .int z627), (0, .ref (A 0)), (1, .long vw)]) hx hb dX11_appendName_39 hl (k := 1) rfl (by decide) (by decide) rfl (fun ls hl => ?_)
              refine lv_goto (tgt := 3) hx hb dX11_appendName_42 (by decide) ?_
              refine lv_iload_n hx hb dX11_appendName_3 rfl (lv_at hl 0 rfl) ?_
              refine lv_if_lt (tgt := 45) hx hb dX11_appendName_4 (by decide) (fun cc => absurd cc (by decide)) (fun _ => ?_)
              refine lv_lload_n hx hb dX11_appendName_7 rfl (lv_at hl 3 rfl) ?_
              refine lv_iload_n hx hb dX11_appendName_8 rfl (lv_at hl 0 rfl) ?_
              refine lv_iconst (v := 5) hx hb dX11_appendName_9 (by decide) ?_
              refine lv_imul hx hb dX11_appendName_10 ?_
              refine zz_top (v := 0) (by decide) ?_
              refine lv_lushr hx hb dX11_appendName_11 rfl ?_
              refine lv_topl (fun z628 ez628 => ?_)
              clear ez628
              refine lv_l2i hx hb dX11_appendName_12 rfl ?_
              refine lv_topi (fun z629 ez629 => ?_)
              clear ez629
              refine lv_bipush (v := 31) hx hb dX11_appendName_13 (by decide) ?_
              refine lv_iand hx hb dX11_appendName_15 ?_
              refine lv_topi (fun z630 ez630 => ?_)
              clear ez630
              refine lv_istore (lv' := [(4, .int z630), (3, .int 0), (0, .ref (A 0)), (1, .long vw)]) hx hb dX11_appendName_16 hl (by decide) rfl (fun ls hl => ?_)
              refine lv_iload hx hb dX11_appendName_18 (lv_at hl 0 rfl) ?_
              refine lv_if_eq (tgt := 39) hx hb dX11_appendName_20 (by decide) (fun c139 => ?_) (fun c139 => ?_)
              · refine lv_iinc (v := (-1)) (lv' := [(3, .int (-1)), (4, .int z630), (0, .ref (A 0)), (1, .long vw)]) hx hb dX11_appendName_39 hl (k := 1) rfl (by decide) (by decide) rfl (fun ls hl => ?_)
                refine lv_goto (tgt := 3) hx hb dX11_appendName_42 (by decide) ?_
                refine lv_iload_n hx hb dX11_appendName_3 rfl (lv_at hl 0 rfl) ?_
                refine lv_if_lt (tgt := 45) hx hb dX11_appendName_4 (by decide) (fun _ => ?_) (fun cc => absurd (by decide) cc)
                exact W.vret hx hb hr (fun t ht hW => ⟨⟨(st624, sl5, so), rfl, ⟨hG, rfl, ⟨(((g6 + 1) + 1) + 1), by show st624 18 1 = 0; rw [hst624a], by show st624 18 3 = _; rw [hst624b], by omega, hfit⟩⟩, xB.of ht hP⟩, hS.F ht⟩) hS.2.2 dX11_appendName_45
              · refine lv_aload_n hx hb dX11_appendName_23 rfl (lv_at hl 2 rfl) ?_
                refine va_get (D := (dC, dI)) (ci := 10) (v := .ref (A 18)) (C := RX11) (T := TX11) (N := 19) hx hb hts ii_X11_appendName_X11 hown hK hP 0 (xw_is (r := 0) (by omega) (xc_fix (r := 0) (by omega))) rfl 14 (by decide) (hts _ mm_X11_appendName_1) (fun _ hh => hh) rfl dX11_appendName_24 ?_
                refine lv_bipush (v := 97) hx hb dX11_appendName_27 (by decide) ?_
                refine lv_iload hx hb dX11_appendName_29 (lv_at hl 0 rfl) ?_
                refine lv_iadd hx hb dX11_appendName_31 ?_
                refine lv_topi (fun z631 ez631 => ?_)
                clear ez631
                refine lv_iconst (v := 1) hx hb dX11_appendName_32 (by decide) ?_
                refine lv_isub hx hb dX11_appendName_33 ?_
                refine lv_topi (fun z632 ez632 => ?_)
                clear ez632
                refine lv_i2c hx hb dX11_appendName_34 rfl ?_
                refine lv_topi (fun z633 ez633 => ?_)
                clear ez633
                have hPs := xsub (cn := (((g6 + 1) + 1) + 1)) hP (by rw [hst624a]) (by rw [hst624b])
                have hKs := xKsub hK
                have hns : A 18 ≠ A 19 := fun h9 => absurd (hN 18 19 (by omega) (by omega) h9) (by decide)
                have hS0 := hS
                refine va_callr (va_runV (As := [.int z633]) (rest := []) ⟨hx, hb, hml, hown, hts⟩ (s_J4_append_cf468 l dC dI ad E hEE (A 18) (A 19) (C 19) nb (st624 19) (st624 18 2) (((g6 + 1) + 1) + 1) _ z633 hns hfit (by omega) (by omega) (by omega) (by omega)) (cwV 1 hts gX11_appendName_J4_append_cf468 rfl rfl rfl (by decide +kernel) ⟨Nat.le_of_ble_eq_true rfl, Nat.le_of_ble_eq_true rfl⟩) ⟨fun a U g mk q => ⟨q.1, sPre.blind hEE q.2⟩, va_recv hKs hPs (ci := 0) (q0 := 0) rfl rfl, fun U hU hW => ⟨rfl, sPre.of hEE hPs hKs hE hS (hBR.sa _ hS.1) hU hW⟩⟩ rfl rfl hl.1 rfl (lv_room (Nat.le_of_ble_eq_true rfl)) dX11_appendName_35 ⟨Nat.le_of_ble_eq_true rfl, Nat.le_of_ble_eq_true rfl⟩) hS (fun q _ h => hBR.sa _ hS.1 q h) (hBR.sa _ hS.1) (fun x r634 t H5 locs ht hvm hw hB hz hk hS => ?_)
                obtain ⟨hw, hr9, hB⟩ := hB
                subst hr9
                obtain ⟨hPt, hK2, hne2, hv2, hF2⟩ := hB
                rw [ht] at hPt
                have hK2 := va_K.moved hvm.symm hK2
                obtain ⟨v635, cB636, nb637, f638, ml639, cn640⟩ := x
                dsimp only at hPt hK2 hne2 hv2 hF2 hw
                obtain ⟨rfl, rfl, rfl, rfl, hw⟩ := hw
                have hj := xjoin hN hP hK hBR hS0.1 hPt hK2 hk hne2 hv2
                rw [A19_self, C19_self] at hj
                obtain ⟨st641, est641⟩ : ∃ y, y = st19 st624 f638 ml639 (nI ((((g6 + 1) + 1) + 1) + 1)) := ⟨_, rfl⟩
                rw [← est641] at hj
                have hst641a : st641 18 1 = 0 := by rw [est641]; rfl
                have hst641b : st641 18 3 = (nI ((((g6 + 1) + 1) + 1) + 1)) := by rw [est641]; rfl
                have hfit : sb_Fit (st641 19) := by rw [est641]; exact hF2
                have hGst641 : XG [1, 2, 3, 4, 5, 6, 7, 8, 9, 10, 11, 12] st624 st641 := by rw [est641]; exact xg19 (XG.rf hG.1) (by decide) _ _ _
                have hG : XG [1, 2, 3, 4, 5, 6, 7, 8, 9, 10, 11, 12] st st641 := by rw [est641]; exact xg19 hG (by decide) _ _ _
                clear hK2 hne2 hv2 hF2 ht hvm est641 hPs hKs hk hz
                obtain ⟨hP, hK, hN, hBR⟩ := hj
                clear hw
                refine lv_pop hx hb dX11_appendName_38 rfl ?_
                refine lv_iinc (v := (-1)) (lv' := [(3, .int (-1)), (4, .int z630), (0, .ref (A 0)), (1, .long vw)]) hx hb dX11_appendName_39 hl (k := 1) rfl (by decide) (by decide) rfl (fun ls hl => ?_)
                refine lv_goto (tgt := 3) hx hb dX11_appendName_42 (by decide) ?_
                refine lv_iload_n hx hb dX11_appendName_3 rfl (lv_at hl 0 rfl) ?_
                refine lv_if_lt (tgt := 45) hx hb dX11_appendName_4 (by decide) (fun _ => ?_) (fun cc => absurd (by decide) cc)
                exact W.vret hx hb hr (fun t ht hW => ⟨⟨(st641, sl5, so), rfl, ⟨hG, rfl, ⟨((((g6 + 1) + 1) + 1) + 1), by show st641 18 1 = 0; rw [hst641a], by show st641 18 3 = _; rw [hst641b], by omega, hfit⟩⟩, xB.of ht hP⟩, hS.F ht⟩) hS.2.2 dX11_appendName_45
            · refine lv_aload_n hx hb dX11_appendName_23 rfl (lv_at hl 2 rfl) ?_
              refine va_get (D := (dC, dI)) (ci := 10) (v := .ref (A 18)) (C := RX11) (T := TX11) (N := 19) hx hb hts ii_X11_appendName_X11 hown hK hP 0 (xw_is (r := 0) (by omega) (xc_fix (r := 0) (by omega))) rfl 14 (by decide) (hts _ mm_X11_appendName_1) (fun _ hh => hh) rfl dX11_appendName_24 ?_
              refine lv_bipush (v := 97) hx hb dX11_appendName_27 (by decide) ?_
              refine lv_iload hx hb dX11_appendName_29 (lv_at hl 0 rfl) ?_
              refine lv_iadd hx hb dX11_appendName_31 ?_
              refine lv_topi (fun z642 ez642 => ?_)
              clear ez642
              refine lv_iconst (v := 1) hx hb dX11_appendName_32 (by decide) ?_
              refine lv_isub hx hb dX11_appendName_33 ?_
              refine lv_topi (fun z643 ez643 => ?_)
              clear ez643
              refine lv_i2c hx hb dX11_appendName_34 rfl ?_
              refine lv_topi (fun z644 ez644 => ?_)
              clear ez644
              have hPs := xsub (cn := (((g6 + 1) + 1) + 1)) hP (by rw [hst624a]) (by rw [hst624b])
              have hKs := xKsub hK
              have hns : A 18 ≠ A 19 := fun h9 => absurd (hN 18 19 (by omega) (by omega) h9) (by decide)
              have hS0 := hS
              refine va_callr (va_runV (As := [.int z644]) (rest := []) ⟨hx, hb, hml, hown, hts⟩ (s_J4_append_cf468 l dC dI ad E hEE (A 18) (A 19) (C 19) nb (st624 19) (st624 18 2) (((g6 + 1) + 1) + 1) _ z644 hns hfit (by omega) (by omega) (by omega) (by omega)) (cwV 1 hts gX11_appendName_J4_append_cf468 rfl rfl rfl (by decide +kernel) ⟨Nat.le_of_ble_eq_true rfl, Nat.le_of_ble_eq_true rfl⟩) ⟨fun a U g mk q => ⟨q.1, sPre.blind hEE q.2⟩, va_recv hKs hPs (ci := 0) (q0 := 0) rfl rfl, fun U hU hW => ⟨rfl, sPre.of hEE hPs hKs hE hS (hBR.sa _ hS.1) hU hW⟩⟩ rfl rfl hl.1 rfl (lv_room (Nat.le_of_ble_eq_true rfl)) dX11_appendName_35 ⟨Nat.le_of_ble_eq_true rfl, Nat.le_of_ble_eq_true rfl⟩) hS (fun q _ h => hBR.sa _ hS.1 q h) (hBR.sa _ hS.1) (fun x r645 t H5 locs ht hvm hw hB hz hk hS => ?_)
              obtain ⟨hw, hr9, hB⟩ := hB
              subst hr9
              obtain ⟨hPt, hK2, hne2, hv2, hF2⟩ := hB
              rw [ht] at hPt
              have hK2 := va_K.moved hvm.symm hK2
              obtain ⟨v646, cB647, nb648, f649, ml650, cn651⟩ := x
              dsimp only at hPt hK2 hne2 hv2 hF2 hw
              obtain ⟨rfl, rfl, rfl, rfl, hw⟩ := hw
              have hj := xjoin hN hP hK hBR hS0.1 hPt hK2 hk hne2 hv2
              rw [A19_self, C19_self] at hj
              obtain ⟨st652, est652⟩ : ∃ y, y = st19 st624 f649 ml650 (nI ((((g6 + 1) + 1) + 1) + 1)) := ⟨_, rfl⟩
              rw [← est652] at hj
              have hst652a : st652 18 1 = 0 := by rw [est652]; rfl
              have hst652b : st652 18 3 = (nI ((((g6 + 1) + 1) + 1) + 1)) := by rw [est652]; rfl
              have hfit : sb_Fit (st652 19) := by rw [est652]; exact hF2
              have hGst652 : XG [1, 2, 3, 4, 5, 6, 7, 8, 9, 10, 11, 12] st624 st652 := by rw [est652]; exact xg19 (XG.rf hG.1) (by decide) _ _ _
              have hG : XG [1, 2, 3, 4, 5, 6, 7, 8, 9, 10, 11, 12] st st652 := by rw [est652]; exact xg19 hG (by decide) _ _ _
              clear hK2 hne2 hv2 hF2 ht hvm est652 hPs hKs hk hz
              obtain ⟨hP, hK, hN, hBR⟩ := hj
              clear hw
              refine lv_pop hx hb dX11_appendName_38 rfl ?_
              refine lv_iinc (v := 0) (lv' := [(3, .int 0), (4, .int z627), (0, .ref (A 0)), (1, .long vw)]) hx hb dX11_appendName_39 hl (k := 1) rfl (by decide) (by decide) rfl (fun ls hl => ?_)
              refine lv_goto (tgt := 3) hx hb dX11_appendName_42 (by decide) ?_
              refine lv_iload_n hx hb dX11_appendName_3 rfl (lv_at hl 0 rfl) ?_
              refine lv_if_lt (tgt := 45) hx hb dX11_appendName_4 (by decide) (fun cc => absurd cc (by decide)) (fun _ => ?_)
              refine lv_lload_n hx hb dX11_appendName_7 rfl (lv_at hl 3 rfl) ?_
              refine lv_iload_n hx hb dX11_appendName_8 rfl (lv_at hl 0 rfl) ?_
              refine lv_iconst (v := 5) hx hb dX11_appendName_9 (by decide) ?_
              refine lv_imul hx hb dX11_appendName_10 ?_
              refine zz_top (v := 0) (by decide) ?_
              refine lv_lushr hx hb dX11_appendName_11 rfl ?_
              refine lv_topl (fun z653 ez653 => ?_)
              clear ez653
              refine lv_l2i hx hb dX11_appendName_12 rfl ?_
              refine lv_topi (fun z654 ez654 => ?_)
              clear ez654
              refine lv_bipush (v := 31) hx hb dX11_appendName_13 (by decide) ?_
              refine lv_iand hx hb dX11_appendName_15 ?_
              refine lv_topi (fun z655 ez655 => ?_)
              clear ez655
              refine lv_istore (lv' := [(4, .int z655), (3, .int 0), (0, .ref (A 0)), (1, .long vw)]) hx hb dX11_appendName_16 hl (by decide) rfl (fun ls hl => ?_)
              refine lv_iload hx hb dX11_appendName_18 (lv_at hl 0 rfl) ?_
              refine lv_if_eq (tgt := 39) hx hb dX11_appendName_20 (by decide) (fun c143 => ?_) (fun c143 => ?_)
              · refine lv_iinc (v := (-1)) (lv' := [(3, .int (-1)), (4, .int z655), (0, .ref (A 0)), (1, .long vw)]) hx hb dX11_appendName_39 hl (k := 1) rfl (by decide) (by decide) rfl (fun ls hl => ?_)
                refine lv_goto (tgt := 3) hx hb dX11_appendName_42 (by decide) ?_
                refine lv_iload_n hx hb dX11_appendName_3 rfl (lv_at hl 0 rfl) ?_
                refine lv_if_lt (tgt := 45) hx hb dX11_appendName_4 (by decide) (fun _ => ?_) (fun cc => absurd (by decide) cc)
                exact W.vret hx hb hr (fun t ht hW => ⟨⟨(st652, sl5, so), rfl, ⟨hG, rfl, ⟨((((g6 + 1) + 1) + 1) + 1), by show st652 18 1 = 0; rw [hst652a], by show st652 18 3 = _; rw [hst652b], by omega, hfit⟩⟩, xB.of ht hP⟩, hS.F ht⟩) hS.2.2 dX11_appendName_45
              · refine lv_aload_n hx hb dX11_appendName_23 rfl (lv_at hl 2 rfl) ?_
                refine va_get (D := (dC, dI)) (ci := 10) (v := .ref (A 18)) (C := RX11) (T := TX11) (N := 19) hx hb hts ii_X11_appendName_X11 hown hK hP 0 (xw_is (r := 0) (by omega) (xc_fix (r := 0) (by omega))) rfl 14 (by decide) (hts _ mm_X11_appendName_1) (fun _ hh => hh) rfl dX11_appendName_24 ?_
                refine lv_bipush (v := 97) hx hb dX11_appendName_27 (by decide) ?_
                refine lv_iload hx hb dX11_appendName_29 (lv_at hl 0 rfl) ?_
                refine lv_iadd hx hb dX11_appendName_31 ?_
                refine lv_topi (fun z656 ez656 => ?_)
                clear ez656
                refine lv_iconst (v := 1) hx hb dX11_appendName_32 (by decide) ?_
                refine lv_isub hx hb dX11_appendName_33 ?_
                refine lv_topi (fun z657 ez657 => ?_)
                clear ez657
                refine lv_i2c hx hb dX11_appendName_34 rfl ?_
                refine lv_topi (fun z658 ez658 => ?_)
                clear ez658
                have hPs := xsub (cn := ((((g6 + 1) + 1) + 1) + 1)) hP (by rw [hst652a]) (by rw [hst652b])
                have hKs := xKsub hK
                have hns : A 18 ≠ A 19 := fun h9 => absurd (hN 18 19 (by omega) (by omega) h9) (by decide)
                have hS0 := hS
                refine va_callr (va_runV (As := [.int z658]) (rest := []) ⟨hx, hb, hml, hown, hts⟩ (s_J4_append_cf468 l dC dI ad E hEE (A 18) (A 19) (C 19) nb (st652 19) (st652 18 2) ((((g6 + 1) + 1) + 1) + 1) _ z658 hns hfit (by omega) (by omega) (by omega) (by omega)) (cwV 1 hts gX11_appendName_J4_append_cf468 rfl rfl rfl (by decide +kernel) ⟨Nat.le_of_ble_eq_true rfl, Nat.le_of_ble_eq_true rfl⟩) ⟨fun a U g mk q => ⟨q.1, sPre.blind hEE q.2⟩, va_recv hKs hPs (ci := 0) (q0 := 0) rfl rfl, fun U hU hW => ⟨rfl, sPre.of hEE hPs hKs hE hS (hBR.sa _ hS.1) hU hW⟩⟩ rfl rfl hl.1 rfl (lv_room (Nat.le_of_ble_eq_true rfl)) dX11_appendName_35 ⟨Nat.le_of_ble_eq_true rfl, Nat.le_of_ble_eq_true rfl⟩) hS (fun q _ h => hBR.sa _ hS.1 q h) (hBR.sa _ hS.1) (fun x r659 t H5 locs ht hvm hw hB hz hk hS => ?_)
                obtain ⟨hw, hr9, hB⟩ := hB
                subst hr9
                obtain ⟨hPt, hK2, hne2, hv2, hF2⟩ := hB
                rw [ht] at hPt
                have hK2 := va_K.moved hvm.symm hK2
                obtain ⟨v660, cB661, nb662, f663, ml664, cn665⟩ := x
                dsimp only at hPt hK2 hne2 hv2 hF2 hw
                obtain ⟨rfl, rfl, rfl, rfl, hw⟩ := hw
                have hj := xjoin hN hP hK hBR hS0.1 hPt hK2 hk hne2 hv2
                rw [A19_self, C19_self] at hj
                obtain ⟨st666, est666⟩ : ∃ y, y = st19 st652 f663 ml664 (nI (((((g6 + 1) + 1) + 1) + 1) + 1)) := ⟨_, rfl⟩
                rw [← est666] at hj
                have hst666a : st666 18 1 = 0 := by rw [est666]; rfl
                have hst666b : st666 18 3 = (nI (((((g6 + 1) + 1) + 1) + 1) + 1)) := by rw [est666]; rfl
                have hfit : sb_Fit (st666 19) := by rw [est666]; exact hF2
                have hGst666 : XG [1, 2, 3, 4, 5, 6, 7, 8, 9, 10, 11, 12] st652 st666 := by rw [est666]; exact xg19 (XG.rf hG.1) (by decide) _ _ _
                have hG : XG [1, 2, 3, 4, 5, 6, 7, 8, 9, 10, 11, 12] st st666 := by rw [est666]; exact xg19 hG (by decide) _ _ _
                clear hK2 hne2 hv2 hF2 ht hvm est666 hPs hKs hk hz
                obtain ⟨hP, hK, hN, hBR⟩ := hj
                clear hw
                refine lv_pop hx hb dX11_appendName_38 rfl ?_
                refine lv_iinc (v := (-1)) (lv' := [(3, .int (-1)), (4, .int z655), (0, .ref (A 0)), (1, .long vw)]) hx hb dX11_appendName_39 hl (k := 1) rfl (by decide) (by decide) rfl (fun ls hl => ?_)
                refine lv_goto (tgt := 3) hx hb dX11_appendName_42 (by decide) ?_
                refine lv_iload_n hx hb dX11_appendName_3 rfl (lv_at hl 0 rfl) ?_
                refine lv_if_lt (tgt := 45) hx hb dX11_appendName_4 (by decide) (fun _ => ?_) (fun cc => absurd (by decide) cc)
                exact W.vret hx hb hr (fun t ht hW => ⟨⟨(st666, sl5, so), rfl, ⟨hG, rfl, ⟨(((((g6 + 1) + 1) + 1) + 1) + 1), by show st666 18 1 = 0; rw [hst666a], by show st666 18 3 = _; rw [hst666b], by omega, hfit⟩⟩, xB.of ht hP⟩, hS.F ht⟩) hS.2.2 dX11_appendName_45
      · refine lv_aload_n hx hb dX11_appendName_23 rfl (lv_at hl 2 rfl) ?_
        refine va_get (D := (dC, dI)) (ci := 10) (v := .ref (A 18)) (C := RX11) (T := TX11) (N := 19) hx hb hts ii_X11_appendName_X11 hown hK hP 0 (xw_is (r := 0) (by omega) (xc_fix (r := 0) (by omega))) rfl 14 (by decide) (hts _ mm_X11_appendName_1) (fun _ hh => hh) rfl dX11_appendName_24 ?_
        refine lv_bipush (v := 97) hx hb dX11_appendName_27 (by decide) ?_
        refine lv_iload hx hb dX11_appendName_29 (lv_at hl 0 rfl) ?_
        refine lv_iadd hx hb dX11_appendName_31 ?_
        refine lv_topi (fun z667 ez667 => ?_)
        clear ez667
        refine lv_iconst (v := 1) hx hb dX11_appendName_32 (by decide) ?_
        refine lv_isub hx hb dX11_appendName_33 ?_
        refine lv_topi (fun z668 ez668 => ?_)
        clear ez668
        refine lv_i2c hx hb dX11_appendName_34 rfl ?_
        refine lv_topi (fun z669 ez669 => ?_)
        clear ez669
        have hPs := xsub (cn := (g6 + 1)) hP (by rw [hst453a]) (by rw [hst453b])
        have hKs := xKsub hK
        have hns : A 18 ≠ A 19 := fun h9 => absurd (hN 18 19 (by omega) (by omega) h9) (by decide)
        have hS0 := hS
        refine va_callr (va_runV (As := [.int z669]) (rest := []) ⟨hx, hb, hml, hown, hts⟩ (s_J4_append_cf468 l dC dI ad E hEE (A 18) (A 19) (C 19) nb (st453 19) (st453 18 2) (g6 + 1) _ z669 hns hfit (by omega) (by omega) (by omega) (by omega)) (cwV 1 hts gX11_appendName_J4_append_cf468 rfl rfl rfl (by decide +kernel) ⟨Nat.le_of_ble_eq_true rfl, Nat.le_of_ble_eq_true rfl⟩) ⟨fun a U g mk q => ⟨q.1, sPre.blind hEE q.2⟩, va_recv hKs hPs (ci := 0) (q0 := 0) rfl rfl, fun U hU hW => ⟨rfl, sPre.of hEE hPs hKs hE hS (hBR.sa _ hS.1) hU hW⟩⟩ rfl rfl hl.1 rfl (lv_room (Nat.le_of_ble_eq_true rfl)) dX11_appendName_35 ⟨Nat.le_of_ble_eq_true rfl, Nat.le_of_ble_eq_true rfl⟩) hS (fun q _ h => hBR.sa _ hS.1 q h) (hBR.sa _ hS.1) (fun x r670 t H5 locs ht hvm hw hB hz hk hS => ?_)
        obtain ⟨hw, hr9, hB⟩ := hB
        subst hr9
        obtain ⟨hPt, hK2, hne2, hv2, hF2⟩ := hB
        rw [ht] at hPt
        have hK2 := va_K.moved hvm.symm hK2
        obtain ⟨v671, cB672, nb673, f674, ml675, cn676⟩ := x
        dsimp only at hPt hK2 hne2 hv2 hF2 hw
        obtain ⟨rfl, rfl, rfl, rfl, hw⟩ := hw
        have hj := xjoin hN hP hK hBR hS0.1 hPt hK2 hk hne2 hv2
        rw [A19_self, C19_self] at hj
        obtain ⟨st677, est677⟩ : ∃ y, y = st19 st453 f674 ml675 (nI ((g6 + 1) + 1)) := ⟨_, rfl⟩
        rw [← est677] at hj
        have hst677a : st677 18 1 = 0 := by rw [est677]; rfl
        have hst677b : st677 18 3 = (nI ((g6 + 1) + 1)) := by rw [est677]; rfl
        have hfit : sb_Fit (st677 19) := by rw [est677]; exact hF2
        have hGst677 : XG [1, 2, 3, 4, 5, 6, 7, 8, 9, 10, 11, 12] st453 st677 := by rw [est677]; exact xg19 (XG.rf hG.1) (by decide) _ _ _
        have hG : XG [1, 2, 3, 4, 5, 6, 7, 8, 9, 10, 11, 12] st st677 := by rw [est677]; exact xg19 hG (by decide) _ _ _
        clear hK2 hne2 hv2 hF2 ht hvm est677 hPs hKs hk hz
        obtain ⟨hP, hK, hN, hBR⟩ := hj
        clear hw
        refine lv_pop hx hb dX11_appendName_38 rfl ?_
        refine lv_iinc (v := 3) (lv' := [(3, .int 3), (4, .int z456), (0, .ref (A 0)), (1, .long vw)]) hx hb dX11_appendName_39 hl (k := 1) rfl (by decide) (by decide) rfl (fun ls hl => ?_)
        refine lv_goto (tgt := 3) hx hb dX11_appendName_42 (by decide) ?_
        refine lv_iload_n hx hb dX11_appendName_3 rfl (lv_at hl 0 rfl) ?_
        refine lv_if_lt (tgt := 45) hx hb dX11_appendName_4 (by decide) (fun cc => absurd cc (by decide)) (fun _ => ?_)
        refine lv_lload_n hx hb dX11_appendName_7 rfl (lv_at hl 3 rfl) ?_
        refine lv_iload_n hx hb dX11_appendName_8 rfl (lv_at hl 0 rfl) ?_
        refine lv_iconst (v := 5) hx hb dX11_appendName_9 (by decide) ?_
        refine lv_imul hx hb dX11_appendName_10 ?_
        refine zz_top (v := 15) (by decide) ?_
        refine lv_lushr hx hb dX11_appendName_11 rfl ?_
        refine lv_topl (fun z678 ez678 => ?_)
        clear ez678
        refine lv_l2i hx hb dX11_appendName_12 rfl ?_
        refine lv_topi (fun z679 ez679 => ?_)
        clear ez679
        refine lv_bipush (v := 31) hx hb dX11_appendName_13 (by decide) ?_
        refine lv_iand hx hb dX11_appendName_15 ?_
        refine lv_topi (fun z680 ez680 => ?_)
        clear ez680
        refine lv_istore (lv' := [(4, .int z680), (3, .int 3), (0, .ref (A 0)), (1, .long vw)]) hx hb dX11_appendName_16 hl (by decide) rfl (fun ls hl => ?_)
        refine lv_iload hx hb dX11_appendName_18 (lv_at hl 0 rfl) ?_
        refine lv_if_eq (tgt := 39) hx hb dX11_appendName_20 (by decide) (fun c147 => ?_) (fun c147 => ?_)
        · refine lv_iinc (v := 2) (lv' := [(3, .int 2), (4, .int z680), (0, .ref (A 0)), (1, .long vw)]) hx hb dX11_appendName_39 hl (k := 1) rfl (by decide) (by decide) rfl (fun ls hl => ?_)
          refine lv_goto (tgt := 3) hx hb dX11_appendName_42 (by decide) ?_
          refine lv_iload_n hx hb dX11_appendName_3 rfl (lv_at hl 0 rfl) ?_
          refine lv_if_lt (tgt := 45) hx hb dX11_appendName_4 (by decide) (fun cc => absurd cc (by decide)) (fun _ => ?_)
          refine lv_lload_n hx hb dX11_appendName_7 rfl (lv_at hl 3 rfl) ?_
          refine lv_iload_n hx hb dX11_appendName_8 rfl (lv_at hl 0 rfl) ?_
          refine lv_iconst (v := 5) hx hb dX11_appendName_9 (by decide) ?_
          refine lv_imul hx hb dX11_appendName_10 ?_
          refine zz_top (v := 10) (by decide) ?_
          refine lv_lushr hx hb dX11_appendName_11 rfl ?_
          refine lv_topl (fun z681 ez681 => ?_)
          clear ez681
          refine lv_l2i hx hb dX11_appendName_12 rfl ?_
          refine lv_topi (fun z682 ez682 => ?_)
          clear ez682
          refine lv_bipush (v := 31) hx hb dX11_appendName_13 (by decide) ?_
          refine lv_iand hx hb dX11_appendName_15 ?_
          refine lv_topi (fun z683 ez683 => ?_)
          clear ez683
          refine lv_istore (lv' := [(4, .int z683), (3, .int 2), (0, .ref (A 0)), (1, .long vw)]) hx hb dX11_appendName_16 hl (by decide) rfl (fun ls hl => ?_)
          refine lv_iload hx hb dX11_appendName_18 (lv_at hl 0 rfl) ?_
          refine lv_if_eq (tgt := 39) hx hb dX11_appendName_20 (by decide) (fun c149 => ?_) (fun c149 => ?_)
          · refine lv_iinc (v := 1) (lv' := [(3, .int 1), (4, .int z683), (0, .ref (A 0)), (1, .long vw)]) hx hb dX11_appendName_39 hl (k := 1) rfl (by decide) (by decide) rfl (fun ls hl => ?_)
            refine lv_goto (tgt := 3) hx hb dX11_appendName_42 (by decide) ?_
            refine lv_iload_n hx hb dX11_appendName_3 rfl (lv_at hl 0 rfl) ?_
            refine lv_if_lt (tgt := 45) hx hb dX11_appendName_4 (by decide) (fun cc => absurd cc (by decide)) (fun _ => ?_)
            refine lv_lload_n hx hb dX11_appendName_7 rfl (lv_at hl 3 rfl) ?_
            refine lv_iload_n hx hb dX11_appendName_8 rfl (lv_at hl 0 rfl) ?_
            refine lv_iconst (v := 5) hx hb dX11_appendName_9 (by decide) ?_
            refine lv_imul hx hb dX11_appendName_10 ?_
            refine zz_top (v := 5) (by decide) ?_
            refine lv_lushr hx hb dX11_appendName_11 rfl ?_
            refine lv_topl (fun z684 ez684 => ?_)
            clear ez684
            refine lv_l2i hx hb dX11_appendName_12 rfl ?_
            refine lv_topi (fun z685 ez685 => ?_)
            clear ez685
            refine lv_bipush (v := 31) hx hb dX11_appendName_13 (by decide) ?_
            refine lv_iand hx hb dX11_appendName_15 ?_
            refine lv_topi (fun z686 ez686 => ?_)
            clear ez686
            refine lv_istore (lv' := [(4, .int z686), (3, .int 1), (0, .ref (A 0)), (1, .long vw)]) hx hb dX11_appendName_16 hl (by decide) rfl (fun ls hl => ?_)
            refine lv_iload hx hb dX11_appendName_18 (lv_at hl 0 rfl) ?_
            refine lv_if_eq (tgt := 39) hx hb dX11_appendName_20 (by decide) (fun c151 => ?_) (fun c151 => ?_)
            · refine lv_iinc (v := 0) (lv' := [(3, .int 0), (4, .int z686), (0, .ref (A 0)), (1, .long vw)]) hx hb dX11_appendName_39 hl (k := 1) rfl (by decide) (by decide) rfl (fun ls hl => ?_)
              refine lv_goto (tgt := 3) hx hb dX11_appendName_42 (by decide) ?_
              refine lv_iload_n hx hb dX11_appendName_3 rfl (lv_at hl 0 rfl) ?_
              refine lv_if_lt (tgt := 45) hx hb dX11_appendName_4 (by decide) (fun cc => absurd cc (by decide)) (fun _ => ?_)
              refine lv_lload_n hx hb dX11_appendName_7 rfl (lv_at hl 3 rfl) ?_
              refine lv_iload_n hx hb dX11_appendName_8 rfl (lv_at hl 0 rfl) ?_
              refine lv_iconst (v := 5) hx hb dX11_appendName_9 (by decide) ?_
              refine lv_imul hx hb dX11_appendName_10 ?_
              refine zz_top (v := 0) (by decide) ?_
              refine lv_lushr hx hb dX11_appendName_11 rfl ?_
              refine lv_topl (fun z687 ez687 => ?_)
              clear ez687
              refine lv_l2i hx hb dX11_appendName_12 rfl ?_
              refine lv_topi (fun z688 ez688 => ?_)
              clear ez688
              refine lv_bipush (v := 31) hx hb dX11_appendName_13 (by decide) ?_
              refine lv_iand hx hb dX11_appendName_15 ?_
              refine lv_topi (fun z689 ez689 => ?_)
              clear ez689
              refine lv_istore (lv' := [(4, .int z689), (3, .int 0), (0, .ref (A 0)), (1, .long vw)]) hx hb dX11_appendName_16 hl (by decide) rfl (fun ls hl => ?_)
              refine lv_iload hx hb dX11_appendName_18 (lv_at hl 0 rfl) ?_
              refine lv_if_eq (tgt := 39) hx hb dX11_appendName_20 (by decide) (fun c153 => ?_) (fun c153 => ?_)
              · refine lv_iinc (v := (-1)) (lv' := [(3, .int (-1)), (4, .int z689), (0, .ref (A 0)), (1, .long vw)]) hx hb dX11_appendName_39 hl (k := 1) rfl (by decide) (by decide) rfl (fun ls hl => ?_)
                refine lv_goto (tgt := 3) hx hb dX11_appendName_42 (by decide) ?_
                refine lv_iload_n hx hb dX11_appendName_3 rfl (lv_at hl 0 rfl) ?_
                refine lv_if_lt (tgt := 45) hx hb dX11_appendName_4 (by decide) (fun _ => ?_) (fun cc => absurd (by decide) cc)
                exact W.vret hx hb hr (fun t ht hW => ⟨⟨(st677, sl5, so), rfl, ⟨hG, rfl, ⟨((g6 + 1) + 1), by show st677 18 1 = 0; rw [hst677a], by show st677 18 3 = _; rw [hst677b], by omega, hfit⟩⟩, xB.of ht hP⟩, hS.F ht⟩) hS.2.2 dX11_appendName_45
              · refine lv_aload_n hx hb dX11_appendName_23 rfl (lv_at hl 2 rfl) ?_
                refine va_get (D := (dC, dI)) (ci := 10) (v := .ref (A 18)) (C := RX11) (T := TX11) (N := 19) hx hb hts ii_X11_appendName_X11 hown hK hP 0 (xw_is (r := 0) (by omega) (xc_fix (r := 0) (by omega))) rfl 14 (by decide) (hts _ mm_X11_appendName_1) (fun _ hh => hh) rfl dX11_appendName_24 ?_
                refine lv_bipush (v := 97) hx hb dX11_appendName_27 (by decide) ?_
                refine lv_iload hx hb dX11_appendName_29 (lv_at hl 0 rfl) ?_
                refine lv_iadd hx hb dX11_appendName_31 ?_
                refine lv_topi (fun z690 ez690 => ?_)
                clear ez690
                refine lv_iconst (v := 1) hx hb dX11_appendName_32 (by decide) ?_
                refine lv_isub hx hb dX11_appendName_33 ?_
                refine lv_topi (fun z691 ez691 => ?_)
                clear ez691
                refine lv_i2c hx hb dX11_appendName_34 rfl ?_
                refine lv_topi (fun z692 ez692 => ?_)
                clear ez692
                have hPs := xsub (cn := ((g6 + 1) + 1)) hP (by rw [hst677a]) (by rw [hst677b])
                have hKs := xKsub hK
                have hns : A 18 ≠ A 19 := fun h9 => absurd (hN 18 19 (by omega) (by omega) h9) (by decide)
                have hS0 := hS
                refine va_callr (va_runV (As := [.int z692]) (rest := []) ⟨hx, hb, hml, hown, hts⟩ (s_J4_append_cf468 l dC dI ad E hEE (A 18) (A 19) (C 19) nb (st677 19) (st677 18 2) ((g6 + 1) + 1) _ z692 hns hfit (by omega) (by omega) (by omega) (by omega)) (cwV 1 hts gX11_appendName_J4_append_cf468 rfl rfl rfl (by decide +kernel) ⟨Nat.le_of_ble_eq_true rfl, Nat.le_of_ble_eq_true rfl⟩) ⟨fun a U g mk q => ⟨q.1, sPre.blind hEE q.2⟩, va_recv hKs hPs (ci := 0) (q0 := 0) rfl rfl, fun U hU hW => ⟨rfl, sPre.of hEE hPs hKs hE hS (hBR.sa _ hS.1) hU hW⟩⟩ rfl rfl hl.1 rfl (lv_room (Nat.le_of_ble_eq_true rfl)) dX11_appendName_35 ⟨Nat.le_of_ble_eq_true rfl, Nat.le_of_ble_eq_true rfl⟩) hS (fun q _ h => hBR.sa _ hS.1 q h) (hBR.sa _ hS.1) (fun x r693 t H5 locs ht hvm hw hB hz hk hS => ?_)
                obtain ⟨hw, hr9, hB⟩ := hB
                subst hr9
                obtain ⟨hPt, hK2, hne2, hv2, hF2⟩ := hB
                rw [ht] at hPt
                have hK2 := va_K.moved hvm.symm hK2
                obtain ⟨v694, cB695, nb696, f697, ml698, cn699⟩ := x
                dsimp only at hPt hK2 hne2 hv2 hF2 hw
                obtain ⟨rfl, rfl, rfl, rfl, hw⟩ := hw
                have hj := xjoin hN hP hK hBR hS0.1 hPt hK2 hk hne2 hv2
                rw [A19_self, C19_self] at hj
                obtain ⟨st700, est700⟩ : ∃ y, y = st19 st677 f697 ml698 (nI (((g6 + 1) + 1) + 1)) := ⟨_, rfl⟩
                rw [← est700] at hj
                have hst700a : st700 18 1 = 0 := by rw [est700]; rfl
                have hst700b : st700 18 3 = (nI (((g6 + 1) + 1) + 1)) := by rw [est700]; rfl
                have hfit : sb_Fit (st700 19) := by rw [est700]; exact hF2
                have hGst700 : XG [1, 2, 3, 4, 5, 6, 7, 8, 9, 10, 11, 12] st677 st700 := by rw [est700]; exact xg19 (XG.rf hG.1) (by decide) _ _ _
                have hG : XG [1, 2, 3, 4, 5, 6, 7, 8, 9, 10, 11, 12] st st700 := by rw [est700]; exact xg19 hG (by decide) _ _ _
                clear hK2 hne2 hv2 hF2 ht hvm est700 hPs hKs hk hz
                obtain ⟨hP, hK, hN, hBR⟩ := hj
                clear hw
                refine lv_pop hx hb dX11_appendName_38 rfl ?_
                refine lv_iinc (v := (-1)) (lv' := [(3, .int (-1)), (4, .int z689), (0, .ref (A 0)), (1, .long vw)]) hx hb dX11_appendName_39 hl (k := 1) rfl (by decide) (by decide) rfl (fun ls hl => ?_)
                refine lv_goto (tgt := 3) hx hb dX11_appendName_42 (by decide) ?_
                refine lv_iload_n hx hb dX11_appendName_3 rfl (lv_at hl 0 rfl) ?_
                refine lv_if_lt (tgt := 45) hx hb dX11_appendName_4 (by decide) (fun _ => ?_) (fun cc => absurd (by decide) cc)
                exact W.vret hx hb hr (fun t ht hW => ⟨⟨(st700, sl5, so), rfl, ⟨hG, rfl, ⟨(((g6 + 1) + 1) + 1), by show st700 18 1 = 0; rw [hst700a], by show st700 18 3 = _; rw [hst700b], by omega, hfit⟩⟩, xB.of ht hP⟩, hS.F ht⟩) hS.2.2 dX11_appendName_45
            · refine lv_aload_n hx hb dX11_appendName_23 rfl (lv_at hl 2 rfl) ?_
              refine va_get (D := (dC, dI)) (ci := 10) (v := .ref (A 18)) (C := RX11) (T := TX11) (N := 19) hx hb hts ii_X11_appendName_X11 hown hK hP 0 (xw_is (r := 0) (by omega) (xc_fix (r := 0) (by omega))) rfl 14 (by decide) (hts _ mm_X11_appendName_1) (fun _ hh => hh) rfl dX11_appendName_24 ?_
              refine lv_bipush (v := 97) hx hb dX11_appendName_27 (by decide) ?_
              refine lv_iload hx hb dX11_appendName_29 (lv_at hl 0 rfl) ?_
              refine lv_iadd hx hb dX11_appendName_31 ?_
              refine lv_topi (fun z701 ez701 => ?_)
              clear ez701
              refine lv_iconst (v := 1) hx hb dX11_appendName_32 (by decide) ?_
              refine lv_isub hx hb dX11_appendName_33 ?_
              refine lv_topi (fun z702 ez702 => ?_)
              clear ez702
              refine lv_i2c hx hb dX11_appendName_34 rfl ?_
              refine lv_topi (fun z703 ez703 => ?_)
              clear ez703
              have hPs := xsub (cn := ((g6 + 1) + 1)) hP (by rw [hst677a]) (by rw [hst677b])
              have hKs := xKsub hK
              have hns : A 18 ≠ A 19 := fun h9 => absurd (hN 18 19 (by omega) (by omega) h9) (by decide)
              have hS0 := hS
              refine va_callr (va_runV (As := [.int z703]) (rest := []) ⟨hx, hb, hml, hown, hts⟩ (s_J4_append_cf468 l dC dI ad E hEE (A 18) (A 19) (C 19) nb (st677 19) (st677 18 2) ((g6 + 1) + 1) _ z703 hns hfit (by omega) (by omega) (by omega) (by omega)) (cwV 1 hts gX11_appendName_J4_append_cf468 rfl rfl rfl (by decide +kernel) ⟨Nat.le_of_ble_eq_true rfl, Nat.le_of_ble_eq_true rfl⟩) ⟨fun a U g mk q => ⟨q.1, sPre.blind hEE q.2⟩, va_recv hKs hPs (ci := 0) (q0 := 0) rfl rfl, fun U hU hW => ⟨rfl, sPre.of hEE hPs hKs hE hS (hBR.sa _ hS.1) hU hW⟩⟩ rfl rfl hl.1 rfl (lv_room (Nat.le_of_ble_eq_true rfl)) dX11_appendName_35 ⟨Nat.le_of_ble_eq_true rfl, Nat.le_of_ble_eq_true rfl⟩) hS (fun q _ h => hBR.sa _ hS.1 q h) (hBR.sa _ hS.1) (fun x r704 t H5 locs ht hvm hw hB hz hk hS => ?_)
              obtain ⟨hw, hr9, hB⟩ := hB
              subst hr9
              obtain ⟨hPt, hK2, hne2, hv2, hF2⟩ := hB
              rw [ht] at hPt
              have hK2 := va_K.moved hvm.symm hK2
              obtain ⟨v705, cB706, nb707, f708, ml709, cn710⟩ := x
              dsimp only at hPt hK2 hne2 hv2 hF2 hw
              obtain ⟨rfl, rfl, rfl, rfl, hw⟩ := hw
              have hj := xjoin hN hP hK hBR hS0.1 hPt hK2 hk hne2 hv2
              rw [A19_self, C19_self] at hj
              obtain ⟨st711, est711⟩ : ∃ y, y = st19 st677 f708 ml709 (nI (((g6 + 1) + 1) + 1)) := ⟨_, rfl⟩
              rw [← est711] at hj
              have hst711a : st711 18 1 = 0 := by rw [est711]; rfl
              have hst711b : st711 18 3 = (nI (((g6 + 1) + 1) + 1)) := by rw [est711]; rfl
              have hfit : sb_Fit (st711 19) := by rw [est711]; exact hF2
              have hGst711 : XG [1, 2, 3, 4, 5, 6, 7, 8, 9, 10, 11, 12] st677 st711 := by rw [est711]; exact xg19 (XG.rf hG.1) (by decide) _ _ _
              have hG : XG [1, 2, 3, 4, 5, 6, 7, 8, 9, 10, 11, 12] st st711 := by rw [est711]; exact xg19 hG (by decide) _ _ _
              clear hK2 hne2 hv2 hF2 ht hvm est711 hPs hKs hk hz
              obtain ⟨hP, hK, hN, hBR⟩ := hj
              clear hw
              refine lv_pop hx hb dX11_appendName_38 rfl ?_
              refine lv_iinc (v := 0) (lv' := [(3, .int 0), (4, .int z686), (0, .ref (A 0)), (1, .long vw)]) hx hb dX11_appendName_39 hl (k := 1) rfl (by decide) (by decide) rfl (fun ls hl => ?_)
              refine lv_goto (tgt := 3) hx hb dX11_appendName_42 (by decide) ?_
              refine lv_iload_n hx hb dX11_appendName_3 rfl (lv_at hl 0 rfl) ?_
              refine lv_if_lt (tgt := 45) hx hb dX11_appendName_4 (by decide) (fun cc => absurd cc (by decide)) (fun _ => ?_)
              refine lv_lload_n hx hb dX11_appendName_7 rfl (lv_at hl 3 rfl) ?_
              refine lv_iload_n hx hb dX11_appendName_8 rfl (lv_at hl 0 rfl) ?_
              refine lv_iconst (v := 5) hx hb dX11_appendName_9 (by decide) ?_
              refine lv_imul hx hb dX11_appendName_10 ?_
              refine zz_top (v := 0) (by decide) ?_
              refine lv_lushr hx hb dX11_appendName_11 rfl ?_
              refine lv_topl (fun z712 ez712 => ?_)
              clear ez712
              refine lv_l2i hx hb dX11_appendName_12 rfl ?_
              refine lv_topi (fun z713 ez713 => ?_)
              clear ez713
              refine lv_bipush (v := 31) hx hb dX11_appendName_13 (by decide) ?_
              refine lv_iand hx hb dX11_appendName_15 ?_
              refine lv_topi (fun z714 ez714 => ?_)
              clear ez714
              refine lv_istore (lv' := [(4, .int z714), (3, .int 0), (0, .ref (A 0)), (1, .long vw)]) hx hb dX11_appendName_16 hl (by decide) rfl (fun ls hl => ?_)
              refine lv_iload hx hb dX11_appendName_18 (lv_at hl 0 rfl) ?_
              refine lv_if_eq (tgt := 39) hx hb dX11_appendName_20 (by decide) (fun c157 => ?_) (fun c157 => ?_)
              · refine lv_iinc (v := (-1)) (lv' := [(3, .int (-1)), (4, .int z714), (0, .ref (A 0)), (1, .long vw)]) hx hb dX11_appendName_39 hl (k := 1) rfl (by decide) (by decide) rfl (fun ls hl => ?_)
                refine lv_goto (tgt := 3) hx hb dX11_appendName_42 (by decide) ?_
                refine lv_iload_n hx hb dX11_appendName_3 rfl (lv_at hl 0 rfl) ?_
                refine lv_if_lt (tgt := 45) hx hb dX11_appendName_4 (by decide) (fun _ => ?_) (fun cc => absurd (by decide) cc)
                exact W.vret hx hb hr (fun t ht hW => ⟨⟨(st711, sl5, so), rfl, ⟨hG, rfl, ⟨(((g6 + 1) + 1) + 1), by show st711 18 1 = 0; rw [hst711a], by show st711 18 3 = _; rw [hst711b], by omega, hfit⟩⟩, xB.of ht hP⟩, hS.F ht⟩) hS.2.2 dX11_appendName_45
              · refine lv_aload_n hx hb dX11_appendName_23 rfl (lv_at hl 2 rfl) ?_
                refine va_get (D := (dC, dI)) (ci := 10) (v := .ref (A 18)) (C := RX11) (T := TX11) (N := 19) hx hb hts ii_X11_appendName_X11 hown hK hP 0 (xw_is (r := 0) (by omega) (xc_fix (r := 0) (by omega))) rfl 14 (by decide) (hts _ mm_X11_appendName_1) (fun _ hh => hh) rfl dX11_appendName_24 ?_
                refine lv_bipush (v := 97) hx hb dX11_appendName_27 (by decide) ?_
                refine lv_iload hx hb dX11_appendName_29 (lv_at hl 0 rfl) ?_
                refine lv_iadd hx hb dX11_appendName_31 ?_
                refine lv_topi (fun z715 ez715 => ?_)
                clear ez715
                refine lv_iconst (v := 1) hx hb dX11_appendName_32 (by decide) ?_
                refine lv_isub hx hb dX11_appendName_33 ?_
                refine lv_topi (fun z716 ez716 => ?_)
                clear ez716
                refine lv_i2c hx hb dX11_appendName_34 rfl ?_
                refine lv_topi (fun z717 ez717 => ?_)
                clear ez717
                have hPs := xsub (cn := (((g6 + 1) + 1) + 1)) hP (by rw [hst711a]) (by rw [hst711b])
                have hKs := xKsub hK
                have hns : A 18 ≠ A 19 := fun h9 => absurd (hN 18 19 (by omega) (by omega) h9) (by decide)
                have hS0 := hS
                refine va_callr (va_runV (As := [.int z717]) (rest := []) ⟨hx, hb, hml, hown, hts⟩ (s_J4_append_cf468 l dC dI ad E hEE (A 18) (A 19) (C 19) nb (st711 19) (st711 18 2) (((g6 + 1) + 1) + 1) _ z717 hns hfit (by omega) (by omega) (by omega) (by omega)) (cwV 1 hts gX11_appendName_J4_append_cf468 rfl rfl rfl (by decide +kernel) ⟨Nat.le_of_ble_eq_true rfl, Nat.le_of_ble_eq_true rfl⟩) ⟨fun a U g mk q => ⟨q.1, sPre.blind hEE q.2⟩, va_recv hKs hPs (ci := 0) (q0 := 0) rfl rfl, fun U hU hW => ⟨rfl, sPre.of hEE hPs hKs hE hS (hBR.sa _ hS.1) hU hW⟩⟩ rfl rfl hl.1 rfl (lv_room (Nat.le_of_ble_eq_true rfl)) dX11_appendName_35 ⟨Nat.le_of_ble_eq_true rfl, Nat.le_of_ble_eq_true rfl⟩) hS (fun q _ h => hBR.sa _ hS.1 q h) (hBR.sa _ hS.1) (fun x r718 t H5 locs ht hvm hw hB hz hk hS => ?_)
                obtain ⟨hw, hr9, hB⟩ := hB
                subst hr9
                obtain ⟨hPt, hK2, hne2, hv2, hF2⟩ := hB
                rw [ht] at hPt
                have hK2 := va_K.moved hvm.symm hK2
                obtain ⟨v719, cB720, nb721, f722, ml723, cn724⟩ := x
                dsimp only at hPt hK2 hne2 hv2 hF2 hw
                obtain ⟨rfl, rfl, rfl, rfl, hw⟩ := hw
                have hj := xjoin hN hP hK hBR hS0.1 hPt hK2 hk hne2 hv2
                rw [A19_self, C19_self] at hj
                obtain ⟨st725, est725⟩ : ∃ y, y = st19 st711 f722 ml723 (nI ((((g6 + 1) + 1) + 1) + 1)) := ⟨_, rfl⟩
                rw [← est725] at hj
                have hst725a : st725 18 1 = 0 := by rw [est725]; rfl
                have hst725b : st725 18 3 = (nI ((((g6 + 1) + 1) + 1) + 1)) := by rw [est725]; rfl
                have hfit : sb_Fit (st725 19) := by rw [est725]; exact hF2
                have hGst725 : XG [1, 2, 3, 4, 5, 6, 7, 8, 9, 10, 11, 12] st711 st725 := by rw [est725]; exact xg19 (XG.rf hG.1) (by decide) _ _ _
                have hG : XG [1, 2, 3, 4, 5, 6, 7, 8, 9, 10, 11, 12] st st725 := by rw [est725]; exact xg19 hG (by decide) _ _ _
                clear hK2 hne2 hv2 hF2 ht hvm est725 hPs hKs hk hz
                obtain ⟨hP, hK, hN, hBR⟩ := hj
                clear hw
                refine lv_pop hx hb dX11_appendName_38 rfl ?_
                refine lv_iinc (v := (-1)) (lv' := [(3, .int (-1)), (4, .int z714), (0, .ref (A 0)), (1, .long vw)]) hx hb dX11_appendName_39 hl (k := 1) rfl (by decide) (by decide) rfl (fun ls hl => ?_)
                refine lv_goto (tgt := 3) hx hb dX11_appendName_42 (by decide) ?_
                refine lv_iload_n hx hb dX11_appendName_3 rfl (lv_at hl 0 rfl) ?_
                refine lv_if_lt (tgt := 45) hx hb dX11_appendName_4 (by decide) (fun _ => ?_) (fun cc => absurd (by decide) cc)
                exact W.vret hx hb hr (fun t ht hW => ⟨⟨(st725, sl5, so), rfl, ⟨hG, rfl, ⟨((((g6 + 1) + 1) + 1) + 1), by show st725 18 1 = 0; rw [hst725a], by show st725 18 3 = _; rw [hst725b], by omega, hfit⟩⟩, xB.of ht hP⟩, hS.F ht⟩) hS.2.2 dX11_appendName_45
          · refine lv_aload_n hx hb dX11_appendName_23 rfl (lv_at hl 2 rfl) ?_
            refine va_get (D := (dC, dI)) (ci := 10) (v := .ref (A 18)) (C := RX11) (T := TX11) (N := 19) hx hb hts ii_X11_appendName_X11 hown hK hP 0 (xw_is (r := 0) (by omega) (xc_fix (r := 0) (by omega))) rfl 14 (by decide) (hts _ mm_X11_appendName_1) (fun _ hh => hh) rfl dX11_appendName_24 ?_
            refine lv_bipush (v := 97) hx hb dX11_appendName_27 (by decide) ?_
            refine lv_iload hx hb dX11_appendName_29 (lv_at hl 0 rfl) ?_
            refine lv_iadd hx hb dX11_appendName_31 ?_
            refine lv_topi (fun z726 ez726 => ?_)
            clear ez726
            refine lv_iconst (v := 1) hx hb dX11_appendName_32 (by decide) ?_
            refine lv_isub hx hb dX11_appendName_33 ?_
            refine lv_topi (fun z727 ez727 => ?_)
            clear ez727
            refine lv_i2c hx hb dX11_appendName_34 rfl ?_
            refine lv_topi (fun z728 ez728 => ?_)
            clear ez728
            have hPs := xsub (cn := ((g6 + 1) + 1)) hP (by rw [hst677a]) (by rw [hst677b])
            have hKs := xKsub hK
            have hns : A 18 ≠ A 19 := fun h9 => absurd (hN 18 19 (by omega) (by omega) h9) (by decide)
            have hS0 := hS
            refine va_callr (va_runV (As := [.int z728]) (rest := []) ⟨hx, hb, hml, hown, hts⟩ (s_J4_append_cf468 l dC dI ad E hEE (A 18) (A 19) (C 19) nb (st677 19) (st677 18 2) ((g6 + 1) + 1) _ z728 hns hfit (by omega) (by omega) (by omega) (by omega)) (cwV 1 hts gX11_appendName_J4_append_cf468 rfl rfl rfl (by decide +kernel) ⟨Nat.le_of_ble_eq_true rfl, Nat.le_of_ble_eq_true rfl⟩) ⟨fun a U g mk q => ⟨q.1, sPre.blind hEE q.2⟩, va_recv hKs hPs (ci := 0) (q0 := 0) rfl rfl, fun U hU hW => ⟨rfl, sPre.of hEE hPs hKs hE hS (hBR.sa _ hS.1) hU hW⟩⟩ rfl rfl hl.1 rfl (lv_room (Nat.le_of_ble_eq_true rfl)) dX11_appendName_35 ⟨Nat.le_of_ble_eq_true rfl, Nat.le_of_ble_eq_true rfl⟩) hS (fun q _ h => hBR.sa _ hS.1 q h) (hBR.sa _ hS.1) (fun x r729 t H5 locs ht hvm hw hB hz hk hS => ?_)
            obtain ⟨hw, hr9, hB⟩ := hB
            subst hr9
            obtain ⟨hPt, hK2, hne2, hv2, hF2⟩ := hB
            rw [ht] at hPt
            have hK2 := va_K.moved hvm.symm hK2
            obtain ⟨v730, cB731, nb732, f733, ml734, cn735⟩ := x
            dsimp only at hPt hK2 hne2 hv2 hF2 hw
            obtain ⟨rfl, rfl, rfl, rfl, hw⟩ := hw
            have hj := xjoin hN hP hK hBR hS0.1 hPt hK2 hk hne2 hv2
            rw [A19_self, C19_self] at hj
            obtain ⟨st736, est736⟩ : ∃ y, y = st19 st677 f733 ml734 (nI (((g6 + 1) + 1) + 1)) := ⟨_, rfl⟩
            rw [← est736] at hj
            have hst736a : st736 18 1 = 0 := by rw [est736]; rfl
            have hst736b : st736 18 3 = (nI (((g6 + 1) + 1) + 1)) := by rw [est736]; rfl
            have hfit : sb_Fit (st736 19) := by rw [est736]; exact hF2
            have hGst736 : XG [1, 2, 3, 4, 5, 6, 7, 8, 9, 10, 11, 12] st677 st736 := by rw [est736]; exact xg19 (XG.rf hG.1) (by decide) _ _ _
            have hG : XG [1, 2, 3, 4, 5, 6, 7, 8, 9, 10, 11, 12] st st736 := by rw [est736]; exact xg19 hG (by decide) _ _ _
            clear hK2 hne2 hv2 hF2 ht hvm est736 hPs hKs hk hz
            obtain ⟨hP, hK, hN, hBR⟩ := hj
            clear hw
            refine lv_pop hx hb dX11_appendName_38 rfl ?_
            refine lv_iinc (v := 1) (lv' := [(3, .int 1), (4, .int z683), (0, .ref (A 0)), (1, .long vw)]) hx hb dX11_appendName_39 hl (k := 1) rfl (by decide) (by decide) rfl (fun ls hl => ?_)
            refine lv_goto (tgt := 3) hx hb dX11_appendName_42 (by decide) ?_
            refine lv_iload_n hx hb dX11_appendName_3 rfl (lv_at hl 0 rfl) ?_
            refine lv_if_lt (tgt := 45) hx hb dX11_appendName_4 (by decide) (fun cc => absurd cc (by decide)) (fun _ => ?_)
            refine lv_lload_n hx hb dX11_appendName_7 rfl (lv_at hl 3 rfl) ?_
            refine lv_iload_n hx hb dX11_appendName_8 rfl (lv_at hl 0 rfl) ?_
            refine lv_iconst (v := 5) hx hb dX11_appendName_9 (by decide) ?_
            refine lv_imul hx hb dX11_appendName_10 ?_
            refine zz_top (v := 5) (by decide) ?_
            refine lv_lushr hx hb dX11_appendName_11 rfl ?_
            refine lv_topl (fun z737 ez737 => ?_)
            clear ez737
            refine lv_l2i hx hb dX11_appendName_12 rfl ?_
            refine lv_topi (fun z738 ez738 => ?_)
            clear ez738
            refine lv_bipush (v := 31) hx hb dX11_appendName_13 (by decide) ?_
            refine lv_iand hx hb dX11_appendName_15 ?_
            refine lv_topi (fun z739 ez739 => ?_)
            clear ez739
            refine lv_istore (lv' := [(4, .int z739), (3, .int 1), (0, .ref (A 0)), (1, .long vw)]) hx hb dX11_appendName_16 hl (by decide) rfl (fun ls hl => ?_)
            refine lv_iload hx hb dX11_appendName_18 (lv_at hl 0 rfl) ?_
            refine lv_if_eq (tgt := 39) hx hb dX11_appendName_20 (by decide) (fun c161 => ?_) (fun c161 => ?_)
            · refine lv_iinc (v := 0) (lv' := [(3, .int 0), (4, .int z739), (0, .ref (A 0)), (1, .long vw)]) hx hb dX11_appendName_39 hl (k := 1) rfl (by decide) (by decide) rfl (fun ls hl => ?_)
              refine lv_goto (tgt := 3) hx hb dX11_appendName_42 (by decide) ?_
              refine lv_iload_n hx hb dX11_appendName_3 rfl (lv_at hl 0 rfl) ?_
              refine lv_if_lt (tgt := 45) hx hb dX11_appendName_4 (by decide) (fun cc => absurd cc (by decide)) (fun _ => ?_)
              refine lv_lload_n hx hb dX11_appendName_7 rfl (lv_at hl 3 rfl) ?_
              refine lv_iload_n hx hb dX11_appendName_8 rfl (lv_at hl 0 rfl) ?_
              refine lv_iconst (v := 5) hx hb dX11_appendName_9 (by decide) ?_
              refine lv_imul hx hb dX11_appendName_10 ?_
              refine zz_top (v := 0) (by decide) ?_
              refine lv_lushr hx hb dX11_appendName_11 rfl ?_
              refine lv_topl (fun z740 ez740 => ?_)
              clear ez740
              refine lv_l2i hx hb dX11_appendName_12 rfl ?_
              refine lv_topi (fun z741 ez741 => ?_)
              clear ez741
              refine lv_bipush (v := 31) hx hb dX11_appendName_13 (by decide) ?_
              refine lv_iand hx hb dX11_appendName_15 ?_
              refine lv_topi (fun z742 ez742 => ?_)
              clear ez742
              refine lv_istore (lv' := [(4, .int z742), (3, .int 0), (0, .ref (A 0)), (1, .long vw)]) hx hb dX11_appendName_16 hl (by decide) rfl (fun ls hl => ?_)
              refine lv_iload hx hb dX11_appendName_18 (lv_at hl 0 rfl) ?_
              refine lv_if_eq (tgt := 39) hx hb dX11_appendName_20 (by decide) (fun c163 => ?_) (fun c163 => ?_)
              · refine lv_iinc (v := (-1)) (lv' := [(3, .int (-1)), (4, .int z742), (0, .ref (A 0)), (1, .long vw)]) hx hb dX11_appendName_39 hl (k := 1) rfl (by decide) (by decide) rfl (fun ls hl => ?_)
                refine lv_goto (tgt := 3) hx hb dX11_appendName_42 (by decide) ?_
                refine lv_iload_n hx hb dX11_appendName_3 rfl (lv_at hl 0 rfl) ?_
                refine lv_if_lt (tgt := 45) hx hb dX11_appendName_4 (by decide) (fun _ => ?_) (fun cc => absurd (by decide) cc)
                exact W.vret hx hb hr (fun t ht hW => ⟨⟨(st736, sl5, so), rfl, ⟨hG, rfl, ⟨(((g6 + 1) + 1) + 1), by show st736 18 1 = 0; rw [hst736a], by show st736 18 3 = _; rw [hst736b], by omega, hfit⟩⟩, xB.of ht hP⟩, hS.F ht⟩) hS.2.2 dX11_appendName_45
              · refine lv_aload_n hx hb dX11_appendName_23 rfl (lv_at hl 2 rfl) ?_
                refine va_get (D := (dC, dI)) (ci := 10) (v := .ref (A 18)) (C := RX11) (T := TX11) (N := 19) hx hb hts ii_X11_appendName_X11 hown hK hP 0 (xw_is (r := 0) (by omega) (xc_fix (r := 0) (by omega))) rfl 14 (by decide) (hts _ mm_X11_appendName_1) (fun _ hh => hh) rfl dX11_appendName_24 ?_
                refine lv_bipush (v := 97) hx hb dX11_appendName_27 (by decide) ?_
                refine lv_iload hx hb dX11_appendName_29 (lv_at hl 0 rfl) ?_
                refine lv_iadd hx hb dX11_appendName_31 ?_
                refine lv_topi (fun z743 ez743 => ?_)
                clear ez743
                refine lv_iconst (v := 1) hx hb dX11_appendName_32 (by decide) ?_
                refine lv_isub hx hb dX11_appendName_33 ?_
                refine lv_topi (fun z744 ez744 => ?_)
                clear ez744
                refine lv_i2c hx hb dX11_appendName_34 rfl ?_
                refine lv_topi (fun z745 ez745 => ?_)
                clear ez745
                have hPs := xsub (cn := (((g6 + 1) + 1) + 1)) hP (by rw [hst736a]) (by rw [hst736b])
                have hKs := xKsub hK
                have hns : A 18 ≠ A 19 := fun h9 => absurd (hN 18 19 (by omega) (by omega) h9) (by decide)
                have hS0 := hS
                refine va_callr (va_runV (As := [.int z745]) (rest := []) ⟨hx, hb, hml, hown, hts⟩ (s_J4_append_cf468 l dC dI ad E hEE (A 18) (A 19) (C 19) nb (st736 19) (st736 18 2) (((g6 + 1) + 1) + 1) _ z745 hns hfit (by omega) (by omega) (by omega) (by omega)) (cwV 1 hts gX11_appendName_J4_append_cf468 rfl rfl rfl (by decide +kernel) ⟨Nat.le_of_ble_eq_true rfl, Nat.le_of_ble_eq_true rfl⟩) ⟨fun a U g mk q => ⟨q.1, sPre.blind hEE q.2⟩, va_recv hKs hPs (ci := 0) (q0 := 0) rfl rfl, fun U hU hW => ⟨rfl, sPre.of hEE hPs hKs hE hS (hBR.sa _ hS.1) hU hW⟩⟩ rfl rfl hl.1 rfl (lv_room (Nat.le_of_ble_eq_true rfl)) dX11_appendName_35 ⟨Nat.le_of_ble_eq_true rfl, Nat.le_of_ble_eq_true rfl⟩) hS (fun q _ h => hBR.sa _ hS.1 q h) (hBR.sa _ hS.1) (fun x r746 t H5 locs ht hvm hw hB hz hk hS => ?_)
                obtain ⟨hw, hr9, hB⟩ := hB
                subst hr9
                obtain ⟨hPt, hK2, hne2, hv2, hF2⟩ := hB
                rw [ht] at hPt
                have hK2 := va_K.moved hvm.symm hK2
                obtain ⟨v747, cB748, nb749, f750, ml751, cn752⟩ := x
                dsimp only at hPt hK2 hne2 hv2 hF2 hw
                obtain ⟨rfl, rfl, rfl, rfl, hw⟩ := hw
                have hj := xjoin hN hP hK hBR hS0.1 hPt hK2 hk hne2 hv2
                rw [A19_self, C19_self] at hj
                obtain ⟨st753, est753⟩ : ∃ y, y = st19 st736 f750 ml751 (nI ((((g6 + 1) + 1) + 1) + 1)) := ⟨_, rfl⟩
                rw [← est753] at hj
                have hst753a : st753 18 1 = 0 := by rw [est753]; rfl
                have hst753b : st753 18 3 = (nI ((((g6 + 1) + 1) + 1) + 1)) := by rw [est753]; rfl
                have hfit : sb_Fit (st753 19) := by rw [est753]; exact hF2
                have hGst753 : XG [1, 2, 3, 4, 5, 6, 7, 8, 9, 10, 11, 12] st736 st753 := by rw [est753]; exact xg19 (XG.rf hG.1) (by decide) _ _ _
                have hG : XG [1, 2, 3, 4, 5, 6, 7, 8, 9, 10, 11, 12] st st753 := by rw [est753]; exact xg19 hG (by decide) _ _ _
                clear hK2 hne2 hv2 hF2 ht hvm est753 hPs hKs hk hz
                obtain ⟨hP, hK, hN, hBR⟩ := hj
                clear hw
                refine lv_pop hx hb dX11_appendName_38 rfl ?_
                refine lv_iinc (v := (-1)) (lv' := [(3, .int (-1)), (4, .int z742), (0, .ref (A 0)), (1, .long vw)]) hx hb dX11_appendName_39 hl (k := 1) rfl (by decide) (by decide) rfl (fun ls hl => ?_)
                refine lv_goto (tgt := 3) hx hb dX11_appendName_42 (by decide) ?_
                refine lv_iload_n hx hb dX11_appendName_3 rfl (lv_at hl 0 rfl) ?_
                refine lv_if_lt (tgt := 45) hx hb dX11_appendName_4 (by decide) (fun _ => ?_) (fun cc => absurd (by decide) cc)
                exact W.vret hx hb hr (fun t ht hW => ⟨⟨(st753, sl5, so), rfl, ⟨hG, rfl, ⟨((((g6 + 1) + 1) + 1) + 1), by show st753 18 1 = 0; rw [hst753a], by show st753 18 3 = _; rw [hst753b], by omega, hfit⟩⟩, xB.of ht hP⟩, hS.F ht⟩) hS.2.2 dX11_appendName_45
            · refine lv_aload_n hx hb dX11_appendName_23 rfl (lv_at hl 2 rfl) ?_
              refine va_get (D := (dC, dI)) (ci := 10) (v := .ref (A 18)) (C := RX11) (T := TX11) (N := 19) hx hb hts ii_X11_appendName_X11 hown hK hP 0 (xw_is (r := 0) (by omega) (xc_fix (r := 0) (by omega))) rfl 14 (by decide) (hts _ mm_X11_appendName_1) (fun _ hh => hh) rfl dX11_appendName_24 ?_
              refine lv_bipush (v := 97) hx hb dX11_appendName_27 (by decide) ?_
              refine lv_iload hx hb dX11_appendName_29 (lv_at hl 0 rfl) ?_
              refine lv_iadd hx hb dX11_appendName_31 ?_
              refine lv_topi (fun z754 ez754 => ?_)
              clear ez754
              refine lv_iconst (v := 1) hx hb dX11_appendName_32 (by decide) ?_
              refine lv_isub hx hb dX11_appendName_33 ?_
              refine lv_topi (fun z755 ez755 => ?_)
              clear ez755
              refine lv_i2c hx hb dX11_appendName_34 rfl ?_
              refine lv_topi (fun z756 ez756 => ?_)
              clear ez756
              have hPs := xsub (cn := (((g6 + 1) + 1) + 1)) hP (by rw [hst736a]) (by rw [hst736b])
              have hKs := xKsub hK
              have hns : A 18 ≠ A 19 := fun h9 => absurd (hN 18 19 (by omega) (by omega) h9) (by decide)
              have hS0 := hS
              refine va_callr (va_runV (As := [.int z756]) (rest := []) ⟨hx, hb, hml, hown, hts⟩ (s_J4_append_cf468 l dC dI ad E hEE (A 18) (A 19) (C 19) nb (st736 19) (st736 18 2) (((g6 + 1) + 1) + 1) _ z756 hns hfit (by omega) (by omega) (by omega) (by omega)) (cwV 1 hts gX11_appendName_J4_append_cf468 rfl rfl rfl (by decide +kernel) ⟨Nat.le_of_ble_eq_true rfl, Nat.le_of_ble_eq_true rfl⟩) ⟨fun a U g mk q => ⟨q.1, sPre.blind hEE q.2⟩, va_recv hKs hPs (ci := 0) (q0 := 0) rfl rfl, fun U hU hW => ⟨rfl, sPre.of hEE hPs hKs hE hS (hBR.sa _ hS.1) hU hW⟩⟩ rfl rfl hl.1 rfl (lv_room (Nat.le_of_ble_eq_true rfl)) dX11_appendName_35 ⟨Nat.le_of_ble_eq_true rfl, Nat.le_of_ble_eq_true rfl⟩) hS (fun q _ h => hBR.sa _ hS.1 q h) (hBR.sa _ hS.1) (fun x r757 t H5 locs ht hvm hw hB hz hk hS => ?_)
              obtain ⟨hw, hr9, hB⟩ := hB
              subst hr9
              obtain ⟨hPt, hK2, hne2, hv2, hF2⟩ := hB
              rw [ht] at hPt
              have hK2 := va_K.moved hvm.symm hK2
              obtain ⟨v758, cB759, nb760, f761, ml762, cn763⟩ := x
              dsimp only at hPt hK2 hne2 hv2 hF2 hw
              obtain ⟨rfl, rfl, rfl, rfl, hw⟩ := hw
              have hj := xjoin hN hP hK hBR hS0.1 hPt hK2 hk hne2 hv2
              rw [A19_self, C19_self] at hj
              obtain ⟨st764, est764⟩ : ∃ y, y = st19 st736 f761 ml762 (nI ((((g6 + 1) + 1) + 1) + 1)) := ⟨_, rfl⟩
              rw [← est764] at hj
              have hst764a : st764 18 1 = 0 := by rw [est764]; rfl
              have hst764b : st764 18 3 = (nI ((((g6 + 1) + 1) + 1) + 1)) := by rw [est764]; rfl
              have hfit : sb_Fit (st764 19) := by rw [est764]; exact hF2
              have hGst764 : XG [1, 2, 3, 4, 5, 6, 7, 8, 9, 10, 11, 12] st736 st764 := by rw [est764]; exact xg19 (XG.rf hG.1) (by decide) _ _ _
              have hG : XG [1, 2, 3, 4, 5, 6, 7, 8, 9, 10, 11, 12] st st764 := by rw [est764]; exact xg19 hG (by decide) _ _ _
              clear hK2 hne2 hv2 hF2 ht hvm est764 hPs hKs hk hz
              obtain ⟨hP, hK, hN, hBR⟩ := hj
              clear hw
              refine lv_pop hx hb dX11_appendName_38 rfl ?_
              refine lv_iinc (v := 0) (lv' := [(3, .int 0), (4, .int z739), (0, .ref (A 0)), (1, .long vw)]) hx hb dX11_appendName_39 hl (k := 1) rfl (by decide) (by decide) rfl (fun ls hl => ?_)
              refine lv_goto (tgt := 3) hx hb dX11_appendName_42 (by decide) ?_
              refine lv_iload_n hx hb dX11_appendName_3 rfl (lv_at hl 0 rfl) ?_
              refine lv_if_lt (tgt := 45) hx hb dX11_appendName_4 (by decide) (fun cc => absurd cc (by decide)) (fun _ => ?_)
              refine lv_lload_n hx hb dX11_appendName_7 rfl (lv_at hl 3 rfl) ?_
              refine lv_iload_n hx hb dX11_appendName_8 rfl (lv_at hl 0 rfl) ?_
              refine lv_iconst (v := 5) hx hb dX11_appendName_9 (by decide) ?_
              refine lv_imul hx hb dX11_appendName_10 ?_
              refine zz_top (v := 0) (by decide) ?_
              refine lv_lushr hx hb dX11_appendName_11 rfl ?_
              refine lv_topl (fun z765 ez765 => ?_)
              clear ez765
              refine lv_l2i hx hb dX11_appendName_12 rfl ?_
              refine lv_topi (fun z766 ez766 => ?_)
              clear ez766
              refine lv_bipush (v := 31) hx hb dX11_appendName_13 (by decide) ?_
              refine lv_iand hx hb dX11_appendName_15 ?_
              refine lv_topi (fun z767 ez767 => ?_)
              clear ez767
              refine lv_istore (lv' := [(4, .int z767), (3, .int 0), (0, .ref (A 0)), (1, .long vw)]) hx hb dX11_appendName_16 hl (by decide) rfl (fun ls hl => ?_)
              refine lv_iload hx hb dX11_appendName_18 (lv_at hl 0 rfl) ?_
              refine lv_if_eq (tgt := 39) hx hb dX11_appendName_20 (by decide) (fun c167 => ?_) (fun c167 => ?_)
              · refine lv_iinc (v := (-1)) (lv' := [(3, .int (-1)), (4, .int z767), (0, .ref (A 0)), (1, .long vw)]) hx hb dX11_appendName_39 hl (k := 1) rfl (by decide) (by decide) rfl (fun ls hl => ?_)
                refine lv_goto (tgt := 3) hx hb dX11_appendName_42 (by decide) ?_
                refine lv_iload_n hx hb dX11_appendName_3 rfl (lv_at hl 0 rfl) ?_
                refine lv_if_lt (tgt := 45) hx hb dX11_appendName_4 (by decide) (fun _ => ?_) (fun cc => absurd (by decide) cc)
                exact W.vret hx hb hr (fun t ht hW => ⟨⟨(st764, sl5, so), rfl, ⟨hG, rfl, ⟨((((g6 + 1) + 1) + 1) + 1), by show st764 18 1 = 0; rw [hst764a], by show st764 18 3 = _; rw [hst764b], by omega, hfit⟩⟩, xB.of ht hP⟩, hS.F ht⟩) hS.2.2 dX11_appendName_45
              · refine lv_aload_n hx hb dX11_appendName_23 rfl (lv_at hl 2 rfl) ?_
                refine va_get (D := (dC, dI)) (ci := 10) (v := .ref (A 18)) (C := RX11) (T := TX11) (N := 19) hx hb hts ii_X11_appendName_X11 hown hK hP 0 (xw_is (r := 0) (by omega) (xc_fix (r := 0) (by omega))) rfl 14 (by decide) (hts _ mm_X11_appendName_1) (fun _ hh => hh) rfl dX11_appendName_24 ?_
                refine lv_bipush (v := 97) hx hb dX11_appendName_27 (by decide) ?_
                refine lv_iload hx hb dX11_appendName_29 (lv_at hl 0 rfl) ?_
                refine lv_iadd hx hb dX11_appendName_31 ?_
                refine lv_topi (fun z768 ez768 => ?_)
                clear ez768
                refine lv_iconst (v := 1) hx hb dX11_appendName_32 (by decide) ?_
                refine lv_isub hx hb dX11_appendName_33 ?_
                refine lv_topi (fun z769 ez769 => ?_)
                clear ez769
                refine lv_i2c hx hb dX11_appendName_34 rfl ?_
                refine lv_topi (fun z770 ez770 => ?_)
                clear ez770
                have hPs := xsub (cn := ((((g6 + 1) + 1) + 1) + 1)) hP (by rw [hst764a]) (by rw [hst764b])
                have hKs := xKsub hK
                have hns : A 18 ≠ A 19 := fun h9 => absurd (hN 18 19 (by omega) (by omega) h9) (by decide)
                have hS0 := hS
                refine va_callr (va_runV (As := [.int z770]) (rest := []) ⟨hx, hb, hml, hown, hts⟩ (s_J4_append_cf468 l dC dI ad E hEE (A 18) (A 19) (C 19) nb (st764 19) (st764 18 2) ((((g6 + 1) + 1) + 1) + 1) _ z770 hns hfit (by omega) (by omega) (by omega) (by omega)) (cwV 1 hts gX11_appendName_J4_append_cf468 rfl rfl rfl (by decide +kernel) ⟨Nat.le_of_ble_eq_true rfl, Nat.le_of_ble_eq_true rfl⟩) ⟨fun a U g mk q => ⟨q.1, sPre.blind hEE q.2⟩, va_recv hKs hPs (ci := 0) (q0 := 0) rfl rfl, fun U hU hW => ⟨rfl, sPre.of hEE hPs hKs hE hS (hBR.sa _ hS.1) hU hW⟩⟩ rfl rfl hl.1 rfl (lv_room (Nat.le_of_ble_eq_true rfl)) dX11_appendName_35 ⟨Nat.le_of_ble_eq_true rfl, Nat.le_of_ble_eq_true rfl⟩) hS (fun q _ h => hBR.sa _ hS.1 q h) (hBR.sa _ hS.1) (fun x r771 t H5 locs ht hvm hw hB hz hk hS => ?_)
                obtain ⟨hw, hr9, hB⟩ := hB
                subst hr9
                obtain ⟨hPt, hK2, hne2, hv2, hF2⟩ := hB
                rw [ht] at hPt
                have hK2 := va_K.moved hvm.symm hK2
                obtain ⟨v772, cB773, nb774, f775, ml776, cn777⟩ := x
                dsimp only at hPt hK2 hne2 hv2 hF2 hw
                obtain ⟨rfl, rfl, rfl, rfl, hw⟩ := hw
                have hj := xjoin hN hP hK hBR hS0.1 hPt hK2 hk hne2 hv2
                rw [A19_self, C19_self] at hj
                obtain ⟨st778, est778⟩ : ∃ y, y = st19 st764 f775 ml776 (nI (((((g6 + 1) + 1) + 1) + 1) + 1)) := ⟨_, rfl⟩
                rw [← est778] at hj
                have hst778a : st778 18 1 = 0 := by rw [est778]; rfl
                have hst778b : st778 18 3 = (nI (((((g6 + 1) + 1) + 1) + 1) + 1)) := by rw [est778]; rfl
                have hfit : sb_Fit (st778 19) := by rw [est778]; exact hF2
                have hGst778 : XG [1, 2, 3, 4, 5, 6, 7, 8, 9, 10, 11, 12] st764 st778 := by rw [est778]; exact xg19 (XG.rf hG.1) (by decide) _ _ _
                have hG : XG [1, 2, 3, 4, 5, 6, 7, 8, 9, 10, 11, 12] st st778 := by rw [est778]; exact xg19 hG (by decide) _ _ _
                clear hK2 hne2 hv2 hF2 ht hvm est778 hPs hKs hk hz
                obtain ⟨hP, hK, hN, hBR⟩ := hj
                clear hw
                refine lv_pop hx hb dX11_appendName_38 rfl ?_
                refine lv_iinc (v := (-1)) (lv' := [(3, .int (-1)), (4, .int z767), (0, .ref (A 0)), (1, .long vw)]) hx hb dX11_appendName_39 hl (k := 1) rfl (by decide) (by decide) rfl (fun ls hl => ?_)
                refine lv_goto (tgt := 3) hx hb dX11_appendName_42 (by decide) ?_
                refine lv_iload_n hx hb dX11_appendName_3 rfl (lv_at hl 0 rfl) ?_
                refine lv_if_lt (tgt := 45) hx hb dX11_appendName_4 (by decide) (fun _ => ?_) (fun cc => absurd (by decide) cc)
                exact W.vret hx hb hr (fun t ht hW => ⟨⟨(st778, sl5, so), rfl, ⟨hG, rfl, ⟨(((((g6 + 1) + 1) + 1) + 1) + 1), by show st778 18 1 = 0; rw [hst778a], by show st778 18 3 = _; rw [hst778b], by omega, hfit⟩⟩, xB.of ht hP⟩, hS.F ht⟩) hS.2.2 dX11_appendName_45
        · refine lv_aload_n hx hb dX11_appendName_23 rfl (lv_at hl 2 rfl) ?_
          refine va_get (D := (dC, dI)) (ci := 10) (v := .ref (A 18)) (C := RX11) (T := TX11) (N := 19) hx hb hts ii_X11_appendName_X11 hown hK hP 0 (xw_is (r := 0) (by omega) (xc_fix (r := 0) (by omega))) rfl 14 (by decide) (hts _ mm_X11_appendName_1) (fun _ hh => hh) rfl dX11_appendName_24 ?_
          refine lv_bipush (v := 97) hx hb dX11_appendName_27 (by decide) ?_
          refine lv_iload hx hb dX11_appendName_29 (lv_at hl 0 rfl) ?_
          refine lv_iadd hx hb dX11_appendName_31 ?_
          refine lv_topi (fun z779 ez779 => ?_)
          clear ez779
          refine lv_iconst (v := 1) hx hb dX11_appendName_32 (by decide) ?_
          refine lv_isub hx hb dX11_appendName_33 ?_
          refine lv_topi (fun z780 ez780 => ?_)
          clear ez780
          refine lv_i2c hx hb dX11_appendName_34 rfl ?_
          refine lv_topi (fun z781 ez781 => ?_)
          clear ez781
          have hPs := xsub (cn := ((g6 + 1) + 1)) hP (by rw [hst677a]) (by rw [hst677b])
          have hKs := xKsub hK
          have hns : A 18 ≠ A 19 := fun h9 => absurd (hN 18 19 (by omega) (by omega) h9) (by decide)
          have hS0 := hS
          refine va_callr (va_runV (As := [.int z781]) (rest := []) ⟨hx, hb, hml, hown, hts⟩ (s_J4_append_cf468 l dC dI ad E hEE (A 18) (A 19) (C 19) nb (st677 19) (st677 18 2) ((g6 + 1) + 1) _ z781 hns hfit (by omega) (by omega) (by omega) (by omega)) (cwV 1 hts gX11_appendName_J4_append_cf468 rfl rfl rfl (by decide +kernel) ⟨Nat.le_of_ble_eq_true rfl, Nat.le_of_ble_eq_true rfl⟩) ⟨fun a U g mk q => ⟨q.1, sPre.blind hEE q.2⟩, va_recv hKs hPs (ci := 0) (q0 := 0) rfl rfl, fun U hU hW => ⟨rfl, sPre.of hEE hPs hKs hE hS (hBR.sa _ hS.1) hU hW⟩⟩ rfl rfl hl.1 rfl (lv_room (Nat.le_of_ble_eq_true rfl)) dX11_appendName_35 ⟨Nat.le_of_ble_eq_true rfl, Nat.le_of_ble_eq_true rfl⟩) hS (fun q _ h => hBR.sa _ hS.1 q h) (hBR.sa _ hS.1) (fun x r782 t H5 locs ht hvm hw hB hz hk hS => ?_)
          obtain ⟨hw, hr9, hB⟩ := hB
          subst hr9
          obtain ⟨hPt, hK2, hne2, hv2, hF2⟩ := hB
          rw [ht] at hPt
          have hK2 := va_K.moved hvm.symm hK2
          obtain ⟨v783, cB784, nb785, f786, ml787, cn788⟩ := x
          dsimp only at hPt hK2 hne2 hv2 hF2 hw
          obtain ⟨rfl, rfl, rfl, rfl, hw⟩ := hw
          have hj := xjoin hN hP hK hBR hS0.1 hPt hK2 hk hne2 hv2
          rw [A19_self, C19_self] at hj
          obtain ⟨st789, est789⟩ : ∃ y, y = st19 st677 f786 ml787 (nI (((g6 + 1) + 1) + 1)) := ⟨_, rfl⟩
          rw [← est789] at hj
          have hst789a : st789 18 1 = 0 := by rw [est789]; rfl
          have hst789b : st789 18 3 = (nI (((g6 + 1) + 1) + 1)) := by rw [est789]; rfl
          have hfit : sb_Fit (st789 19) := by rw [est789]; exact hF2
          have hGst789 : XG [1, 2, 3, 4, 5, 6, 7, 8, 9, 10, 11, 12] st677 st789 := by rw [est789]; exact xg19 (XG.rf hG.1) (by decide) _ _ _
          have hG : XG [1, 2, 3, 4, 5, 6, 7, 8, 9, 10, 11, 12] st st789 := by rw [est789]; exact xg19 hG (by decide) _ _ _
          clear hK2 hne2 hv2 hF2 ht hvm est789 hPs hKs hk hz
          obtain ⟨hP, hK, hN, hBR⟩ := hj
          clear hw
          refine lv_pop hx hb dX11_appendName_38 rfl ?_
          refine lv_iinc (v := 2) (lv' := [(3, .int 2), (4, .int z680), (0, .ref (A 0)), (1, .long vw)]) hx hb dX11_appendName_39 hl (k := 1) rfl (by decide) (by decide) rfl (fun ls hl => ?_)
          refine lv_goto (tgt := 3) hx hb dX11_appendName_42 (by decide) ?_
          refine lv_iload_n hx hb dX11_appendName_3 rfl (lv_at hl 0 rfl) ?_
          refine lv_if_lt (tgt := 45) hx hb dX11_appendName_4 (by decide) (fun cc => absurd cc (by decide)) (fun _ => ?_)
          refine lv_lload_n hx hb dX11_appendName_7 rfl (lv_at hl 3 rfl) ?_
          refine lv_iload_n hx hb dX11_appendName_8 rfl (lv_at hl 0 rfl) ?_
          refine lv_iconst (v := 5) hx hb dX11_appendName_9 (by decide) ?_
          refine lv_imul hx hb dX11_appendName_10 ?_
          refine zz_top (v := 10) (by decide) ?_
          refine lv_lushr hx hb dX11_appendName_11 rfl ?_
          refine lv_topl (fun z790 ez790 => ?_)
          clear ez790
          refine lv_l2i hx hb dX11_appendName_12 rfl ?_
          refine lv_topi (fun z791 ez791 => ?_)
          clear ez791
          refine lv_bipush (v := 31) hx hb dX11_appendName_13 (by decide) ?_
          refine lv_iand hx hb dX11_appendName_15 ?_
          refine lv_topi (fun z792 ez792 => ?_)
          clear ez792
          refine lv_istore (lv' := [(4, .int z792), (3, .int 2), (0, .ref (A 0)), (1, .long vw)]) hx hb dX11_appendName_16 hl (by decide) rfl (fun ls hl => ?_)
          refine lv_iload hx hb dX11_appendName_18 (lv_at hl 0 rfl) ?_
          refine lv_if_eq (tgt := 39) hx hb dX11_appendName_20 (by decide) (fun c171 => ?_) (fun c171 => ?_)
          · refine lv_iinc (v := 1) (lv' := [(3, .int 1), (4, .int z792), (0, .ref (A 0)), (1, .long vw)]) hx hb dX11_appendName_39 hl (k := 1) rfl (by decide) (by decide) rfl (fun ls hl => ?_)
            refine lv_goto (tgt := 3) hx hb dX11_appendName_42 (by decide) ?_
            refine lv_iload_n hx hb dX11_appendName_3 rfl (lv_at hl 0 rfl) ?_
            refine lv_if_lt (tgt := 45) hx hb dX11_appendName_4 (by decide) (fun cc => absurd cc (by decide)) (fun _ => ?_)
            refine lv_lload_n hx hb dX11_appendName_7 rfl (lv_at hl 3 rfl) ?_
            refine lv_iload_n hx hb dX11_appendName_8 rfl (lv_at hl 0 rfl) ?_
            refine lv_iconst (v := 5) hx hb dX11_appendName_9 (by decide) ?_
            refine lv_imul hx hb dX11_appendName_10 ?_
            refine zz_top (v := 5) (by decide) ?_
            refine lv_lushr hx hb dX11_appendName_11 rfl ?_
            refine lv_topl (fun z793 ez793 => ?_)
            clear ez793
            refine lv_l2i hx hb dX11_appendName_12 rfl ?_
            refine lv_topi (fun z794 ez794 => ?_)
            clear ez794
            refine lv_bipush (v := 31) hx hb dX11_appendName_13 (by decide) ?_
            refine lv_iand hx hb dX11_appendName_15 ?_
            refine lv_topi (fun z795 ez795 => ?_)
            clear ez795
            refine lv_istore (lv' := [(4, .int z795), (3, .int 1), (0, .ref (A 0)), (1, .long vw)]) hx hb dX11_appendName_16 hl (by decide) rfl (fun ls hl => ?_)
            refine lv_iload hx hb dX11_appendName_18 (lv_at hl 0 rfl) ?_
            refine lv_if_eq (tgt := 39) hx hb dX11_appendName_20 (by decide) (fun c173 => ?_) (fun c173 => ?_)
            · refine lv_iinc (v := 0) (lv' := [(3, .int 0), (4, .int z795), (0, .ref (A 0)), (1, .long vw)]) hx hb dX11_appendName_39 hl (k := 1) rfl (by decide) (by decide) rfl (fun ls hl => ?_)
              refine lv_goto (tgt := 3) hx hb dX11_appendName_42 (by decide) ?_
              refine lv_iload_n hx hb dX11_appendName_3 rfl (lv_at hl 0 rfl) ?_
              refine lv_if_lt (tgt := 45) hx hb dX11_appendName_4 (by decide) (fun cc => absurd cc (by decide)) (fun _ => ?_)
              refine lv_lload_n hx hb dX11_appendName_7 rfl (lv_at hl 3 rfl) ?_
              refine lv_iload_n hx hb dX11_appendName_8 rfl (lv_at hl 0 rfl) ?_
              refine lv_iconst (v := 5) hx hb dX11_appendName_9 (by decide) ?_
              refine lv_imul hx hb dX11_appendName_10 ?_
              refine zz_top (v := 0) (by decide) ?_
              refine lv_lushr hx hb dX11_appendName_11 rfl ?_
              refine lv_topl (fun z796 ez796 => ?_)
              clear ez796
              refine lv_l2i hx hb dX11_appendName_12 rfl ?_
              refine lv_topi (fun z797 ez797 => ?_)
              clear ez797
              refine lv_bipush (v := 31) hx hb dX11_appendName_13 (by decide) ?_
              refine lv_iand hx hb dX11_appendName_15 ?_
              refine lv_topi (fun z798 ez798 => ?_)
              clear ez798
              refine lv_istore (lv' := [(4, .int z798), (3, .int 0), (0, .ref (A 0)), (1, .long vw)]) hx hb dX11_appendName_16 hl (by decide) rfl (fun ls hl => ?_)
              refine lv_iload hx hb dX11_appendName_18 (lv_at hl 0 rfl) ?_
              refine lv_if_eq (tgt := 39) hx hb dX11_appendName_20 (by decide) (fun c175 => ?_) (fun c175 => ?_)
              · refine lv_iinc (v := (-1)) (lv' := [(3, .int (-1)), (4, .int z798), (0, .ref (A 0)), (1, .long vw)]) hx hb dX11_appendName_39 hl (k := 1) rfl (by decide) (by decide) rfl (fun ls hl => ?_)
                refine lv_goto (tgt := 3) hx hb dX11_appendName_42 (by decide) ?_
                refine lv_iload_n hx hb dX11_appendName_3 rfl (lv_at hl 0 rfl) ?_
                refine lv_if_lt (tgt := 45) hx hb dX11_appendName_4 (by decide) (fun _ => ?_) (fun cc => absurd (by decide) cc)
                exact W.vret hx hb hr (fun t ht hW => ⟨⟨(st789, sl5, so), rfl, ⟨hG, rfl, ⟨(((g6 + 1) + 1) + 1), by show st789 18 1 = 0; rw [hst789a], by show st789 18 3 = _; rw [hst789b], by omega, hfit⟩⟩, xB.of ht hP⟩, hS.F ht⟩) hS.2.2 dX11_appendName_45
              · refine lv_aload_n hx hb dX11_appendName_23 rfl (lv_at hl 2 rfl) ?_
                refine va_get (D := (dC, dI)) (ci := 10) (v := .ref (A 18)) (C := RX11) (T := TX11) (N := 19) hx hb hts ii_X11_appendName_X11 hown hK hP 0 (xw_is (r := 0) (by omega) (xc_fix (r := 0) (by omega))) rfl 14 (by decide) (hts _ mm_X11_appendName_1) (fun _ hh => hh) rfl dX11_appendName_24 ?_
                refine lv_bipush (v := 97) hx hb dX11_appendName_27 (by decide) ?_
                refine lv_iload hx hb dX11_appendName_29 (lv_at hl 0 rfl) ?_
                refine lv_iadd hx hb dX11_appendName_31 ?_
                refine lv_topi (fun z799 ez799 => ?_)
                clear ez799
                refine lv_iconst (v := 1) hx hb dX11_appendName_32 (by decide) ?_
                refine lv_isub hx hb dX11_appendName_33 ?_
                refine lv_topi (fun z800 ez800 => ?_)
                clear ez800
                refine lv_i2c hx hb dX11_appendName_34 rfl ?_
                refine lv_topi (fun z801 ez801 => ?_)
                clear ez801
                have hPs := xsub (cn := (((g6 + 1) + 1) + 1)) hP (by rw [hst789a]) (by rw [hst789b])
                have hKs := xKsub hK
                have hns : A 18 ≠ A 19 := fun h9 => absurd (hN 18 19 (by omega) (by omega) h9) (by decide)
                have hS0 := hS
                refine va_callr (va_runV (As := [.int z801]) (rest := []) ⟨hx, hb, hml, hown, hts⟩ (s_J4_append_cf468 l dC dI ad E hEE (A 18) (A 19) (C 19) nb (st789 19) (st789 18 2) (((g6 + 1) + 1) + 1) _ z801 hns hfit (by omega) (by omega) (by omega) (by omega)) (cwV 1 hts gX11_appendName_J4_append_cf468 rfl rfl rfl (by decide +kernel) ⟨Nat.le_of_ble_eq_true rfl, Nat.le_of_ble_eq_true rfl⟩) ⟨fun a U g mk q => ⟨q.1, sPre.blind hEE q.2⟩, va_recv hKs hPs (ci := 0) (q0 := 0) rfl rfl, fun U hU hW => ⟨rfl, sPre.of hEE hPs hKs hE hS (hBR.sa _ hS.1) hU hW⟩⟩ rfl rfl hl.1 rfl (lv_room (Nat.le_of_ble_eq_true rfl)) dX11_appendName_35 ⟨Nat.le_of_ble_eq_true rfl, Nat.le_of_ble_eq_true rfl⟩) hS (fun q _ h => hBR.sa _ hS.1 q h) (hBR.sa _ hS.1) (fun x r802 t H5 locs ht hvm hw hB hz hk hS => ?_)
                obtain ⟨hw, hr9, hB⟩ := hB
                subst hr9
                obtain ⟨hPt, hK2, hne2, hv2, hF2⟩ := hB
                rw [ht] at hPt
                have hK2 := va_K.moved hvm.symm hK2
                obtain ⟨v803, cB804, nb805, f806, ml807, cn808⟩ := x
                dsimp only at hPt hK2 hne2 hv2 hF2 hw
                obtain ⟨rfl, rfl, rfl, rfl, hw⟩ := hw
                have hj := xjoin hN hP hK hBR hS0.1 hPt hK2 hk hne2 hv2
                rw [A19_self, C19_self] at hj
                obtain ⟨st809, est809⟩ : ∃ y, y = st19 st789 f806 ml807 (nI ((((g6 + 1) + 1) + 1) + 1)) := ⟨_, rfl⟩
                rw [← est809] at hj
                have hst809a : st809 18 1 = 0 := by rw [est809]; rfl
                have hst809b : st809 18 3 = (nI ((((g6 + 1) + 1) + 1) + 1)) := by rw [est809]; rfl
                have hfit : sb_Fit (st809 19) := by rw [est809]; exact hF2
                have hGst809 : XG [1, 2, 3, 4, 5, 6, 7, 8, 9, 10, 11, 12] st789 st809 := by rw [est809]; exact xg19 (XG.rf hG.1) (by decide) _ _ _
                have hG : XG [1, 2, 3, 4, 5, 6, 7, 8, 9, 10, 11, 12] st st809 := by rw [est809]; exact xg19 hG (by decide) _ _ _
                clear hK2 hne2 hv2 hF2 ht hvm est809 hPs hKs hk hz
                obtain ⟨hP, hK, hN, hBR⟩ := hj
                clear hw
                refine lv_pop hx hb dX11_appendName_38 rfl ?_
                refine lv_iinc (v := (-1)) (lv' := [(3, .int (-1)), (4, .int z798), (0, .ref (A 0)), (1, .long vw)]) hx hb dX11_appendName_39 hl (k := 1) rfl (by decide) (by decide) rfl (fun ls hl => ?_)
                refine lv_goto (tgt := 3) hx hb dX11_appendName_42 (by decide) ?_
                refine lv_iload_n hx hb dX11_appendName_3 rfl (lv_at hl 0 rfl) ?_
                refine lv_if_lt (tgt := 45) hx hb dX11_appendName_4 (by decide) (fun _ => ?_) (fun cc => absurd (by decide) cc)
                exact W.vret hx hb hr (fun t ht hW => ⟨⟨(st809, sl5, so), rfl, ⟨hG, rfl, ⟨((((g6 + 1) + 1) + 1) + 1), by show st809 18 1 = 0; rw [hst809a], by show st809 18 3 = _; rw [hst809b], by omega, hfit⟩⟩, xB.of ht hP⟩, hS.F ht⟩) hS.2.2 dX11_appendName_45
            · refine lv_aload_n hx hb dX11_appendName_23 rfl (lv_at hl 2 rfl) ?_
              refine va_get (D := (dC, dI)) (ci := 10) (v := .ref (A 18)) (C := RX11) (T := TX11) (N := 19) hx hb hts ii_X11_appendName_X11 hown hK hP 0 (xw_is (r := 0) (by omega) (xc_fix (r := 0) (by omega))) rfl 14 (by decide) (hts _ mm_X11_appendName_1) (fun _ hh => hh) rfl dX11_appendName_24 ?_
              refine lv_bipush (v := 97) hx hb dX11_appendName_27 (by decide) ?_
              refine lv_iload hx hb dX11_appendName_29 (lv_at hl 0 rfl) ?_
              refine lv_iadd hx hb dX11_appendName_31 ?_
              refine lv_topi (fun z810 ez810 => ?_)
              clear ez810
              refine lv_iconst (v := 1) hx hb dX11_appendName_32 (by decide) ?_
              refine lv_isub hx hb dX11_appendName_33 ?_
              refine lv_topi (fun z811 ez811 => ?_)
              clear ez811
              refine lv_i2c hx hb dX11_appendName_34 rfl ?_
              refine lv_topi (fun z812 ez812 => ?_)
              clear ez812
              have hPs := xsub (cn := (((g6 + 1) + 1) + 1)) hP (by rw [hst789a]) (by rw [hst789b])
              have hKs := xKsub hK
              have hns : A 18 ≠ A 19 := fun h9 => absurd (hN 18 19 (by omega) (by omega) h9) (by decide)
              have hS0 := hS
              refine va_callr (va_runV (As := [.int z812]) (rest := []) ⟨hx, hb, hml, hown, hts⟩ (s_J4_append_cf468 l dC dI ad E hEE (A 18) (A 19) (C 19) nb (st789 19) (st789 18 2) (((g6 + 1) + 1) + 1) _ z812 hns hfit (by omega) (by omega) (by omega) (by omega)) (cwV 1 hts gX11_appendName_J4_append_cf468 rfl rfl rfl (by decide +kernel) ⟨Nat.le_of_ble_eq_true rfl, Nat.le_of_ble_eq_true rfl⟩) ⟨fun a U g mk q => ⟨q.1, sPre.blind hEE q.2⟩, va_recv hKs hPs (ci := 0) (q0 := 0) rfl rfl, fun U hU hW => ⟨rfl, sPre.of hEE hPs hKs hE hS (hBR.sa _ hS.1) hU hW⟩⟩ rfl rfl hl.1 rfl (lv_room (Nat.le_of_ble_eq_true rfl)) dX11_appendName_35 ⟨Nat.le_of_ble_eq_true rfl, Nat.le_of_ble_eq_true rfl⟩) hS (fun q _ h => hBR.sa _ hS.1 q h) (hBR.sa _ hS.1) (fun x r813 t H5 locs ht hvm hw hB hz hk hS => ?_)
              obtain ⟨hw, hr9, hB⟩ := hB
              subst hr9
              obtain ⟨hPt, hK2, hne2, hv2, hF2⟩ := hB
              rw [ht] at hPt
              have hK2 := va_K.moved hvm.symm hK2
              obtain ⟨v814, cB815, nb816, f817, ml818, cn819⟩ := x
              dsimp only at hPt hK2 hne2 hv2 hF2 hw
              obtain ⟨rfl, rfl, rfl, rfl, hw⟩ := hw
              have hj := xjoin hN hP hK hBR hS0.1 hPt hK2 hk hne2 hv2
              rw [A19_self, C19_self] at hj
              obtain ⟨st820, est820⟩ : ∃ y, y = st19 st789 f817 ml818 (nI ((((g6 + 1) + 1) + 1) + 1)) := ⟨_, rfl⟩
              rw [← est820] at hj
              have hst820a : st820 18 1 = 0 := by rw [est820]; rfl
              have hst820b : st820 18 3 = (nI ((((g6 + 1) + 1) + 1) + 1)) := by rw [est820]; rfl
              have hfit : sb_Fit (st820 19) := by rw [est820]; exact hF2
              have hGst820 : XG [1, 2, 3, 4, 5, 6, 7, 8, 9, 10, 11, 12] st789 st820 := by rw [est820]; exact xg19 (XG.rf hG.1) (by decide) _ _ _
              have hG : XG [1, 2, 3, 4, 5, 6, 7, 8, 9, 10, 11, 12] st st820 := by rw [est820]; exact xg19 hG (by decide) _ _ _
              clear hK2 hne2 hv2 hF2 ht hvm est820 hPs hKs hk hz
              obtain ⟨hP, hK, hN, hBR⟩ := hj
              clear hw
              refine lv_pop hx hb dX11_appendName_38 rfl ?_
              refine lv_iinc (v := 0) (lv' := [(3, .int 0), (4, .int z795), (0, .ref (A 0)), (1, .long vw)]) hx hb dX11_appendName_39 hl (k := 1) rfl (by decide) (by decide) rfl (fun ls hl => ?_)
              refine lv_goto (tgt := 3) hx hb dX11_appendName_42 (by decide) ?_
              refine lv_iload_n hx hb dX11_appendName_3 rfl (lv_at hl 0 rfl) ?_
              refine lv_if_lt (tgt := 45) hx hb dX11_appendName_4 (by decide) (fun cc => absurd cc (by decide)) (fun _ => ?_)
              refine lv_lload_n hx hb dX11_appendName_7 rfl (lv_at hl 3 rfl) ?_
              refine lv_iload_n hx hb dX11_appendName_8 rfl (lv_at hl 0 rfl) ?_
              refine lv_iconst (v := 5) hx hb dX11_appendName_9 (by decide) ?_
              refine lv_imul hx hb dX11_appendName_10 ?_
              refine zz_top (v := 0) (by decide) ?_
              refine lv_lushr hx hb dX11_appendName_11 rfl ?_
              refine lv_topl (fun z821 ez821 => ?_)
              clear ez821
              refine lv_l2i hx hb dX11_appendName_12 rfl ?_
              refine lv_topi (fun z822 ez822 => ?_)
              clear ez822
              refine lv_bipush (v := 31) hx hb dX11_appendName_13 (by decide) ?_
              refine lv_iand hx hb dX11_appendName_15 ?_
              refine lv_topi (fun z823 ez823 => ?_)
              clear ez823
              refine lv_istore (lv' := [(4, .int z823), (3, .int 0), (0, .ref (A 0)), (1, .long vw)]) hx hb dX11_appendName_16 hl (by decide) rfl (fun ls hl => ?_)
              refine lv_iload hx hb dX11_appendName_18 (lv_at hl 0 rfl) ?_
              refine lv_if_eq (tgt := 39) hx hb dX11_appendName_20 (by decide) (fun c179 => ?_) (fun c179 => ?_)
              · refine lv_iinc (v := (-1)) (lv' := [(3, .int (-1)), (4, .int z823), (0, .ref (A 0)), (1, .long vw)]) hx hb dX11_appendName_39 hl (k := 1) rfl (by decide) (by decide) rfl (fun ls hl => ?_)
                refine lv_goto (tgt := 3) hx hb dX11_appendName_42 (by decide) ?_
                refine lv_iload_n hx hb dX11_appendName_3 rfl (lv_at hl 0 rfl) ?_
                refine lv_if_lt (tgt := 45) hx hb dX11_appendName_4 (by decide) (fun _ => ?_) (fun cc => absurd (by decide) cc)
                exact W.vret hx hb hr (fun t ht hW => ⟨⟨(st820, sl5, so), rfl, ⟨hG, rfl, ⟨((((g6 + 1) + 1) + 1) + 1), by show st820 18 1 = 0; rw [hst820a], by show st820 18 3 = _; rw [hst820b], by omega, hfit⟩⟩, xB.of ht hP⟩, hS.F ht⟩) hS.2.2 dX11_appendName_45
              · refine lv_aload_n hx hb dX11_appendName_23 rfl (lv_at hl 2 rfl) ?_
                refine va_get (D := (dC, dI)) (ci := 10) (v := .ref (A 18)) (C := RX11) (T := TX11) (N := 19) hx hb hts ii_X11_appendName_X11 hown hK hP 0 (xw_is (r := 0) (by omega) (xc_fix (r := 0) (by omega))) rfl 14 (by decide) (hts _ mm_X11_appendName_1) (fun _ hh => hh) rfl dX11_appendName_24 ?_
                refine lv_bipush (v := 97) hx hb dX11_appendName_27 (by decide) ?_
                refine lv_iload hx hb dX11_appendName_29 (lv_at hl 0 rfl) ?_
                refine lv_iadd hx hb dX11_appendName_31 ?_
                refine lv_topi (fun z824 ez824 => ?_)
                clear ez824
                refine lv_iconst (v := 1) hx hb dX11_appendName_32 (by decide) ?_
                refine lv_isub hx hb dX11_appendName_33 ?_
                refine lv_topi (fun z825 ez825 => ?_)
                clear ez825
                refine lv_i2c hx hb dX11_appendName_34 rfl ?_
                refine lv_topi (fun z826 ez826 => ?_)
                clear ez826
                have hPs := xsub (cn := ((((g6 + 1) + 1) + 1) + 1)) hP (by rw [hst820a]) (by rw [hst820b])
                have hKs := xKsub hK
                have hns : A 18 ≠ A 19 := fun h9 => absurd (hN 18 19 (by omega) (by omega) h9) (by decide)
                have hS0 := hS
                refine va_callr (va_runV (As := [.int z826]) (rest := []) ⟨hx, hb, hml, hown, hts⟩ (s_J4_append_cf468 l dC dI ad E hEE (A 18) (A 19) (C 19) nb (st820 19) (st820 18 2) ((((g6 + 1) + 1) + 1) + 1) _ z826 hns hfit (by omega) (by omega) (by omega) (by omega)) (cwV 1 hts gX11_appendName_J4_append_cf468 rfl rfl rfl (by decide +kernel) ⟨Nat.le_of_ble_eq_true rfl, Nat.le_of_ble_eq_true rfl⟩) ⟨fun a U g mk q => ⟨q.1, sPre.blind hEE q.2⟩, va_recv hKs hPs (ci := 0) (q0 := 0) rfl rfl, fun U hU hW => ⟨rfl, sPre.of hEE hPs hKs hE hS (hBR.sa _ hS.1) hU hW⟩⟩ rfl rfl hl.1 rfl (lv_room (Nat.le_of_ble_eq_true rfl)) dX11_appendName_35 ⟨Nat.le_of_ble_eq_true rfl, Nat.le_of_ble_eq_true rfl⟩) hS (fun q _ h => hBR.sa _ hS.1 q h) (hBR.sa _ hS.1) (fun x r827 t H5 locs ht hvm hw hB hz hk hS => ?_)
                obtain ⟨hw, hr9, hB⟩ := hB
                subst hr9
                obtain ⟨hPt, hK2, hne2, hv2, hF2⟩ := hB
                rw [ht] at hPt
                have hK2 := va_K.moved hvm.symm hK2
                obtain ⟨v828, cB829, nb830, f831, ml832, cn833⟩ := x
                dsimp only at hPt hK2 hne2 hv2 hF2 hw
                obtain ⟨rfl, rfl, rfl, rfl, hw⟩ := hw
                have hj := xjoin hN hP hK hBR hS0.1 hPt hK2 hk hne2 hv2
                rw [A19_self, C19_self] at hj
                obtain ⟨st834, est834⟩ : ∃ y, y = st19 st820 f831 ml832 (nI (((((g6 + 1) + 1) + 1) + 1) + 1)) := ⟨_, rfl⟩
                rw [← est834] at hj
                have hst834a : st834 18 1 = 0 := by rw [est834]; rfl
                have hst834b : st834 18 3 = (nI (((((g6 + 1) + 1) + 1) + 1) + 1)) := by rw [est834]; rfl
                have hfit : sb_Fit (st834 19) := by rw [est834]; exact hF2
                have hGst834 : XG [1, 2, 3, 4, 5, 6, 7, 8, 9, 10, 11, 12] st820 st834 := by rw [est834]; exact xg19 (XG.rf hG.1) (by decide) _ _ _
                have hG : XG [1, 2, 3, 4, 5, 6, 7, 8, 9, 10, 11, 12] st st834 := by rw [est834]; exact xg19 hG (by decide) _ _ _
                clear hK2 hne2 hv2 hF2 ht hvm est834 hPs hKs hk hz
                obtain ⟨hP, hK, hN, hBR⟩ := hj
                clear hw
                refine lv_pop hx hb dX11_appendName_38 rfl ?_
                refine lv_iinc (v := (-1)) (lv' := [(3, .int (-1)), (4, .int z823), (0, .ref (A 0)), (1, .long vw)]) hx hb dX11_appendName_39 hl (k := 1) rfl (by decide) (by decide) rfl (fun ls hl => ?_)
                refine lv_goto (tgt := 3) hx hb dX11_appendName_42 (by decide) ?_
                refine lv_iload_n hx hb dX11_appendName_3 rfl (lv_at hl 0 rfl) ?_
                refine lv_if_lt (tgt := 45) hx hb dX11_appendName_4 (by decide) (fun _ => ?_) (fun cc => absurd (by decide) cc)
                exact W.vret hx hb hr (fun t ht hW => ⟨⟨(st834, sl5, so), rfl, ⟨hG, rfl, ⟨(((((g6 + 1) + 1) + 1) + 1) + 1), by show st834 18 1 = 0; rw [hst834a], by show st834 18 3 = _; rw [hst834b], by omega, hfit⟩⟩, xB.of ht hP⟩, hS.F ht⟩) hS.2.2 dX11_appendName_45
          · refine lv_aload_n hx hb dX11_appendName_23 rfl (lv_at hl 2 rfl) ?_
            refine va_get (D := (dC, dI)) (ci := 10) (v := .ref (A 18)) (C := RX11) (T := TX11) (N := 19) hx hb hts ii_X11_appendName_X11 hown hK hP 0 (xw_is (r := 0) (by omega) (xc_fix (r := 0) (by omega))) rfl 14 (by decide) (hts _ mm_X11_appendName_1) (fun _ hh => hh) rfl dX11_appendName_24 ?_
            refine lv_bipush (v := 97) hx hb dX11_appendName_27 (by decide) ?_
            refine lv_iload hx hb dX11_appendName_29 (lv_at hl 0 rfl) ?_
            refine lv_iadd hx hb dX11_appendName_31 ?_
            refine lv_topi (fun z835 ez835 => ?_)
            clear ez835
            refine lv_iconst (v := 1) hx hb dX11_appendName_32 (by decide) ?_
            refine lv_isub hx hb dX11_appendName_33 ?_
            refine lv_topi (fun z836 ez836 => ?_)
            clear ez836
            refine lv_i2c hx hb dX11_appendName_34 rfl ?_
            refine lv_topi (fun z837 ez837 => ?_)
            clear ez837
            have hPs := xsub (cn := (((g6 + 1) + 1) + 1)) hP (by rw [hst789a]) (by rw [hst789b])
            have hKs := xKsub hK
            have hns : A 18 ≠ A 19 := fun h9 => absurd (hN 18 19 (by omega) (by omega) h9) (by decide)
            have hS0 := hS
            refine va_callr (va_runV (As := [.int z837]) (rest := []) ⟨hx, hb, hml, hown, hts⟩ (s_J4_append_cf468 l dC dI ad E hEE (A 18) (A 19) (C 19) nb (st789 19) (st789 18 2) (((g6 + 1) + 1) + 1) _ z837 hns hfit (by omega) (by omega) (by omega) (by omega)) (cwV 1 hts gX11_appendName_J4_append_cf468 rfl rfl rfl (by decide +kernel) ⟨Nat.le_of_ble_eq_true rfl, Nat.le_of_ble_eq_true rfl⟩) ⟨fun a U g mk q => ⟨q.1, sPre.blind hEE q.2⟩, va_recv hKs hPs (ci := 0) (q0 := 0) rfl rfl, fun U hU hW => ⟨rfl, sPre.of hEE hPs hKs hE hS (hBR.sa _ hS.1) hU hW⟩⟩ rfl rfl hl.1 rfl (lv_room (Nat.le_of_ble_eq_true rfl)) dX11_appendName_35 ⟨Nat.le_of_ble_eq_true rfl, Nat.le_of_ble_eq_true rfl⟩) hS (fun q _ h => hBR.sa _ hS.1 q h) (hBR.sa _ hS.1) (fun x r838 t H5 locs ht hvm hw hB hz hk hS => ?_)
            obtain ⟨hw, hr9, hB⟩ := hB
            subst hr9
            obtain ⟨hPt, hK2, hne2, hv2, hF2⟩ := hB
            rw [ht] at hPt
            have hK2 := va_K.moved hvm.symm hK2
            obtain ⟨v839, cB840, nb841, f842, ml843, cn844⟩ := x
            dsimp only at hPt hK2 hne2 hv2 hF2 hw
            obtain ⟨rfl, rfl, rfl, rfl, hw⟩ := hw
            have hj := xjoin hN hP hK hBR hS0.1 hPt hK2 hk hne2 hv2
            rw [A19_self, C19_self] at hj
            obtain ⟨st845, est845⟩ : ∃ y, y = st19 st789 f842 ml843 (nI ((((g6 + 1) + 1) + 1) + 1)) := ⟨_, rfl⟩
            rw [← est845] at hj
            have hst845a : st845 18 1 = 0 := by rw [est845]; rfl
            have hst845b : st845 18 3 = (nI ((((g6 + 1) + 1) + 1) + 1)) := by rw [est845]; rfl
            have hfit : sb_Fit (st845 19) := by rw [est845]; exact hF2
            have hGst845 : XG [1, 2, 3, 4, 5, 6, 7, 8, 9, 10, 11, 12] st789 st845 := by rw [est845]; exact xg19 (XG.rf hG.1) (by decide) _ _ _
            have hG : XG [1, 2, 3, 4, 5, 6, 7, 8, 9, 10, 11, 12] st st845 := by rw [est845]; exact xg19 hG (by decide) _ _ _
            clear hK2 hne2 hv2 hF2 ht hvm est845 hPs hKs hk hz
            obtain ⟨hP, hK, hN, hBR⟩ := hj
            clear hw
            refine lv_pop hx hb dX11_appendName_38 rfl ?_
            refine lv_iinc (v := 1) (lv' := [(3, .int 1), (4, .int z792), (0, .ref (A 0)), (1, .long vw)]) hx hb dX11_appendName_39 hl (k := 1) rfl (by decide) (by decide) rfl (fun ls hl => ?_)
            refine lv_goto (tgt := 3) hx hb dX11_appendName_42 (by decide) ?_
            refine lv_iload_n hx hb dX11_appendName_3 rfl (lv_at hl 0 rfl) ?_
            refine lv_if_lt (tgt := 45) hx hb dX11_appendName_4 (by decide) (fun cc => absurd cc (by decide)) (fun _ => ?_)
            refine lv_lload_n hx hb dX11_appendName_7 rfl (lv_at hl 3 rfl) ?_
            refine lv_iload_n hx hb dX11_appendName_8 rfl (lv_at hl 0 rfl) ?_
            refine lv_iconst (v := 5) hx hb dX11_appendName_9 (by decide) ?_
            refine lv_imul hx hb dX11_appendName_10 ?_
            refine zz_top (v := 5) (by decide) ?_
            refine lv_lushr hx hb dX11_appendName_11 rfl ?_
            refine lv_topl (fun z846 ez846 => ?_)
            clear ez846
            refine lv_l2i hx hb dX11_appendName_12 rfl ?_
            refine lv_topi (fun z847 ez847 => ?_)
            clear ez847
            refine lv_bipush (v := 31) hx hb dX11_appendName_13 (by decide) ?_
            refine lv_iand hx hb dX11_appendName_15 ?_
            refine lv_topi (fun z848 ez848 => ?_)
            clear ez848
            refine lv_istore (lv' := [(4, .int z848), (3, .int 1), (0, .ref (A 0)), (1, .long vw)]) hx hb dX11_appendName_16 hl (by decide) rfl (fun ls hl => ?_)
            refine lv_iload hx hb dX11_appendName_18 (lv_at hl 0 rfl) ?_
            refine lv_if_eq (tgt := 39) hx hb dX11_appendName_20 (by decide) (fun c183 => ?_) (fun c183 => ?_)
            · refine lv_iinc (v := 0) (lv' := [(3, .int 0), (4, .int z848), (0, .ref (A 0)), (1, .long vw)]) hx hb dX11_appendName_39 hl (k := 1) rfl (by decide) (by decide) rfl (fun ls hl => ?_)
              refine lv_goto (tgt := 3) hx hb dX11_appendName_42 (by decide) ?_
              refine lv_iload_n hx hb dX11_appendName_3 rfl (lv_at hl 0 rfl) ?_
              refine lv_if_lt (tgt := 45) hx hb dX11_appendName_4 (by decide) (fun cc => absurd cc (by decide)) (fun _ => ?_)
              refine lv_lload_n hx hb dX11_appendName_7 rfl (lv_at hl 3 rfl) ?_
              refine lv_iload_n hx hb dX11_appendName_8 rfl (lv_at hl 0 rfl) ?_
              refine lv_iconst (v := 5) hx hb dX11_appendName_9 (by decide) ?_
              refine lv_imul hx hb dX11_appendName_10 ?_
              refine zz_top (v := 0) (by decide) ?_
              refine lv_lushr hx hb dX11_appendName_11 rfl ?_
              refine lv_topl (fun z849 ez849 => ?_)
              clear ez849
              refine lv_l2i hx hb dX11_appendName_12 rfl ?_
              refine lv_topi (fun z850 ez850 => ?_)
              clear ez850
              refine lv_bipush (v := 31) hx hb dX11_appendName_13 (by decide) ?_
              refine lv_iand hx hb dX11_appendName_15 ?_
              refine lv_topi (fun z851 ez851 => ?_)
              clear ez851
              refine lv_istore (lv' := [(4, .int z851), (3, .int 0), (0, .ref (A 0)), (1, .long vw)]) hx hb dX11_appendName_16 hl (by decide) rfl (fun ls hl => ?_)
              refine lv_iload hx hb dX11_appendName_18 (lv_at hl 0 rfl) ?_
              refine lv_if_eq (tgt := 39) hx hb dX11_appendName_20 (by decide) (fun c185 => ?_) (fun c185 => ?_)
              · refine lv_iinc (v := (-1)) (lv' := [(3, .int (-1)), (4, .int z851), (0, .ref (A 0)), (1, .long vw)]) hx hb dX11_appendName_39 hl (k := 1) rfl (by decide) (by decide) rfl (fun ls hl => ?_)
                refine lv_goto (tgt := 3) hx hb dX11_appendName_42 (by decide) ?_
                refine lv_iload_n hx hb dX11_appendName_3 rfl (lv_at hl 0 rfl) ?_
                refine lv_if_lt (tgt := 45) hx hb dX11_appendName_4 (by decide) (fun _ => ?_) (fun cc => absurd (by decide) cc)
                exact W.vret hx hb hr (fun t ht hW => ⟨⟨(st845, sl5, so), rfl, ⟨hG, rfl, ⟨((((g6 + 1) + 1) + 1) + 1), by show st845 18 1 = 0; rw [hst845a], by show st845 18 3 = _; rw [hst845b], by omega, hfit⟩⟩, xB.of ht hP⟩, hS.F ht⟩) hS.2.2 dX11_appendName_45
              · refine lv_aload_n hx hb dX11_appendName_23 rfl (lv_at hl 2 rfl) ?_
                refine va_get (D := (dC, dI)) (ci := 10) (v := .ref (A 18)) (C := RX11) (T := TX11) (N := 19) hx hb hts ii_X11_appendName_X11 hown hK hP 0 (xw_is (r := 0) (by omega) (xc_fix (r := 0) (by omega))) rfl 14 (by decide) (hts _ mm_X11_appendName_1) (fun _ hh => hh) rfl dX11_appendName_24 ?_
                refine lv_bipush (v := 97) hx hb dX11_appendName_27 (by decide) ?_
                refine lv_iload hx hb dX11_appendName_29 (lv_at hl 0 rfl) ?_
                refine lv_iadd hx hb dX11_appendName_31 ?_
                refine lv_topi (fun z852 ez852 => ?_)
                clear ez852
                refine lv_iconst (v := 1) hx hb dX11_appendName_32 (by decide) ?_
                refine lv_isub hx hb dX11_appendName_33 ?_
                refine lv_topi (fun z853 ez853 => ?_)
                clear ez853
                refine lv_i2c hx hb dX11_appendName_34 rfl ?_
                refine lv_topi (fun z854 ez854 => ?_)
                clear ez854
                have hPs := xsub (cn := ((((g6 + 1) + 1) + 1) + 1)) hP (by rw [hst845a]) (by rw [hst845b])
                have hKs := xKsub hK
                have hns : A 18 ≠ A 19 := fun h9 => absurd (hN 18 19 (by omega) (by omega) h9) (by decide)
                have hS0 := hS
                refine va_callr (va_runV (As := [.int z854]) (rest := []) ⟨hx, hb, hml, hown, hts⟩ (s_J4_append_cf468 l dC dI ad E hEE (A 18) (A 19) (C 19) nb (st845 19) (st845 18 2) ((((g6 + 1) + 1) + 1) + 1) _ z854 hns hfit (by omega) (by omega) (by omega) (by omega)) (cwV 1 hts gX11_appendName_J4_append_cf468 rfl rfl rfl (by decide +kernel) ⟨Nat.le_of_ble_eq_true rfl, Nat.le_of_ble_eq_true rfl⟩) ⟨fun a U g mk q => ⟨q.1, sPre.blind hEE q.2⟩, va_recv hKs hPs (ci := 0) (q0 := 0) rfl rfl, fun U hU hW => ⟨rfl, sPre.of hEE hPs hKs hE hS (hBR.sa _ hS.1) hU hW⟩⟩ rfl rfl hl.1 rfl (lv_room (Nat.le_of_ble_eq_true rfl)) dX11_appendName_35 ⟨Nat.le_of_ble_eq_true rfl, Nat.le_of_ble_eq_true rfl⟩) hS (fun q _ h => hBR.sa _ hS.1 q h) (hBR.sa _ hS.1) (fun x r855 t H5 locs ht hvm hw hB hz hk hS => ?_)
                obtain ⟨hw, hr9, hB⟩ := hB
                subst hr9
                obtain ⟨hPt, hK2, hne2, hv2, hF2⟩ := hB
                rw [ht] at hPt
                have hK2 := va_K.moved hvm.symm hK2
                obtain ⟨v856, cB857, nb858, f859, ml860, cn861⟩ := x
                dsimp only at hPt hK2 hne2 hv2 hF2 hw
                obtain ⟨rfl, rfl, rfl, rfl, hw⟩ := hw
                have hj := xjoin hN hP hK hBR hS0.1 hPt hK2 hk hne2 hv2
                rw [A19_self, C19_self] at hj
                obtain ⟨st862, est862⟩ : ∃ y, y = st19 st845 f859 ml860 (nI (((((g6 + 1) + 1) + 1) + 1) + 1)) := ⟨_, rfl⟩
                rw [← est862] at hj
                have hst862a : st862 18 1 = 0 := by rw [est862]; rfl
                have hst862b : st862 18 3 = (nI (((((g6 + 1) + 1) + 1) + 1) + 1)) := by rw [est862]; rfl
                have hfit : sb_Fit (st862 19) := by rw [est862]; exact hF2
                have hGst862 : XG [1, 2, 3, 4, 5, 6, 7, 8, 9, 10, 11, 12] st845 st862 := by rw [est862]; exact xg19 (XG.rf hG.1) (by decide) _ _ _
                have hG : XG [1, 2, 3, 4, 5, 6, 7, 8, 9, 10, 11, 12] st st862 := by rw [est862]; exact xg19 hG (by decide) _ _ _
                clear hK2 hne2 hv2 hF2 ht hvm est862 hPs hKs hk hz
                obtain ⟨hP, hK, hN, hBR⟩ := hj
                clear hw
                refine lv_pop hx hb dX11_appendName_38 rfl ?_
                refine lv_iinc (v := (-1)) (lv' := [(3, .int (-1)), (4, .int z851), (0, .ref (A 0)), (1, .long vw)]) hx hb dX11_appendName_39 hl (k := 1) rfl (by decide) (by decide) rfl (fun ls hl => ?_)
                refine lv_goto (tgt := 3) hx hb dX11_appendName_42 (by decide) ?_
                refine lv_iload_n hx hb dX11_appendName_3 rfl (lv_at hl 0 rfl) ?_
                refine lv_if_lt (tgt := 45) hx hb dX11_appendName_4 (by decide) (fun _ => ?_) (fun cc => absurd (by decide) cc)
                exact W.vret hx hb hr (fun t ht hW => ⟨⟨(st862, sl5, so), rfl, ⟨hG, rfl, ⟨(((((g6 + 1) + 1) + 1) + 1) + 1), by show st862 18 1 = 0; rw [hst862a], by show st862 18 3 = _; rw [hst862b], by omega, hfit⟩⟩, xB.of ht hP⟩, hS.F ht⟩) hS.2.2 dX11_appendName_45
            · refine lv_aload_n hx hb dX11_appendName_23 rfl (lv_at hl 2 rfl) ?_
              refine va_get (D := (dC, dI)) (ci := 10) (v := .ref (A 18)) (C := RX11) (T := TX11) (N := 19) hx hb hts ii_X11_appendName_X11 hown hK hP 0 (xw_is (r := 0) (by omega) (xc_fix (r := 0) (by omega))) rfl 14 (by decide) (hts _ mm_X11_appendName_1) (fun _ hh => hh) rfl dX11_appendName_24 ?_
              refine lv_bipush (v := 97) hx hb dX11_appendName_27 (by decide) ?_
              refine lv_iload hx hb dX11_appendName_29 (lv_at hl 0 rfl) ?_
              refine lv_iadd hx hb dX11_appendName_31 ?_
              refine lv_topi (fun z863 ez863 => ?_)
              clear ez863
              refine lv_iconst (v := 1) hx hb dX11_appendName_32 (by decide) ?_
              refine lv_isub hx hb dX11_appendName_33 ?_
              refine lv_topi (fun z864 ez864 => ?_)
              clear ez864
              refine lv_i2c hx hb dX11_appendName_34 rfl ?_
              refine lv_topi (fun z865 ez865 => ?_)
              clear ez865
              have hPs := xsub (cn := ((((g6 + 1) + 1) + 1) + 1)) hP (by rw [hst845a]) (by rw [hst845b])
              have hKs := xKsub hK
              have hns : A 18 ≠ A 19 := fun h9 => absurd (hN 18 19 (by omega) (by omega) h9) (by decide)
              have hS0 := hS
              refine va_callr (va_runV (As := [.int z865]) (rest := []) ⟨hx, hb, hml, hown, hts⟩ (s_J4_append_cf468 l dC dI ad E hEE (A 18) (A 19) (C 19) nb (st845 19) (st845 18 2) ((((g6 + 1) + 1) + 1) + 1) _ z865 hns hfit (by omega) (by omega) (by omega) (by omega)) (cwV 1 hts gX11_appendName_J4_append_cf468 rfl rfl rfl (by decide +kernel) ⟨Nat.le_of_ble_eq_true rfl, Nat.le_of_ble_eq_true rfl⟩) ⟨fun a U g mk q => ⟨q.1, sPre.blind hEE q.2⟩, va_recv hKs hPs (ci := 0) (q0 := 0) rfl rfl, fun U hU hW => ⟨rfl, sPre.of hEE hPs hKs hE hS (hBR.sa _ hS.1) hU hW⟩⟩ rfl rfl hl.1 rfl (lv_room (Nat.le_of_ble_eq_true rfl)) dX11_appendName_35 ⟨Nat.le_of_ble_eq_true rfl, Nat.le_of_ble_eq_true rfl⟩) hS (fun q _ h => hBR.sa _ hS.1 q h) (hBR.sa _ hS.1) (fun x r866 t H5 locs ht hvm hw hB hz hk hS => ?_)
              obtain ⟨hw, hr9, hB⟩ := hB
              subst hr9
              obtain ⟨hPt, hK2, hne2, hv2, hF2⟩ := hB
              rw [ht] at hPt
              have hK2 := va_K.moved hvm.symm hK2
              obtain ⟨v867, cB868, nb869, f870, ml871, cn872⟩ := x
              dsimp only at hPt hK2 hne2 hv2 hF2 hw
              obtain ⟨rfl, rfl, rfl, rfl, hw⟩ := hw
              have hj := xjoin hN hP hK hBR hS0.1 hPt hK2 hk hne2 hv2
              rw [A19_self, C19_self] at hj
              obtain ⟨st873, est873⟩ : ∃ y, y = st19 st845 f870 ml871 (nI (((((g6 + 1) + 1) + 1) + 1) + 1)) := ⟨_, rfl⟩
              rw [← est873] at hj
              have hst873a : st873 18 1 = 0 := by rw [est873]; rfl
              have hst873b : st873 18 3 = (nI (((((g6 + 1) + 1) + 1) + 1) + 1)) := by rw [est873]; rfl
              have hfit : sb_Fit (st873 19) := by rw [est873]; exact hF2
              have hGst873 : XG [1, 2, 3, 4, 5, 6, 7, 8, 9, 10, 11, 12] st845 st873 := by rw [est873]; exact xg19 (XG.rf hG.1) (by decide) _ _ _
              have hG : XG [1, 2, 3, 4, 5, 6, 7, 8, 9, 10, 11, 12] st st873 := by rw [est873]; exact xg19 hG (by decide) _ _ _
              clear hK2 hne2 hv2 hF2 ht hvm est873 hPs hKs hk hz
              obtain ⟨hP, hK, hN, hBR⟩ := hj
              clear hw
              refine lv_pop hx hb dX11_appendName_38 rfl ?_
              refine lv_iinc (v := 0) (lv' := [(3, .int 0), (4, .int z848), (0, .ref (A 0)), (1, .long vw)]) hx hb dX11_appendName_39 hl (k := 1) rfl (by decide) (by decide) rfl (fun ls hl => ?_)
              refine lv_goto (tgt := 3) hx hb dX11_appendName_42 (by decide) ?_
              refine lv_iload_n hx hb dX11_appendName_3 rfl (lv_at hl 0 rfl) ?_
              refine lv_if_lt (tgt := 45) hx hb dX11_appendName_4 (by decide) (fun cc => absurd cc (by decide)) (fun _ => ?_)
              refine lv_lload_n hx hb dX11_appendName_7 rfl (lv_at hl 3 rfl) ?_
              refine lv_iload_n hx hb dX11_appendName_8 rfl (lv_at hl 0 rfl) ?_
              refine lv_iconst (v := 5) hx hb dX11_appendName_9 (by decide) ?_
              refine lv_imul hx hb dX11_appendName_10 ?_
              refine zz_top (v := 0) (by decide) ?_
              refine lv_lushr hx hb dX11_appendName_11 rfl ?_
              refine lv_topl (fun z874 ez874 => ?_)
              clear ez874
              refine lv_l2i hx hb dX11_appendName_12 rfl ?_
              refine lv_topi (fun z875 ez875 => ?_)
              clear ez875
              refine lv_bipush (v := 31) hx hb dX11_appendName_13 (by decide) ?_
              refine lv_iand hx hb dX11_appendName_15 ?_
              refine lv_topi (fun z876 ez876 => ?_)
              clear ez876
              refine lv_istore (lv' := [(4, .int z876), (3, .int 0), (0, .ref (A 0)), (1, .long vw)]) hx hb dX11_appendName_16 hl (by decide) rfl (fun ls hl => ?_)
              refine lv_iload hx hb dX11_appendName_18 (lv_at hl 0 rfl) ?_
              refine lv_if_eq (tgt := 39) hx hb dX11_appendName_20 (by decide) (fun c189 => ?_) (fun c189 => ?_)
              · refine lv_iinc (v := (-1)) (lv' := [(3, .int (-1)), (4, .int z876), (0, .ref (A 0)), (1, .long vw)]) hx hb dX11_appendName_39 hl (k := 1) rfl (by decide) (by decide) rfl (fun ls hl => ?_)
                refine lv_goto (tgt := 3) hx hb dX11_appendName_42 (by decide) ?_
                refine lv_iload_n hx hb dX11_appendName_3 rfl (lv_at hl 0 rfl) ?_
                refine lv_if_lt (tgt := 45) hx hb dX11_appendName_4 (by decide) (fun _ => ?_) (fun cc => absurd (by decide) cc)
                exact W.vret hx hb hr (fun t ht hW => ⟨⟨(st873, sl5, so), rfl, ⟨hG, rfl, ⟨(((((g6 + 1) + 1) + 1) + 1) + 1), by show st873 18 1 = 0; rw [hst873a], by show st873 18 3 = _; rw [hst873b], by omega, hfit⟩⟩, xB.of ht hP⟩, hS.F ht⟩) hS.2.2 dX11_appendName_45
              · refine lv_aload_n hx hb dX11_appendName_23 rfl (lv_at hl 2 rfl) ?_
                refine va_get (D := (dC, dI)) (ci := 10) (v := .ref (A 18)) (C := RX11) (T := TX11) (N := 19) hx hb hts ii_X11_appendName_X11 hown hK hP 0 (xw_is (r := 0) (by omega) (xc_fix (r := 0) (by omega))) rfl 14 (by decide) (hts _ mm_X11_appendName_1) (fun _ hh => hh) rfl dX11_appendName_24 ?_
                refine lv_bipush (v := 97) hx hb dX11_appendName_27 (by decide) ?_
                refine lv_iload hx hb dX11_appendName_29 (lv_at hl 0 rfl) ?_
                refine lv_iadd hx hb dX11_appendName_31 ?_
                refine lv_topi (fun z877 ez877 => ?_)
                clear ez877
                refine lv_iconst (v := 1) hx hb dX11_appendName_32 (by decide) ?_
                refine lv_isub hx hb dX11_appendName_33 ?_
                refine lv_topi (fun z878 ez878 => ?_)
                clear ez878
                refine lv_i2c hx hb dX11_appendName_34 rfl ?_
                refine lv_topi (fun z879 ez879 => ?_)
                clear ez879
                have hPs := xsub (cn := (((((g6 + 1) + 1) + 1) + 1) + 1)) hP (by rw [hst873a]) (by rw [hst873b])
                have hKs := xKsub hK
                have hns : A 18 ≠ A 19 := fun h9 => absurd (hN 18 19 (by omega) (by omega) h9) (by decide)
                have hS0 := hS
                refine va_callr (va_runV (As := [.int z879]) (rest := []) ⟨hx, hb, hml, hown, hts⟩ (s_J4_append_cf468 l dC dI ad E hEE (A 18) (A 19) (C 19) nb (st873 19) (st873 18 2) (((((g6 + 1) + 1) + 1) + 1) + 1) _ z879 hns hfit (by omega) (by omega) (by omega) (by omega)) (cwV 1 hts gX11_appendName_J4_append_cf468 rfl rfl rfl (by decide +kernel) ⟨Nat.le_of_ble_eq_true rfl, Nat.le_of_ble_eq_true rfl⟩) ⟨fun a U g mk q => ⟨q.1, sPre.blind hEE q.2⟩, va_recv hKs hPs (ci := 0) (q0 := 0) rfl rfl, fun U hU hW => ⟨rfl, sPre.of hEE hPs hKs hE hS (hBR.sa _ hS.1) hU hW⟩⟩ rfl rfl hl.1 rfl (lv_room (Nat.le_of_ble_eq_true rfl)) dX11_appendName_35 ⟨Nat.le_of_ble_eq_true rfl, Nat.le_of_ble_eq_true rfl⟩) hS (fun q _ h => hBR.sa _ hS.1 q h) (hBR.sa _ hS.1) (fun x r880 t H5 locs ht hvm hw hB hz hk hS => ?_)
                obtain ⟨hw, hr9, hB⟩ := hB
                subst hr9
                obtain ⟨hPt, hK2, hne2, hv2, hF2⟩ := hB
                rw [ht] at hPt
                have hK2 := va_K.moved hvm.symm hK2
                obtain ⟨v881, cB882, nb883, f884, ml885, cn886⟩ := x
                dsimp only at hPt hK2 hne2 hv2 hF2 hw
                obtain ⟨rfl, rfl, rfl, rfl, hw⟩ := hw
                have hj := xjoin hN hP hK hBR hS0.1 hPt hK2 hk hne2 hv2
                rw [A19_self, C19_self] at hj
                obtain ⟨st887, est887⟩ : ∃ y, y = st19 st873 f884 ml885 (nI ((((((g6 + 1) + 1) + 1) + 1) + 1) + 1)) := ⟨_, rfl⟩
                rw [← est887] at hj
                have hst887a : st887 18 1 = 0 := by rw [est887]; rfl
                have hst887b : st887 18 3 = (nI ((((((g6 + 1) + 1) + 1) + 1) + 1) + 1)) := by rw [est887]; rfl
                have hfit : sb_Fit (st887 19) := by rw [est887]; exact hF2
                have hGst887 : XG [1, 2, 3, 4, 5, 6, 7, 8, 9, 10, 11, 12] st873 st887 := by rw [est887]; exact xg19 (XG.rf hG.1) (by decide) _ _ _
                have hG : XG [1, 2, 3, 4, 5, 6, 7, 8, 9, 10, 11, 12] st st887 := by rw [est887]; exact xg19 hG (by decide) _ _ _
                clear hK2 hne2 hv2 hF2 ht hvm est887 hPs hKs hk hz
                obtain ⟨hP, hK, hN, hBR⟩ := hj
                clear hw
                refine lv_pop hx hb dX11_appendName_38 rfl ?_
                refine lv_iinc (v := (-1)) (lv' := [(3, .int (-1)), (4, .int z876), (0, .ref (A 0)), (1, .long vw)]) hx hb dX11_appendName_39 hl (k := 1) rfl (by decide) (by decide) rfl (fun ls hl => ?_)
                refine lv_goto (tgt := 3) hx hb dX11_appendName_42 (by decide) ?_
                refine lv_iload_n hx hb dX11_appendName_3 rfl (lv_at hl 0 rfl) ?_
                refine lv_if_lt (tgt := 45) hx hb dX11_appendName_4 (by decide) (fun _ => ?_) (fun cc => absurd (by decide) cc)
                exact W.vret hx hb hr (fun t ht hW => ⟨⟨(st887, sl5, so), rfl, ⟨hG, rfl, ⟨((((((g6 + 1) + 1) + 1) + 1) + 1) + 1), by show st887 18 1 = 0; rw [hst887a], by show st887 18 3 = _; rw [hst887b], by omega, hfit⟩⟩, xB.of ht hP⟩, hS.F ht⟩) hS.2.2 dX11_appendName_45
  refine lv_if_eq (tgt := 39) hx hb dX11_appendName_20 (by decide) (fun c192 => ?_) (fun c192 => ?_)
  · have c192 : n3 = 0 := (nI_eq (a := n3) (b := 0) (by omega) (by omega)).mp c192
    exact kj7 _ _ _ _ ⟨st, sl, 0, by omega, by rw [hc3]; rfl, by rw [hco], hfit, by omega, hP, hG, hS, lv_sub hl [1, 2, 3] rfl, rfl⟩
  · have c192 : ¬ n3 = 0 := fun hh => c192 ((nI_eq (a := n3) (b := 0) (by omega) (by omega)).mpr hh)
    refine lv_aload_n hx hb dX11_appendName_23 rfl (lv_at hl 2 rfl) ?_
    refine va_get (D := (dC, dI)) (ci := 10) (v := .ref (A 18)) (C := RX11) (T := TX11) (N := 19) hx hb hts ii_X11_appendName_X11 hown hK hP 0 (xw_is (r := 0) (by omega) (xc_fix (r := 0) (by omega))) rfl 14 (by decide) (hts _ mm_X11_appendName_1) (fun _ hh => hh) rfl dX11_appendName_24 ?_
    refine lv_bipush (v := 97) hx hb dX11_appendName_27 (by decide) ?_
    refine lv_iload hx hb dX11_appendName_29 (lv_at hl 0 rfl) ?_
    refine lv_iadd hx hb dX11_appendName_31 ?_
    refine zz_top (v := nI (97 + n3)) (nI_add 97 n3) ?_
    refine lv_iconst (v := 1) hx hb dX11_appendName_32 (by decide) ?_
    refine lv_isub hx hb dX11_appendName_33 ?_
    refine zz_top (v := nI ((97 + n3) - 1)) (nI_subN (a := (97 + n3)) (b := 1) (by omega) (by omega)) ?_
    refine lv_i2c (v := (nI ((97 + n3) - 1))) hx hb dX11_appendName_34 ((sb_byte ((97 + n3) - 1) (by omega)).2.1) ?_
    have hPs := xsub (cn := 0) hP (by rw [hco]) (by rw [hc3]; rfl)
    have hKs := xKsub hK
    have hns : A 18 ≠ A 19 := fun h9 => absurd (hN 18 19 (by omega) (by omega) h9) (by decide)
    have hS0 := hS
    refine va_callr (va_runV (As := [.int (nI ((97 + n3) - 1))]) (rest := []) ⟨hx, hb, hml, hown, hts⟩ (s_J4_append_cf468 l dC dI ad E hEE (A 18) (A 19) (C 19) nb (st 19) (st 18 2) 0 _ ((97 + n3) - 1) hns hfit (by omega) (by omega) (by omega) (by omega)) (cwV 1 hts gX11_appendName_J4_append_cf468 rfl rfl rfl (by decide +kernel) ⟨Nat.le_of_ble_eq_true rfl, Nat.le_of_ble_eq_true rfl⟩) ⟨fun a U g mk q => ⟨q.1, sPre.blind hEE q.2⟩, va_recv hKs hPs (ci := 0) (q0 := 0) rfl rfl, fun U hU hW => ⟨rfl, sPre.of hEE hPs hKs hE hS (hBR.sa _ hS.1) hU hW⟩⟩ rfl rfl hl.1 rfl (lv_room (Nat.le_of_ble_eq_true rfl)) dX11_appendName_35 ⟨Nat.le_of_ble_eq_true rfl, Nat.le_of_ble_eq_true rfl⟩) hS (fun q _ h => hBR.sa _ hS.1 q h) (hBR.sa _ hS.1) (fun x r888 t H5 locs ht hvm hw hB hz hk hS => ?_)
    obtain ⟨hw, hr9, hB⟩ := hB
    subst hr9
    obtain ⟨hPt, hK2, hne2, hv2, hF2⟩ := hB
    rw [ht] at hPt
    have hK2 := va_K.moved hvm.symm hK2
    obtain ⟨v889, cB890, nb891, f892, ml893, cn894⟩ := x
    dsimp only at hPt hK2 hne2 hv2 hF2 hw
    obtain ⟨rfl, rfl, rfl, rfl, hw⟩ := hw
    have hj := xjoin hN hP hK hBR hS0.1 hPt hK2 hk hne2 hv2
    rw [A19_self, C19_self] at hj
    obtain ⟨st895, est895⟩ : ∃ y, y = st19 st f892 ml893 (nI (0 + 1)) := ⟨_, rfl⟩
    rw [← est895] at hj
    have hst895a : st895 18 1 = 0 := by rw [est895]; rfl
    have hst895b : st895 18 3 = (nI (0 + 1)) := by rw [est895]; rfl
    have hfit : sb_Fit (st895 19) := by rw [est895]; exact hF2
    have hGst895 : XG [1, 2, 3, 4, 5, 6, 7, 8, 9, 10, 11, 12] st st895 := by rw [est895]; exact xg19 (XG.rf hG.1) (by decide) _ _ _
    have hG : XG [1, 2, 3, 4, 5, 6, 7, 8, 9, 10, 11, 12] st st895 := by rw [est895]; exact xg19 hG (by decide) _ _ _
    clear hK2 hne2 hv2 hF2 ht hvm est895 hPs hKs hk hz
    obtain ⟨hP, hK, hN, hBR⟩ := hj
    clear hw
    refine lv_pop hx hb dX11_appendName_38 rfl ?_
    exact kj7 _ _ _ _ ⟨st895, sl, (0 + 1), by omega, by rw [hst895b], by rw [hst895a], hfit, by omega, hP, hG, hS, lv_sub hl [1, 2, 3] rfl, rfl⟩
set_option maxHeartbeats 4000000 in
set_option maxRecDepth 100000 in
theorem x_X11_byteAt (l : Launch) (dC : Nat → ClassId) (dI : Nat → Nat → Nat) (ad : Nat → Nat) (E : EP) (hEE : EC ad E) (A : Nat → Nat) (C : Nat → ClassId) (nb sz : Nat) (hN : XN A) (st : Nat → Nat → Int32) (sl : Nat → Nat → Int64) (so : Nat → XR) (va : Int32) (hI : XI st) (hBD : BD nb st) : Met l yX11_byteAt wsX11_byteAt ({ frames := 4, cells := 0, slots := 0, locals := 88 }) (va_Pc [.ref (A 0), .int va] (xPre E dC dI A C nb sz st sl so)) (va_Qi (fun (r : Int32) (x : XT) => XG [1, 2, 3, 4, 5, 6, 7, 8, 9, 10, 11, 12] st x.1 ∧ x.2.2 = so ∧ (True)) (xB dC dI A C nb) (XA A sz)) 0 0 (XA A sz) := by
  refine Met.ofW (cc := cX11_byteAt) (maxL := 2) (ret := (some .int)) (by decide) rfl ?_
  intro p e s m args below meth c s₁ B hml hv
  obtain ⟨rfl, hsz, hP, hK, hE⟩ := hv
  have hx := B.exec
  have hb := B.bytes
  have hr := B.returns
  have hts := atoms_spec (ws := wsX11_byteAt) B.pre
  have hown : s.vm.findClass RX11 = some m.cls := findClass_of_methodNamed B.named
  subst hsz
  have hEv := hEE.1 _ _ _ hE
  have hS : va_S (XA A s.heap.size) s.heap s.heap [] := va_S.rf
  have hG : XG [1, 2, 3, 4, 5, 6, 7, 8, 9, 10, 11, 12] st st := XG.rf hI
  have hBR : BR A A s.heap.size := BR.rf
  have hl := lv_entry ([.ref (A 0), .int va]) (n := 2) (Nat.le_of_ble_eq_true rfl)
  rw [lg_entry_eq]
  generalize (lg_sl ([.ref (A 0), .int va]) ++ List.replicate (2 - (lg_sl ([.ref (A 0), .int va])).length) Slot.unset).toArray = ls at hl ⊢
  have hl : lv_has ls 2 [(0, .ref (A 0)), (1, .int va)] := hl
  obtain ⟨hco, hnb, ⟨gn, hc3, hcle, hc30⟩, hfit⟩ := hBD
  refine lv_iload_n hx hb dX11_byteAt_0 rfl (lv_at hl 1 rfl) ?_
  refine lv_if_lt (tgt := 15) hx hb dX11_byteAt_1 (by decide) (fun c1 => ?_) (fun c1 => ?_)
  · refine lv_iconst (v := (-1)) hx hb dX11_byteAt_15 (by decide) ?_
    exact W.iret (v := (-1)) hx hb hr (fun t ht hW => ⟨⟨(-1), (st, sl, so), rfl, ⟨hG, rfl, trivial⟩, xB.of ht hP⟩, hS.F ht⟩) hS.2.2 dX11_byteAt_16
  · refine lv_iload_n hx hb dX11_byteAt_4 rfl (lv_at hl 1 rfl) ?_
    refine lv_aload_n hx hb dX11_byteAt_5 rfl (lv_at hl 0 rfl) ?_
    refine va_get (D := (dC, dI)) (ci := 10) (v := .ref (A 18)) (C := RX11) (T := TX11) (N := 19) hx hb hts ii_X11_byteAt_X11 hown hK hP 0 (xw_is (r := 0) (by omega) (xc_fix (r := 0) (by omega))) rfl 14 (by decide) (hts _ mm_X11_byteAt_1) (fun _ hh => hh) rfl dX11_byteAt_6 ?_
    have hPs := xsub (cn := gn) hP (by rw [hco]) (by rw [hc3])
    have hKs := xKsub hK
    have hns : A 18 ≠ A 19 := fun h9 => absurd (hN 18 19 (by omega) (by omega) h9) (by decide)
    have hS0 := hS
    refine va_calli (va_runV (As := []) (rest := [.int va]) ⟨hx, hb, hml, hown, hts⟩ (s_J4_length_8abf5 l dC dI ad E hEE (A 18) (A 19) (C 19) nb (st 19) (st 18 2) gn _ hns hfit (by omega) (by omega) ) (cwV 0 hts gX11_byteAt_J4_length_8abf5 rfl rfl rfl (by decide +kernel) ⟨Nat.le_of_ble_eq_true rfl, Nat.le_of_ble_eq_true rfl⟩) ⟨fun a U g mk q => ⟨q.1, sPre.blind hEE q.2⟩, va_recv hKs hPs (ci := 0) (q0 := 0) rfl rfl, fun U hU hW => ⟨rfl, sPre.of hEE hPs hKs hE hS (hBR.sa _ hS.1) hU hW⟩⟩ rfl rfl hl.1 rfl (lv_room (Nat.le_of_ble_eq_true rfl)) dX11_byteAt_9 ⟨Nat.le_of_ble_eq_true rfl, Nat.le_of_ble_eq_true rfl⟩) hS (fun q _ h => hBR.sa _ hS.1 q h) (hBR.sa _ hS.1) (fun r1 x t H5 locs ht hvm hw hB hz hk hS => ?_)
    obtain ⟨hPt, hK2, hne2, hv2, hF2⟩ := hB
    rw [ht] at hPt
    have hK2 := va_K.moved hvm.symm hK2
    obtain ⟨rfl, hw⟩ := hw
    dsimp only at hPt hK2 hne2 hv2 hF2
    have hj := xjoin hN hP hK hBR hS0.1 hPt hK2 hk hne2 hv2
    rw [A19_self, C19_self] at hj
    obtain ⟨st8, est8⟩ : ∃ y, y = st19 st (st 19) (st 18 2) (nI gn) := ⟨_, rfl⟩
    rw [← est8] at hj
    have hst8a : st8 18 1 = 0 := by rw [est8]; rfl
    have hst8b : st8 18 3 = (nI gn) := by rw [est8]; rfl
    have hfit : sb_Fit (st8 19) := by rw [est8]; exact hF2
    have hGst8 : XG [1, 2, 3, 4, 5, 6, 7, 8, 9, 10, 11, 12] st st8 := by rw [est8]; exact xg19 (XG.rf hG.1) (by decide) _ _ _
    have hG : XG [1, 2, 3, 4, 5, 6, 7, 8, 9, 10, 11, 12] st st8 := by rw [est8]; exact xg19 hG (by decide) _ _ _
    clear hK2 hne2 hv2 hF2 ht hvm est8 hPs hKs hk hz
    obtain ⟨hP, hK, hN, hBR⟩ := hj
    obtain ⟨n9, rfl, hf10⟩ := hw
    refine lv_icmp_lt (tgt := 17) hx hb dX11_byteAt_12 (by decide) (fun c2 => ?_) (fun c2 => ?_)
    · refine lv_aload_n hx hb dX11_byteAt_17 rfl (lv_at hl 0 rfl) ?_
      refine va_get (D := (dC, dI)) (ci := 10) (v := .ref (A 18)) (C := RX11) (T := TX11) (N := 19) hx hb hts ii_X11_byteAt_X11 hown hK hP 0 (xw_is (r := 0) (by omega) (xc_fix (r := 0) (by omega))) rfl 14 (by decide) (hts _ mm_X11_byteAt_1) (fun _ hh => hh) rfl dX11_byteAt_18 ?_
      refine lv_iload_n hx hb dX11_byteAt_21 rfl (lv_at hl 1 rfl) ?_
      have hPs := xsub (cn := gn) hP (by rw [hst8a]) (by rw [hst8b])
      have hKs := xKsub hK
      have hns : A 18 ≠ A 19 := fun h9 => absurd (hN 18 19 (by omega) (by omega) h9) (by decide)
      have hS0 := hS
      refine va_calli (va_runV (As := [.int va]) (rest := []) ⟨hx, hb, hml, hown, hts⟩ (s_J4_charAt_5068e l dC dI ad E hEE (A 18) (A 19) (C 19) nb (st8 19) (st8 18 2) gn _ va hns hfit (by omega) (by omega) (by omega) (by omega)) (cwV 1 hts gX11_byteAt_J4_charAt_5068e rfl rfl rfl (by decide +kernel) ⟨Nat.le_of_ble_eq_true rfl, Nat.le_of_ble_eq_true rfl⟩) ⟨fun a U g mk q => ⟨q.1, sPre.blind hEE q.2⟩, va_recv hKs hPs (ci := 0) (q0 := 0) rfl rfl, fun U hU hW => ⟨rfl, sPre.of hEE hPs hKs hE hS (hBR.sa _ hS.1) hU hW⟩⟩ rfl rfl hl.1 rfl (lv_room (Nat.le_of_ble_eq_true rfl)) dX11_byteAt_22 ⟨Nat.le_of_ble_eq_true rfl, Nat.le_of_ble_eq_true rfl⟩) hS (fun q _ h => hBR.sa _ hS.1 q h) (hBR.sa _ hS.1) (fun r11 x t H5 locs ht hvm hw hB hz hk hS => ?_)
      obtain ⟨hPt, hK2, hne2, hv2, hF2⟩ := hB
      rw [ht] at hPt
      have hK2 := va_K.moved hvm.symm hK2
      obtain ⟨rfl, hw⟩ := hw
      dsimp only at hPt hK2 hne2 hv2 hF2
      have hj := xjoin hN hP hK hBR hS0.1 hPt hK2 hk hne2 hv2
      rw [A19_self, C19_self] at hj
      obtain ⟨st18, est18⟩ : ∃ y, y = st19 st8 (st8 19) (st8 18 2) (nI gn) := ⟨_, rfl⟩
      rw [← est18] at hj
      have hst18a : st18 18 1 = 0 := by rw [est18]; rfl
      have hst18b : st18 18 3 = (nI gn) := by rw [est18]; rfl
      have hfit : sb_Fit (st18 19) := by rw [est18]; exact hF2
      have hGst18 : XG [1, 2, 3, 4, 5, 6, 7, 8, 9, 10, 11, 12] st8 st18 := by rw [est18]; exact xg19 (XG.rf hG.1) (by decide) _ _ _
      have hG : XG [1, 2, 3, 4, 5, 6, 7, 8, 9, 10, 11, 12] st st18 := by rw [est18]; exact xg19 hG (by decide) _ _ _
      clear hK2 hne2 hv2 hF2 ht hvm est18 hPs hKs hk hz
      obtain ⟨hP, hK, hN, hBR⟩ := hj
      have hf19 := hw
      exact W.iret (v := r11) hx hb hr (fun t ht hW => ⟨⟨r11, (st18, sl, so), rfl, ⟨hG, rfl, trivial⟩, xB.of ht hP⟩, hS.F ht⟩) hS.2.2 dX11_byteAt_25
    · refine lv_iconst (v := (-1)) hx hb dX11_byteAt_15 (by decide) ?_
      exact W.iret (v := (-1)) hx hb hr (fun t ht hW => ⟨⟨(-1), (st8, sl, so), rfl, ⟨hG, rfl, trivial⟩, xB.of ht hP⟩, hS.F ht⟩) hS.2.2 dX11_byteAt_16
