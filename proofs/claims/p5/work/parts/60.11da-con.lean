set_option maxHeartbeats 4000000 in
set_option maxRecDepth 100000 in
theorem x_X11_appendName (l : Launch) (dC : Nat → ClassId) (dI : Nat → Nat → Nat) (ad : Nat → Nat) (E : EP) (hEE : EC ad E) (A : Nat → Nat) (C : Nat → ClassId) (nb sz : Nat) (hN : XN A) (st : Nat → Nat → Int32) (sl : Nat → Nat → Int64) (so : Nat → XR) (vw : Int64) (hI : XI st) (hco : st 18 1 = 0) (hc3 : st 18 3 = 0) (hnb : nb = 16 ∨ nb = 34) (hfit : sb_Fit (st 19)) : Met l yX11_appendName wsX11_appendName ({ frames := 3, cells := 0, slots := 0, locals := 64 }) (va_Pc [.ref (A 0), .long vw] (xPre E dC dI A C nb sz st sl so)) (va_Qv (fun (x : XT) => XG [1, 2, 3, 4, 5, 6, 7, 8, 9, 10, 11, 12, 14, 15] st x.1 ∧ LGq sl x.2.1 ∧ x.2.2 = so ∧ (∃ n : Nat, x.1 18 1 = 0 ∧ x.1 18 3 = nI n ∧ n ≤ 7 ∧ sb_Fit (x.1 19))) (xB dC dI A C nb) (XA A sz)) 0 0 (XA A sz) := by
  refine Met.ofW (cc := cX11_appendName) (maxL := 5) (ret := none) (by decide) rfl ?_
  intro p e s m args below meth c s₁ B hml hv
  obtain ⟨rfl, hsz, hP, hK, hE⟩ := hv
  have hx := B.exec
  have hb := B.bytes
  have hr := B.returns
  have hts := atoms_spec (ws := wsX11_appendName) B.pre
  have hown : s.vm.findClass RX11 = some m.cls := findClass_of_methodNamed B.named
  subst hsz
  have hEv := hEE.1 _ _ _ hE
  have hS : va_S (XA A s.heap.size) s.heap s.heap [] := va_S.rf
  have hG : XG [1, 2, 3, 4, 5, 6, 7, 8, 9, 10, 11, 12, 14, 15] st st := XG.rf hI
  have hBR : BR A A s.heap.size := BR.rf
  have hl := lv_entry ([.ref (A 0), .long vw]) (n := 5) (Nat.le_of_ble_eq_true rfl)
  rw [lg_entry_eq]
  generalize (lg_sl ([.ref (A 0), .long vw]) ++ List.replicate (5 - (lg_sl ([.ref (A 0), .long vw])).length) Slot.unset).toArray = ls at hl ⊢
  have hl : lv_has ls 5 [(0, .ref (A 0)), (1, .long vw)] := hl
  have hL : LGq sl sl := LGq.rf
  refine lv_bipush (v := 6) hx hb dX11_appendName_0 (by decide) ?_
  refine lv_istore_n (lv' := [(3, .int 6), (0, .ref (A 0)), (1, .long vw)]) hx hb dX11_appendName_2 rfl hl (by decide) rfl (fun ls hl => ?_)
  refine lv_iload_n hx hb dX11_appendName_3 rfl (lv_at hl 0 rfl) ?_
  refine lv_if_lt (tgt := 45) hx hb dX11_appendName_4 (by decide) (fun cc => absurd cc (by decide)) (fun _ => ?_)
  refine lv_lload_n hx hb dX11_appendName_7 rfl (lv_at hl 2 rfl) ?_
  refine lv_iload_n hx hb dX11_appendName_8 rfl (lv_at hl 0 rfl) ?_
  refine lv_iconst (v := 5) hx hb dX11_appendName_9 (by decide) ?_
  refine lv_imul hx hb dX11_appendName_10 ?_
  refine zz_top (v := 30) (by decide) ?_
  refine lv_lushr hx hb dX11_appendName_11 rfl ?_
  refine lv_topl (fun z1 ez1 => ?_)
  clear ez1
  refine lv_l2i hx hb dX11_appendName_12 rfl ?_
  refine lv_topi (fun z2 ez2 => ?_)
  clear ez2
  refine lv_bipush (v := 31) hx hb dX11_appendName_13 (by decide) ?_
  refine lv_iand hx hb dX11_appendName_15 ?_
  obtain ⟨n3, hn3, en3⟩ := pk_andE (z2) (m := 31) 5 (by decide)
  have hn3 : n3 < 32 := hn3
  refine zz_top (v := nI n3) en3 ?_
  refine lv_istore (lv' := [(4, .int (nI n3)), (3, .int 6), (0, .ref (A 0)), (1, .long vw)]) hx hb dX11_appendName_16 hl (by decide) rfl (fun ls hl => ?_)
  refine lv_iload hx hb dX11_appendName_18 (lv_at hl 0 rfl) ?_
  refine zz_join (pcJ := 39) (fun stk H locs ls => ∃ st4 : Nat → Nat → Int32, ∃ sl5 : Nat → Nat → Int64, ∃ g6 : Nat, g6 < 31 ∧ st4 18 3 = nI g6 ∧ st4 18 1 = 0 ∧ sb_Fit (st4 19) ∧ g6 + 6 ≤ 7 ∧ va_P (dC, dI) vwCl (xw A C nb st4 sl5 so) H ∧ XG [1, 2, 3, 4, 5, 6, 7, 8, 9, 10, 11, 12, 14, 15] st st4 ∧ LGq sl sl5 ∧ va_S (XA A s.heap.size) s.heap H locs ∧ lv_has ls 5 [(3, .int 6), (0, .ref (A 0)), (1, .long vw)] ∧ stk = []) ?_ (fun kj7 => ?_)
  · rintro stk H locs ls ⟨st4, sl5, g6, hv8_0, eg6, hv9_0, hv10_1, hv11_2, hP, hG, hL, hS, hl, rfl⟩
    have hfit := hv10_1
    refine lv_iinc (v := 5) (lv' := [(3, .int 5), (0, .ref (A 0)), (1, .long vw)]) hx hb dX11_appendName_39 hl (k := 0) rfl (by decide) (by decide) rfl (fun ls hl => ?_)
    refine lv_goto (tgt := 3) hx hb dX11_appendName_42 (by decide) ?_
    refine lv_iload_n hx hb dX11_appendName_3 rfl (lv_at hl 0 rfl) ?_
    refine lv_if_lt (tgt := 45) hx hb dX11_appendName_4 (by decide) (fun cc => absurd cc (by decide)) (fun _ => ?_)
    refine lv_lload_n hx hb dX11_appendName_7 rfl (lv_at hl 2 rfl) ?_
    refine lv_iload_n hx hb dX11_appendName_8 rfl (lv_at hl 0 rfl) ?_
    refine lv_iconst (v := 5) hx hb dX11_appendName_9 (by decide) ?_
    refine lv_imul hx hb dX11_appendName_10 ?_
    refine zz_top (v := 25) (by decide) ?_
    refine lv_lushr hx hb dX11_appendName_11 rfl ?_
    refine lv_topl (fun z12 ez12 => ?_)
    clear ez12
    refine lv_l2i hx hb dX11_appendName_12 rfl ?_
    refine lv_topi (fun z13 ez13 => ?_)
    clear ez13
    refine lv_bipush (v := 31) hx hb dX11_appendName_13 (by decide) ?_
    refine lv_iand hx hb dX11_appendName_15 ?_
    obtain ⟨n14, hn14, en14⟩ := pk_andE (z13) (m := 31) 5 (by decide)
    have hn14 : n14 < 32 := hn14
    refine zz_top (v := nI n14) en14 ?_
    refine lv_istore (lv' := [(4, .int (nI n14)), (3, .int 5), (0, .ref (A 0)), (1, .long vw)]) hx hb dX11_appendName_16 hl (by decide) rfl (fun ls hl => ?_)
    refine lv_iload hx hb dX11_appendName_18 (lv_at hl 0 rfl) ?_
    refine zz_join (pcJ := 39) (fun stk H locs ls => ∃ st15 : Nat → Nat → Int32, ∃ sl16 : Nat → Nat → Int64, ∃ g17 : Nat, g17 < 31 ∧ st15 18 3 = nI g17 ∧ st15 18 1 = 0 ∧ sb_Fit (st15 19) ∧ g17 + 5 ≤ 7 ∧ va_P (dC, dI) vwCl (xw A C nb st15 sl16 so) H ∧ XG [1, 2, 3, 4, 5, 6, 7, 8, 9, 10, 11, 12, 14, 15] st st15 ∧ LGq sl sl16 ∧ va_S (XA A s.heap.size) s.heap H locs ∧ lv_has ls 5 [(3, .int 5), (0, .ref (A 0)), (1, .long vw)] ∧ stk = []) ?_ (fun kj18 => ?_)
    · rintro stk H locs ls ⟨st15, sl16, g17, hv19_0, eg17, hv20_0, hv21_1, hv22_2, hP, hG, hL, hS, hl, rfl⟩
      have hfit := hv21_1
      refine lv_iinc (v := 4) (lv' := [(3, .int 4), (0, .ref (A 0)), (1, .long vw)]) hx hb dX11_appendName_39 hl (k := 0) rfl (by decide) (by decide) rfl (fun ls hl => ?_)
      refine lv_goto (tgt := 3) hx hb dX11_appendName_42 (by decide) ?_
      refine lv_iload_n hx hb dX11_appendName_3 rfl (lv_at hl 0 rfl) ?_
      refine lv_if_lt (tgt := 45) hx hb dX11_appendName_4 (by decide) (fun cc => absurd cc (by decide)) (fun _ => ?_)
      refine lv_lload_n hx hb dX11_appendName_7 rfl (lv_at hl 2 rfl) ?_
      refine lv_iload_n hx hb dX11_appendName_8 rfl (lv_at hl 0 rfl) ?_
      refine lv_iconst (v := 5) hx hb dX11_appendName_9 (by decide) ?_
      refine lv_imul hx hb dX11_appendName_10 ?_
      refine zz_top (v := 20) (by decide) ?_
      refine lv_lushr hx hb dX11_appendName_11 rfl ?_
      refine lv_topl (fun z23 ez23 => ?_)
      clear ez23
      refine lv_l2i hx hb dX11_appendName_12 rfl ?_
      refine lv_topi (fun z24 ez24 => ?_)
      clear ez24
      refine lv_bipush (v := 31) hx hb dX11_appendName_13 (by decide) ?_
      refine lv_iand hx hb dX11_appendName_15 ?_
      obtain ⟨n25, hn25, en25⟩ := pk_andE (z24) (m := 31) 5 (by decide)
      have hn25 : n25 < 32 := hn25
      refine zz_top (v := nI n25) en25 ?_
      refine lv_istore (lv' := [(4, .int (nI n25)), (3, .int 4), (0, .ref (A 0)), (1, .long vw)]) hx hb dX11_appendName_16 hl (by decide) rfl (fun ls hl => ?_)
      refine lv_iload hx hb dX11_appendName_18 (lv_at hl 0 rfl) ?_
      refine zz_join (pcJ := 39) (fun stk H locs ls => ∃ st26 : Nat → Nat → Int32, ∃ sl27 : Nat → Nat → Int64, ∃ g28 : Nat, g28 < 31 ∧ st26 18 3 = nI g28 ∧ st26 18 1 = 0 ∧ sb_Fit (st26 19) ∧ g28 + 4 ≤ 7 ∧ va_P (dC, dI) vwCl (xw A C nb st26 sl27 so) H ∧ XG [1, 2, 3, 4, 5, 6, 7, 8, 9, 10, 11, 12, 14, 15] st st26 ∧ LGq sl sl27 ∧ va_S (XA A s.heap.size) s.heap H locs ∧ lv_has ls 5 [(3, .int 4), (0, .ref (A 0)), (1, .long vw)] ∧ stk = []) ?_ (fun kj29 => ?_)
      · rintro stk H locs ls ⟨st26, sl27, g28, hv30_0, eg28, hv31_0, hv32_1, hv33_2, hP, hG, hL, hS, hl, rfl⟩
        have hfit := hv32_1
        refine lv_iinc (v := 3) (lv' := [(3, .int 3), (0, .ref (A 0)), (1, .long vw)]) hx hb dX11_appendName_39 hl (k := 0) rfl (by decide) (by decide) rfl (fun ls hl => ?_)
        refine lv_goto (tgt := 3) hx hb dX11_appendName_42 (by decide) ?_
        refine lv_iload_n hx hb dX11_appendName_3 rfl (lv_at hl 0 rfl) ?_
        refine lv_if_lt (tgt := 45) hx hb dX11_appendName_4 (by decide) (fun cc => absurd cc (by decide)) (fun _ => ?_)
        refine lv_lload_n hx hb dX11_appendName_7 rfl (lv_at hl 2 rfl) ?_
        refine lv_iload_n hx hb dX11_appendName_8 rfl (lv_at hl 0 rfl) ?_
        refine lv_iconst (v := 5) hx hb dX11_appendName_9 (by decide) ?_
        refine lv_imul hx hb dX11_appendName_10 ?_
        refine zz_top (v := 15) (by decide) ?_
        refine lv_lushr hx hb dX11_appendName_11 rfl ?_
        refine lv_topl (fun z34 ez34 => ?_)
        clear ez34
        refine lv_l2i hx hb dX11_appendName_12 rfl ?_
        refine lv_topi (fun z35 ez35 => ?_)
        clear ez35
        refine lv_bipush (v := 31) hx hb dX11_appendName_13 (by decide) ?_
        refine lv_iand hx hb dX11_appendName_15 ?_
        obtain ⟨n36, hn36, en36⟩ := pk_andE (z35) (m := 31) 5 (by decide)
        have hn36 : n36 < 32 := hn36
        refine zz_top (v := nI n36) en36 ?_
        refine lv_istore (lv' := [(4, .int (nI n36)), (3, .int 3), (0, .ref (A 0)), (1, .long vw)]) hx hb dX11_appendName_16 hl (by decide) rfl (fun ls hl => ?_)
        refine lv_iload hx hb dX11_appendName_18 (lv_at hl 0 rfl) ?_
        refine zz_join (pcJ := 39) (fun stk H locs ls => ∃ st37 : Nat → Nat → Int32, ∃ sl38 : Nat → Nat → Int64, ∃ g39 : Nat, g39 < 31 ∧ st37 18 3 = nI g39 ∧ st37 18 1 = 0 ∧ sb_Fit (st37 19) ∧ g39 + 3 ≤ 7 ∧ va_P (dC, dI) vwCl (xw A C nb st37 sl38 so) H ∧ XG [1, 2, 3, 4, 5, 6, 7, 8, 9, 10, 11, 12, 14, 15] st st37 ∧ LGq sl sl38 ∧ va_S (XA A s.heap.size) s.heap H locs ∧ lv_has ls 5 [(3, .int 3), (0, .ref (A 0)), (1, .long vw)] ∧ stk = []) ?_ (fun kj40 => ?_)
        · rintro stk H locs ls ⟨st37, sl38, g39, hv41_0, eg39, hv42_0, hv43_1, hv44_2, hP, hG, hL, hS, hl, rfl⟩
          have hfit := hv43_1
          refine lv_iinc (v := 2) (lv' := [(3, .int 2), (0, .ref (A 0)), (1, .long vw)]) hx hb dX11_appendName_39 hl (k := 0) rfl (by decide) (by decide) rfl (fun ls hl => ?_)
          refine lv_goto (tgt := 3) hx hb dX11_appendName_42 (by decide) ?_
          refine lv_iload_n hx hb dX11_appendName_3 rfl (lv_at hl 0 rfl) ?_
          refine lv_if_lt (tgt := 45) hx hb dX11_appendName_4 (by decide) (fun cc => absurd cc (by decide)) (fun _ => ?_)
          refine lv_lload_n hx hb dX11_appendName_7 rfl (lv_at hl 2 rfl) ?_
          refine lv_iload_n hx hb dX11_appendName_8 rfl (lv_at hl 0 rfl) ?_
          refine lv_iconst (v := 5) hx hb dX11_appendName_9 (by decide) ?_
          refine lv_imul hx hb dX11_appendName_10 ?_
          refine zz_top (v := 10) (by decide) ?_
          refine lv_lushr hx hb dX11_appendName_11 rfl ?_
          refine lv_topl (fun z45 ez45 => ?_)
          clear ez45
          refine lv_l2i hx hb dX11_appendName_12 rfl ?_
          refine lv_topi (fun z46 ez46 => ?_)
          clear ez46
          refine lv_bipush (v := 31) hx hb dX11_appendName_13 (by decide) ?_
          refine lv_iand hx hb dX11_appendName_15 ?_
          obtain ⟨n47, hn47, en47⟩ := pk_andE (z46) (m := 31) 5 (by decide)
          have hn47 : n47 < 32 := hn47
          refine zz_top (v := nI n47) en47 ?_
          refine lv_istore (lv' := [(4, .int (nI n47)), (3, .int 2), (0, .ref (A 0)), (1, .long vw)]) hx hb dX11_appendName_16 hl (by decide) rfl (fun ls hl => ?_)
          refine lv_iload hx hb dX11_appendName_18 (lv_at hl 0 rfl) ?_
          refine zz_join (pcJ := 39) (fun stk H locs ls => ∃ st48 : Nat → Nat → Int32, ∃ sl49 : Nat → Nat → Int64, ∃ g50 : Nat, g50 < 31 ∧ st48 18 3 = nI g50 ∧ st48 18 1 = 0 ∧ sb_Fit (st48 19) ∧ g50 + 2 ≤ 7 ∧ va_P (dC, dI) vwCl (xw A C nb st48 sl49 so) H ∧ XG [1, 2, 3, 4, 5, 6, 7, 8, 9, 10, 11, 12, 14, 15] st st48 ∧ LGq sl sl49 ∧ va_S (XA A s.heap.size) s.heap H locs ∧ lv_has ls 5 [(3, .int 2), (0, .ref (A 0)), (1, .long vw)] ∧ stk = []) ?_ (fun kj51 => ?_)
          · rintro stk H locs ls ⟨st48, sl49, g50, hv52_0, eg50, hv53_0, hv54_1, hv55_2, hP, hG, hL, hS, hl, rfl⟩
            have hfit := hv54_1
            refine lv_iinc (v := 1) (lv' := [(3, .int 1), (0, .ref (A 0)), (1, .long vw)]) hx hb dX11_appendName_39 hl (k := 0) rfl (by decide) (by decide) rfl (fun ls hl => ?_)
            refine lv_goto (tgt := 3) hx hb dX11_appendName_42 (by decide) ?_
            refine lv_iload_n hx hb dX11_appendName_3 rfl (lv_at hl 0 rfl) ?_
            refine lv_if_lt (tgt := 45) hx hb dX11_appendName_4 (by decide) (fun cc => absurd cc (by decide)) (fun _ => ?_)
            refine lv_lload_n hx hb dX11_appendName_7 rfl (lv_at hl 2 rfl) ?_
            refine lv_iload_n hx hb dX11_appendName_8 rfl (lv_at hl 0 rfl) ?_
            refine lv_iconst (v := 5) hx hb dX11_appendName_9 (by decide) ?_
            refine lv_imul hx hb dX11_appendName_10 ?_
            refine zz_top (v := 5) (by decide) ?_
            refine lv_lushr hx hb dX11_appendName_11 rfl ?_
            refine lv_topl (fun z56 ez56 => ?_)
            clear ez56
            refine lv_l2i hx hb dX11_appendName_12 rfl ?_
            refine lv_topi (fun z57 ez57 => ?_)
            clear ez57
            refine lv_bipush (v := 31) hx hb dX11_appendName_13 (by decide) ?_
            refine lv_iand hx hb dX11_appendName_15 ?_
            obtain ⟨n58, hn58, en58⟩ := pk_andE (z57) (m := 31) 5 (by decide)
            have hn58 : n58 < 32 := hn58
            refine zz_top (v := nI n58) en58 ?_
            refine lv_istore (lv' := [(4, .int (nI n58)), (3, .int 1), (0, .ref (A 0)), (1, .long vw)]) hx hb dX11_appendName_16 hl (by decide) rfl (fun ls hl => ?_)
            refine lv_iload hx hb dX11_appendName_18 (lv_at hl 0 rfl) ?_
            refine zz_join (pcJ := 39) (fun stk H locs ls => ∃ st59 : Nat → Nat → Int32, ∃ sl60 : Nat → Nat → Int64, ∃ g61 : Nat, g61 < 31 ∧ st59 18 3 = nI g61 ∧ st59 18 1 = 0 ∧ sb_Fit (st59 19) ∧ g61 + 1 ≤ 7 ∧ va_P (dC, dI) vwCl (xw A C nb st59 sl60 so) H ∧ XG [1, 2, 3, 4, 5, 6, 7, 8, 9, 10, 11, 12, 14, 15] st st59 ∧ LGq sl sl60 ∧ va_S (XA A s.heap.size) s.heap H locs ∧ lv_has ls 5 [(3, .int 1), (0, .ref (A 0)), (1, .long vw)] ∧ stk = []) ?_ (fun kj62 => ?_)
            · rintro stk H locs ls ⟨st59, sl60, g61, hv63_0, eg61, hv64_0, hv65_1, hv66_2, hP, hG, hL, hS, hl, rfl⟩
              have hfit := hv65_1
              refine lv_iinc (v := 0) (lv' := [(3, .int 0), (0, .ref (A 0)), (1, .long vw)]) hx hb dX11_appendName_39 hl (k := 0) rfl (by decide) (by decide) rfl (fun ls hl => ?_)
              refine lv_goto (tgt := 3) hx hb dX11_appendName_42 (by decide) ?_
              refine lv_iload_n hx hb dX11_appendName_3 rfl (lv_at hl 0 rfl) ?_
              refine lv_if_lt (tgt := 45) hx hb dX11_appendName_4 (by decide) (fun cc => absurd cc (by decide)) (fun _ => ?_)
              refine lv_lload_n hx hb dX11_appendName_7 rfl (lv_at hl 2 rfl) ?_
              refine lv_iload_n hx hb dX11_appendName_8 rfl (lv_at hl 0 rfl) ?_
              refine lv_iconst (v := 5) hx hb dX11_appendName_9 (by decide) ?_
              refine lv_imul hx hb dX11_appendName_10 ?_
              refine zz_top (v := 0) (by decide) ?_
              refine lv_lushr hx hb dX11_appendName_11 rfl ?_
              refine lv_topl (fun z67 ez67 => ?_)
              clear ez67
              refine lv_l2i hx hb dX11_appendName_12 rfl ?_
              refine lv_topi (fun z68 ez68 => ?_)
              clear ez68
              refine lv_bipush (v := 31) hx hb dX11_appendName_13 (by decide) ?_
              refine lv_iand hx hb dX11_appendName_15 ?_
              obtain ⟨n69, hn69, en69⟩ := pk_andE (z68) (m := 31) 5 (by decide)
              have hn69 : n69 < 32 := hn69
              refine zz_top (v := nI n69) en69 ?_
              refine lv_istore (lv' := [(4, .int (nI n69)), (3, .int 0), (0, .ref (A 0)), (1, .long vw)]) hx hb dX11_appendName_16 hl (by decide) rfl (fun ls hl => ?_)
              refine lv_iload hx hb dX11_appendName_18 (lv_at hl 0 rfl) ?_
              refine zz_join (pcJ := 39) (fun stk H locs ls => ∃ st70 : Nat → Nat → Int32, ∃ sl71 : Nat → Nat → Int64, ∃ g72 : Nat, g72 < 31 ∧ st70 18 3 = nI g72 ∧ st70 18 1 = 0 ∧ sb_Fit (st70 19) ∧ g72 + 0 ≤ 7 ∧ va_P (dC, dI) vwCl (xw A C nb st70 sl71 so) H ∧ XG [1, 2, 3, 4, 5, 6, 7, 8, 9, 10, 11, 12, 14, 15] st st70 ∧ LGq sl sl71 ∧ va_S (XA A s.heap.size) s.heap H locs ∧ lv_has ls 5 [(3, .int 0), (0, .ref (A 0)), (1, .long vw)] ∧ stk = []) ?_ (fun kj73 => ?_)
              · rintro stk H locs ls ⟨st70, sl71, g72, hv74_0, eg72, hv75_0, hv76_1, hv77_2, hP, hG, hL, hS, hl, rfl⟩
                have hfit := hv76_1
                refine lv_iinc (v := (-1)) (lv' := [(3, .int (-1)), (0, .ref (A 0)), (1, .long vw)]) hx hb dX11_appendName_39 hl (k := 0) rfl (by decide) (by decide) rfl (fun ls hl => ?_)
                refine lv_goto (tgt := 3) hx hb dX11_appendName_42 (by decide) ?_
                refine lv_iload_n hx hb dX11_appendName_3 rfl (lv_at hl 0 rfl) ?_
                refine lv_if_lt (tgt := 45) hx hb dX11_appendName_4 (by decide) (fun _ => ?_) (fun cc => absurd (by decide) cc)
                exact W.vret hx hb hr (fun t ht hW => ⟨⟨(st70, sl71, so), rfl, ⟨hG, hL, rfl, ⟨g72, by show st70 18 1 = 0; rw [hv75_0], by show st70 18 3 = _; rw [eg72], by omega, hfit⟩⟩, xB.of ht hP⟩, hS.F ht⟩) hS.2.2 dX11_appendName_45
              refine lv_if_eq (tgt := 39) hx hb dX11_appendName_20 (by decide) (fun c9 => ?_) (fun c9 => ?_)
              · have c9 : n69 = 0 := (nI_eq (a := n69) (b := 0) (by omega) (by omega)).mp c9
                exact kj73 _ _ _ _ ⟨st59, sl60, g61, by omega, by rw [eg61], by rw [hv64_0], hfit, by omega, hP, hG, hL, hS, lv_sub hl [1, 2, 3] rfl, rfl⟩
              · have c9 : ¬ n69 = 0 := fun hh => c9 ((nI_eq (a := n69) (b := 0) (by omega) (by omega)).mpr hh)
                refine lv_aload_n hx hb dX11_appendName_23 rfl (lv_at hl 2 rfl) ?_
                refine va_get (D := (dC, dI)) (ci := 10) (v := .ref (A 18)) (C := RX11) (T := TX11) (N := 19) hx hb hts ii_X11_appendName_X11 hown hK hP 0 (xw_is (r := 0) (by omega) (xc_fix (r := 0) (by omega))) rfl 14 (by decide) (hts _ mm_X11_appendName_1) (fun _ hh => hh) rfl dX11_appendName_24 ?_
                refine lv_bipush (v := 97) hx hb dX11_appendName_27 (by decide) ?_
                refine lv_iload hx hb dX11_appendName_29 (lv_at hl 0 rfl) ?_
                refine lv_iadd hx hb dX11_appendName_31 ?_
                refine zz_top (v := nI (97 + n69)) (nI_add 97 n69) ?_
                refine lv_iconst (v := 1) hx hb dX11_appendName_32 (by decide) ?_
                refine lv_isub hx hb dX11_appendName_33 ?_
                refine zz_top (v := nI ((97 + n69) - 1)) (nI_subN (a := (97 + n69)) (b := 1) (by omega) (by omega)) ?_
                refine lv_i2c (v := (nI ((97 + n69) - 1))) hx hb dX11_appendName_34 ((sb_byte ((97 + n69) - 1) (by omega)).2.1) ?_
                have hPs := xsub (cn := g61) hP (by rw [hv64_0]) (by rw [eg61])
                have hKs := xKsub hK
                have hns : A 18 ≠ A 19 := fun h9 => absurd (hN 18 19 (by omega) (by omega) h9) (by decide)
                have hS0 := hS
                refine va_callr (va_runV (As := [.int (nI ((97 + n69) - 1))]) (rest := []) ⟨hx, hb, hml, hown, hts⟩ (s_J4_append_cf468 l dC dI ad E hEE (A 18) (A 19) (C 19) nb (st59 19) (st59 18 2) g61 _ ((97 + n69) - 1) hns hfit (by omega) (by omega) (by omega) (by omega)) (cwV 1 hts gX11_appendName_J4_append_cf468 rfl rfl rfl (by decide +kernel) ⟨Nat.le_of_ble_eq_true rfl, Nat.le_of_ble_eq_true rfl⟩) ⟨fun a U g mk q => ⟨q.1, sPre.blind hEE q.2⟩, va_recv hKs hPs (ci := 0) (q0 := 0) rfl rfl, fun U hU hW => ⟨rfl, sPre.of hEE hPs hKs hE hS (hBR.sa _ hS.1) hU hW⟩⟩ rfl rfl hl.1 rfl (lv_room (Nat.le_of_ble_eq_true rfl)) dX11_appendName_35 ⟨Nat.le_of_ble_eq_true rfl, Nat.le_of_ble_eq_true rfl⟩) hS (fun q _ h => hBR.sa _ hS.1 q h) (hBR.sa _ hS.1) (fun x r78 t H5 locs ht hvm hw hB hz hk hS => ?_)
                obtain ⟨hw, hr9, hB⟩ := hB
                replace hr9 := hr9.symm
                subst hr9
                obtain ⟨hPt, hK2, hne2, hv2, hF2⟩ := hB
                rw [ht] at hPt
                obtain ⟨v79, cB80, nb81, f82, ml83, cn84⟩ := x
                dsimp only at hPt hK2 hne2 hv2 hF2 hw
                obtain ⟨rfl, rfl, rfl, rfl, hw⟩ := hw
                have hK3 := va_K.moved hvm.symm hK2
                have hj := xjoin hN hP hK hBR hS0.1 hPt hK3 hk hne2 hv2
                rw [A19_self, C19_self] at hj
                obtain ⟨st85, est85⟩ : ∃ y, y = st19 st59 f82 ml83 (nI (g61 + 1)) := ⟨_, rfl⟩
                rw [← est85] at hj
                have hst85a : st85 18 1 = 0 := by rw [est85]; rfl
                have hst85b : st85 18 3 = (nI (g61 + 1)) := by rw [est85]; rfl
                have hfit : sb_Fit (st85 19) := by rw [est85]; exact hF2
                have hGst85 : XG [1, 2, 3, 4, 5, 6, 7, 8, 9, 10, 11, 12, 14, 15] st59 st85 := by rw [est85]; exact xg19 (XG.rf hG.1) (by decide) _ _ _
                have hG : XG [1, 2, 3, 4, 5, 6, 7, 8, 9, 10, 11, 12, 14, 15] st st85 := by rw [est85]; exact xg19 hG (by decide) _ _ _
                clear hK3 hK2 hne2 hv2 hF2 ht hvm est85 hPs hKs hk hz
                obtain ⟨hP, hK, hN, hBR⟩ := hj
                clear hw
                refine lv_pop hx hb dX11_appendName_38 rfl ?_
                exact kj73 _ _ _ _ ⟨st85, sl60, (g61 + 1), by omega, by rw [hst85b], by rw [hst85a], hfit, by omega, hP, hG, hL, hS, lv_sub hl [1, 2, 3] rfl, rfl⟩
            refine lv_if_eq (tgt := 39) hx hb dX11_appendName_20 (by decide) (fun c10 => ?_) (fun c10 => ?_)
            · have c10 : n58 = 0 := (nI_eq (a := n58) (b := 0) (by omega) (by omega)).mp c10
              exact kj62 _ _ _ _ ⟨st48, sl49, g50, by omega, by rw [eg50], by rw [hv53_0], hfit, by omega, hP, hG, hL, hS, lv_sub hl [1, 2, 3] rfl, rfl⟩
            · have c10 : ¬ n58 = 0 := fun hh => c10 ((nI_eq (a := n58) (b := 0) (by omega) (by omega)).mpr hh)
              refine lv_aload_n hx hb dX11_appendName_23 rfl (lv_at hl 2 rfl) ?_
              refine va_get (D := (dC, dI)) (ci := 10) (v := .ref (A 18)) (C := RX11) (T := TX11) (N := 19) hx hb hts ii_X11_appendName_X11 hown hK hP 0 (xw_is (r := 0) (by omega) (xc_fix (r := 0) (by omega))) rfl 14 (by decide) (hts _ mm_X11_appendName_1) (fun _ hh => hh) rfl dX11_appendName_24 ?_
              refine lv_bipush (v := 97) hx hb dX11_appendName_27 (by decide) ?_
              refine lv_iload hx hb dX11_appendName_29 (lv_at hl 0 rfl) ?_
              refine lv_iadd hx hb dX11_appendName_31 ?_
              refine zz_top (v := nI (97 + n58)) (nI_add 97 n58) ?_
              refine lv_iconst (v := 1) hx hb dX11_appendName_32 (by decide) ?_
              refine lv_isub hx hb dX11_appendName_33 ?_
              refine zz_top (v := nI ((97 + n58) - 1)) (nI_subN (a := (97 + n58)) (b := 1) (by omega) (by omega)) ?_
              refine lv_i2c (v := (nI ((97 + n58) - 1))) hx hb dX11_appendName_34 ((sb_byte ((97 + n58) - 1) (by omega)).2.1) ?_
              have hPs := xsub (cn := g50) hP (by rw [hv53_0]) (by rw [eg50])
              have hKs := xKsub hK
              have hns : A 18 ≠ A 19 := fun h9 => absurd (hN 18 19 (by omega) (by omega) h9) (by decide)
              have hS0 := hS
              refine va_callr (va_runV (As := [.int (nI ((97 + n58) - 1))]) (rest := []) ⟨hx, hb, hml, hown, hts⟩ (s_J4_append_cf468 l dC dI ad E hEE (A 18) (A 19) (C 19) nb (st48 19) (st48 18 2) g50 _ ((97 + n58) - 1) hns hfit (by omega) (by omega) (by omega) (by omega)) (cwV 1 hts gX11_appendName_J4_append_cf468 rfl rfl rfl (by decide +kernel) ⟨Nat.le_of_ble_eq_true rfl, Nat.le_of_ble_eq_true rfl⟩) ⟨fun a U g mk q => ⟨q.1, sPre.blind hEE q.2⟩, va_recv hKs hPs (ci := 0) (q0 := 0) rfl rfl, fun U hU hW => ⟨rfl, sPre.of hEE hPs hKs hE hS (hBR.sa _ hS.1) hU hW⟩⟩ rfl rfl hl.1 rfl (lv_room (Nat.le_of_ble_eq_true rfl)) dX11_appendName_35 ⟨Nat.le_of_ble_eq_true rfl, Nat.le_of_ble_eq_true rfl⟩) hS (fun q _ h => hBR.sa _ hS.1 q h) (hBR.sa _ hS.1) (fun x r86 t H5 locs ht hvm hw hB hz hk hS => ?_)
              obtain ⟨hw, hr9, hB⟩ := hB
              replace hr9 := hr9.symm
              subst hr9
              obtain ⟨hPt, hK2, hne2, hv2, hF2⟩ := hB
              rw [ht] at hPt
              obtain ⟨v87, cB88, nb89, f90, ml91, cn92⟩ := x
              dsimp only at hPt hK2 hne2 hv2 hF2 hw
              obtain ⟨rfl, rfl, rfl, rfl, hw⟩ := hw
              have hK3 := va_K.moved hvm.symm hK2
              have hj := xjoin hN hP hK hBR hS0.1 hPt hK3 hk hne2 hv2
              rw [A19_self, C19_self] at hj
              obtain ⟨st93, est93⟩ : ∃ y, y = st19 st48 f90 ml91 (nI (g50 + 1)) := ⟨_, rfl⟩
              rw [← est93] at hj
              have hst93a : st93 18 1 = 0 := by rw [est93]; rfl
              have hst93b : st93 18 3 = (nI (g50 + 1)) := by rw [est93]; rfl
              have hfit : sb_Fit (st93 19) := by rw [est93]; exact hF2
              have hGst93 : XG [1, 2, 3, 4, 5, 6, 7, 8, 9, 10, 11, 12, 14, 15] st48 st93 := by rw [est93]; exact xg19 (XG.rf hG.1) (by decide) _ _ _
              have hG : XG [1, 2, 3, 4, 5, 6, 7, 8, 9, 10, 11, 12, 14, 15] st st93 := by rw [est93]; exact xg19 hG (by decide) _ _ _
              clear hK3 hK2 hne2 hv2 hF2 ht hvm est93 hPs hKs hk hz
              obtain ⟨hP, hK, hN, hBR⟩ := hj
              clear hw
              refine lv_pop hx hb dX11_appendName_38 rfl ?_
              exact kj62 _ _ _ _ ⟨st93, sl49, (g50 + 1), by omega, by rw [hst93b], by rw [hst93a], hfit, by omega, hP, hG, hL, hS, lv_sub hl [1, 2, 3] rfl, rfl⟩
          refine lv_if_eq (tgt := 39) hx hb dX11_appendName_20 (by decide) (fun c11 => ?_) (fun c11 => ?_)
          · have c11 : n47 = 0 := (nI_eq (a := n47) (b := 0) (by omega) (by omega)).mp c11
            exact kj51 _ _ _ _ ⟨st37, sl38, g39, by omega, by rw [eg39], by rw [hv42_0], hfit, by omega, hP, hG, hL, hS, lv_sub hl [1, 2, 3] rfl, rfl⟩
          · have c11 : ¬ n47 = 0 := fun hh => c11 ((nI_eq (a := n47) (b := 0) (by omega) (by omega)).mpr hh)
            refine lv_aload_n hx hb dX11_appendName_23 rfl (lv_at hl 2 rfl) ?_
            refine va_get (D := (dC, dI)) (ci := 10) (v := .ref (A 18)) (C := RX11) (T := TX11) (N := 19) hx hb hts ii_X11_appendName_X11 hown hK hP 0 (xw_is (r := 0) (by omega) (xc_fix (r := 0) (by omega))) rfl 14 (by decide) (hts _ mm_X11_appendName_1) (fun _ hh => hh) rfl dX11_appendName_24 ?_
            refine lv_bipush (v := 97) hx hb dX11_appendName_27 (by decide) ?_
            refine lv_iload hx hb dX11_appendName_29 (lv_at hl 0 rfl) ?_
            refine lv_iadd hx hb dX11_appendName_31 ?_
            refine zz_top (v := nI (97 + n47)) (nI_add 97 n47) ?_
            refine lv_iconst (v := 1) hx hb dX11_appendName_32 (by decide) ?_
            refine lv_isub hx hb dX11_appendName_33 ?_
            refine zz_top (v := nI ((97 + n47) - 1)) (nI_subN (a := (97 + n47)) (b := 1) (by omega) (by omega)) ?_
            refine lv_i2c (v := (nI ((97 + n47) - 1))) hx hb dX11_appendName_34 ((sb_byte ((97 + n47) - 1) (by omega)).2.1) ?_
            have hPs := xsub (cn := g39) hP (by rw [hv42_0]) (by rw [eg39])
            have hKs := xKsub hK
            have hns : A 18 ≠ A 19 := fun h9 => absurd (hN 18 19 (by omega) (by omega) h9) (by decide)
            have hS0 := hS
            refine va_callr (va_runV (As := [.int (nI ((97 + n47) - 1))]) (rest := []) ⟨hx, hb, hml, hown, hts⟩ (s_J4_append_cf468 l dC dI ad E hEE (A 18) (A 19) (C 19) nb (st37 19) (st37 18 2) g39 _ ((97 + n47) - 1) hns hfit (by omega) (by omega) (by omega) (by omega)) (cwV 1 hts gX11_appendName_J4_append_cf468 rfl rfl rfl (by decide +kernel) ⟨Nat.le_of_ble_eq_true rfl, Nat.le_of_ble_eq_true rfl⟩) ⟨fun a U g mk q => ⟨q.1, sPre.blind hEE q.2⟩, va_recv hKs hPs (ci := 0) (q0 := 0) rfl rfl, fun U hU hW => ⟨rfl, sPre.of hEE hPs hKs hE hS (hBR.sa _ hS.1) hU hW⟩⟩ rfl rfl hl.1 rfl (lv_room (Nat.le_of_ble_eq_true rfl)) dX11_appendName_35 ⟨Nat.le_of_ble_eq_true rfl, Nat.le_of_ble_eq_true rfl⟩) hS (fun q _ h => hBR.sa _ hS.1 q h) (hBR.sa _ hS.1) (fun x r94 t H5 locs ht hvm hw hB hz hk hS => ?_)
            obtain ⟨hw, hr9, hB⟩ := hB
            replace hr9 := hr9.symm
            subst hr9
            obtain ⟨hPt, hK2, hne2, hv2, hF2⟩ := hB
            rw [ht] at hPt
            obtain ⟨v95, cB96, nb97, f98, ml99, cn100⟩ := x
            dsimp only at hPt hK2 hne2 hv2 hF2 hw
            obtain ⟨rfl, rfl, rfl, rfl, hw⟩ := hw
            have hK3 := va_K.moved hvm.symm hK2
            have hj := xjoin hN hP hK hBR hS0.1 hPt hK3 hk hne2 hv2
            rw [A19_self, C19_self] at hj
            obtain ⟨st101, est101⟩ : ∃ y, y = st19 st37 f98 ml99 (nI (g39 + 1)) := ⟨_, rfl⟩
            rw [← est101] at hj
            have hst101a : st101 18 1 = 0 := by rw [est101]; rfl
            have hst101b : st101 18 3 = (nI (g39 + 1)) := by rw [est101]; rfl
            have hfit : sb_Fit (st101 19) := by rw [est101]; exact hF2
            have hGst101 : XG [1, 2, 3, 4, 5, 6, 7, 8, 9, 10, 11, 12, 14, 15] st37 st101 := by rw [est101]; exact xg19 (XG.rf hG.1) (by decide) _ _ _
            have hG : XG [1, 2, 3, 4, 5, 6, 7, 8, 9, 10, 11, 12, 14, 15] st st101 := by rw [est101]; exact xg19 hG (by decide) _ _ _
            clear hK3 hK2 hne2 hv2 hF2 ht hvm est101 hPs hKs hk hz
            obtain ⟨hP, hK, hN, hBR⟩ := hj
            clear hw
            refine lv_pop hx hb dX11_appendName_38 rfl ?_
            exact kj51 _ _ _ _ ⟨st101, sl38, (g39 + 1), by omega, by rw [hst101b], by rw [hst101a], hfit, by omega, hP, hG, hL, hS, lv_sub hl [1, 2, 3] rfl, rfl⟩
        refine lv_if_eq (tgt := 39) hx hb dX11_appendName_20 (by decide) (fun c12 => ?_) (fun c12 => ?_)
        · have c12 : n36 = 0 := (nI_eq (a := n36) (b := 0) (by omega) (by omega)).mp c12
          exact kj40 _ _ _ _ ⟨st26, sl27, g28, by omega, by rw [eg28], by rw [hv31_0], hfit, by omega, hP, hG, hL, hS, lv_sub hl [1, 2, 3] rfl, rfl⟩
        · have c12 : ¬ n36 = 0 := fun hh => c12 ((nI_eq (a := n36) (b := 0) (by omega) (by omega)).mpr hh)
          refine lv_aload_n hx hb dX11_appendName_23 rfl (lv_at hl 2 rfl) ?_
          refine va_get (D := (dC, dI)) (ci := 10) (v := .ref (A 18)) (C := RX11) (T := TX11) (N := 19) hx hb hts ii_X11_appendName_X11 hown hK hP 0 (xw_is (r := 0) (by omega) (xc_fix (r := 0) (by omega))) rfl 14 (by decide) (hts _ mm_X11_appendName_1) (fun _ hh => hh) rfl dX11_appendName_24 ?_
          refine lv_bipush (v := 97) hx hb dX11_appendName_27 (by decide) ?_
          refine lv_iload hx hb dX11_appendName_29 (lv_at hl 0 rfl) ?_
          refine lv_iadd hx hb dX11_appendName_31 ?_
          refine zz_top (v := nI (97 + n36)) (nI_add 97 n36) ?_
          refine lv_iconst (v := 1) hx hb dX11_appendName_32 (by decide) ?_
          refine lv_isub hx hb dX11_appendName_33 ?_
          refine zz_top (v := nI ((97 + n36) - 1)) (nI_subN (a := (97 + n36)) (b := 1) (by omega) (by omega)) ?_
          refine lv_i2c (v := (nI ((97 + n36) - 1))) hx hb dX11_appendName_34 ((sb_byte ((97 + n36) - 1) (by omega)).2.1) ?_
          have hPs := xsub (cn := g28) hP (by rw [hv31_0]) (by rw [eg28])
          have hKs := xKsub hK
          have hns : A 18 ≠ A 19 := fun h9 => absurd (hN 18 19 (by omega) (by omega) h9) (by decide)
          have hS0 := hS
          refine va_callr (va_runV (As := [.int (nI ((97 + n36) - 1))]) (rest := []) ⟨hx, hb, hml, hown, hts⟩ (s_J4_append_cf468 l dC dI ad E hEE (A 18) (A 19) (C 19) nb (st26 19) (st26 18 2) g28 _ ((97 + n36) - 1) hns hfit (by omega) (by omega) (by omega) (by omega)) (cwV 1 hts gX11_appendName_J4_append_cf468 rfl rfl rfl (by decide +kernel) ⟨Nat.le_of_ble_eq_true rfl, Nat.le_of_ble_eq_true rfl⟩) ⟨fun a U g mk q => ⟨q.1, sPre.blind hEE q.2⟩, va_recv hKs hPs (ci := 0) (q0 := 0) rfl rfl, fun U hU hW => ⟨rfl, sPre.of hEE hPs hKs hE hS (hBR.sa _ hS.1) hU hW⟩⟩ rfl rfl hl.1 rfl (lv_room (Nat.le_of_ble_eq_true rfl)) dX11_appendName_35 ⟨Nat.le_of_ble_eq_true rfl, Nat.le_of_ble_eq_true rfl⟩) hS (fun q _ h => hBR.sa _ hS.1 q h) (hBR.sa _ hS.1) (fun x r102 t H5 locs ht hvm hw hB hz hk hS => ?_)
          obtain ⟨hw, hr9, hB⟩ := hB
          replace hr9 := hr9.symm
          subst hr9
          obtain ⟨hPt, hK2, hne2, hv2, hF2⟩ := hB
          rw [ht] at hPt
          obtain ⟨v103, cB104, nb105, f106, ml107, cn108⟩ := x
          dsimp only at hPt hK2 hne2 hv2 hF2 hw
          obtain ⟨rfl, rfl, rfl, rfl, hw⟩ := hw
          have hK3 := va_K.moved hvm.symm hK2
          have hj := xjoin hN hP hK hBR hS0.1 hPt hK3 hk hne2 hv2
          rw [A19_self, C19_self] at hj
          obtain ⟨st109, est109⟩ : ∃ y, y = st19 st26 f106 ml107 (nI (g28 + 1)) := ⟨_, rfl⟩
          rw [← est109] at hj
          have hst109a : st109 18 1 = 0 := by rw [est109]; rfl
          have hst109b : st109 18 3 = (nI (g28 + 1)) := by rw [est109]; rfl
          have hfit : sb_Fit (st109 19) := by rw [est109]; exact hF2
          have hGst109 : XG [1, 2, 3, 4, 5, 6, 7, 8, 9, 10, 11, 12, 14, 15] st26 st109 := by rw [est109]; exact xg19 (XG.rf hG.1) (by decide) _ _ _
          have hG : XG [1, 2, 3, 4, 5, 6, 7, 8, 9, 10, 11, 12, 14, 15] st st109 := by rw [est109]; exact xg19 hG (by decide) _ _ _
          clear hK3 hK2 hne2 hv2 hF2 ht hvm est109 hPs hKs hk hz
          obtain ⟨hP, hK, hN, hBR⟩ := hj
          clear hw
          refine lv_pop hx hb dX11_appendName_38 rfl ?_
          exact kj40 _ _ _ _ ⟨st109, sl27, (g28 + 1), by omega, by rw [hst109b], by rw [hst109a], hfit, by omega, hP, hG, hL, hS, lv_sub hl [1, 2, 3] rfl, rfl⟩
      refine lv_if_eq (tgt := 39) hx hb dX11_appendName_20 (by decide) (fun c13 => ?_) (fun c13 => ?_)
      · have c13 : n25 = 0 := (nI_eq (a := n25) (b := 0) (by omega) (by omega)).mp c13
        exact kj29 _ _ _ _ ⟨st15, sl16, g17, by omega, by rw [eg17], by rw [hv20_0], hfit, by omega, hP, hG, hL, hS, lv_sub hl [1, 2, 3] rfl, rfl⟩
      · have c13 : ¬ n25 = 0 := fun hh => c13 ((nI_eq (a := n25) (b := 0) (by omega) (by omega)).mpr hh)
        refine lv_aload_n hx hb dX11_appendName_23 rfl (lv_at hl 2 rfl) ?_
        refine va_get (D := (dC, dI)) (ci := 10) (v := .ref (A 18)) (C := RX11) (T := TX11) (N := 19) hx hb hts ii_X11_appendName_X11 hown hK hP 0 (xw_is (r := 0) (by omega) (xc_fix (r := 0) (by omega))) rfl 14 (by decide) (hts _ mm_X11_appendName_1) (fun _ hh => hh) rfl dX11_appendName_24 ?_
        refine lv_bipush (v := 97) hx hb dX11_appendName_27 (by decide) ?_
        refine lv_iload hx hb dX11_appendName_29 (lv_at hl 0 rfl) ?_
        refine lv_iadd hx hb dX11_appendName_31 ?_
        refine zz_top (v := nI (97 + n25)) (nI_add 97 n25) ?_
        refine lv_iconst (v := 1) hx hb dX11_appendName_32 (by decide) ?_
        refine lv_isub hx hb dX11_appendName_33 ?_
        refine zz_top (v := nI ((97 + n25) - 1)) (nI_subN (a := (97 + n25)) (b := 1) (by omega) (by omega)) ?_
        refine lv_i2c (v := (nI ((97 + n25) - 1))) hx hb dX11_appendName_34 ((sb_byte ((97 + n25) - 1) (by omega)).2.1) ?_
        have hPs := xsub (cn := g17) hP (by rw [hv20_0]) (by rw [eg17])
        have hKs := xKsub hK
        have hns : A 18 ≠ A 19 := fun h9 => absurd (hN 18 19 (by omega) (by omega) h9) (by decide)
        have hS0 := hS
        refine va_callr (va_runV (As := [.int (nI ((97 + n25) - 1))]) (rest := []) ⟨hx, hb, hml, hown, hts⟩ (s_J4_append_cf468 l dC dI ad E hEE (A 18) (A 19) (C 19) nb (st15 19) (st15 18 2) g17 _ ((97 + n25) - 1) hns hfit (by omega) (by omega) (by omega) (by omega)) (cwV 1 hts gX11_appendName_J4_append_cf468 rfl rfl rfl (by decide +kernel) ⟨Nat.le_of_ble_eq_true rfl, Nat.le_of_ble_eq_true rfl⟩) ⟨fun a U g mk q => ⟨q.1, sPre.blind hEE q.2⟩, va_recv hKs hPs (ci := 0) (q0 := 0) rfl rfl, fun U hU hW => ⟨rfl, sPre.of hEE hPs hKs hE hS (hBR.sa _ hS.1) hU hW⟩⟩ rfl rfl hl.1 rfl (lv_room (Nat.le_of_ble_eq_true rfl)) dX11_appendName_35 ⟨Nat.le_of_ble_eq_true rfl, Nat.le_of_ble_eq_true rfl⟩) hS (fun q _ h => hBR.sa _ hS.1 q h) (hBR.sa _ hS.1) (fun x r110 t H5 locs ht hvm hw hB hz hk hS => ?_)
        obtain ⟨hw, hr9, hB⟩ := hB
        replace hr9 := hr9.symm
        subst hr9
        obtain ⟨hPt, hK2, hne2, hv2, hF2⟩ := hB
        rw [ht] at hPt
        obtain ⟨v111, cB112, nb113, f114, ml115, cn116⟩ := x
        dsimp only at hPt hK2 hne2 hv2 hF2 hw
        obtain ⟨rfl, rfl, rfl, rfl, hw⟩ := hw
        have hK3 := va_K.moved hvm.symm hK2
        have hj := xjoin hN hP hK hBR hS0.1 hPt hK3 hk hne2 hv2
        rw [A19_self, C19_self] at hj
        obtain ⟨st117, est117⟩ : ∃ y, y = st19 st15 f114 ml115 (nI (g17 + 1)) := ⟨_, rfl⟩
        rw [← est117] at hj
        have hst117a : st117 18 1 = 0 := by rw [est117]; rfl
        have hst117b : st117 18 3 = (nI (g17 + 1)) := by rw [est117]; rfl
        have hfit : sb_Fit (st117 19) := by rw [est117]; exact hF2
        have hGst117 : XG [1, 2, 3, 4, 5, 6, 7, 8, 9, 10, 11, 12, 14, 15] st15 st117 := by rw [est117]; exact xg19 (XG.rf hG.1) (by decide) _ _ _
        have hG : XG [1, 2, 3, 4, 5, 6, 7, 8, 9, 10, 11, 12, 14, 15] st st117 := by rw [est117]; exact xg19 hG (by decide) _ _ _
        clear hK3 hK2 hne2 hv2 hF2 ht hvm est117 hPs hKs hk hz
        obtain ⟨hP, hK, hN, hBR⟩ := hj
        clear hw
        refine lv_pop hx hb dX11_appendName_38 rfl ?_
        exact kj29 _ _ _ _ ⟨st117, sl16, (g17 + 1), by omega, by rw [hst117b], by rw [hst117a], hfit, by omega, hP, hG, hL, hS, lv_sub hl [1, 2, 3] rfl, rfl⟩
    refine lv_if_eq (tgt := 39) hx hb dX11_appendName_20 (by decide) (fun c14 => ?_) (fun c14 => ?_)
    · have c14 : n14 = 0 := (nI_eq (a := n14) (b := 0) (by omega) (by omega)).mp c14
      exact kj18 _ _ _ _ ⟨st4, sl5, g6, by omega, by rw [eg6], by rw [hv9_0], hfit, by omega, hP, hG, hL, hS, lv_sub hl [1, 2, 3] rfl, rfl⟩
    · have c14 : ¬ n14 = 0 := fun hh => c14 ((nI_eq (a := n14) (b := 0) (by omega) (by omega)).mpr hh)
      refine lv_aload_n hx hb dX11_appendName_23 rfl (lv_at hl 2 rfl) ?_
      refine va_get (D := (dC, dI)) (ci := 10) (v := .ref (A 18)) (C := RX11) (T := TX11) (N := 19) hx hb hts ii_X11_appendName_X11 hown hK hP 0 (xw_is (r := 0) (by omega) (xc_fix (r := 0) (by omega))) rfl 14 (by decide) (hts _ mm_X11_appendName_1) (fun _ hh => hh) rfl dX11_appendName_24 ?_
      refine lv_bipush (v := 97) hx hb dX11_appendName_27 (by decide) ?_
      refine lv_iload hx hb dX11_appendName_29 (lv_at hl 0 rfl) ?_
      refine lv_iadd hx hb dX11_appendName_31 ?_
      refine zz_top (v := nI (97 + n14)) (nI_add 97 n14) ?_
      refine lv_iconst (v := 1) hx hb dX11_appendName_32 (by decide) ?_
      refine lv_isub hx hb dX11_appendName_33 ?_
      refine zz_top (v := nI ((97 + n14) - 1)) (nI_subN (a := (97 + n14)) (b := 1) (by omega) (by omega)) ?_
      refine lv_i2c (v := (nI ((97 + n14) - 1))) hx hb dX11_appendName_34 ((sb_byte ((97 + n14) - 1) (by omega)).2.1) ?_
      have hPs := xsub (cn := g6) hP (by rw [hv9_0]) (by rw [eg6])
      have hKs := xKsub hK
      have hns : A 18 ≠ A 19 := fun h9 => absurd (hN 18 19 (by omega) (by omega) h9) (by decide)
      have hS0 := hS
      refine va_callr (va_runV (As := [.int (nI ((97 + n14) - 1))]) (rest := []) ⟨hx, hb, hml, hown, hts⟩ (s_J4_append_cf468 l dC dI ad E hEE (A 18) (A 19) (C 19) nb (st4 19) (st4 18 2) g6 _ ((97 + n14) - 1) hns hfit (by omega) (by omega) (by omega) (by omega)) (cwV 1 hts gX11_appendName_J4_append_cf468 rfl rfl rfl (by decide +kernel) ⟨Nat.le_of_ble_eq_true rfl, Nat.le_of_ble_eq_true rfl⟩) ⟨fun a U g mk q => ⟨q.1, sPre.blind hEE q.2⟩, va_recv hKs hPs (ci := 0) (q0 := 0) rfl rfl, fun U hU hW => ⟨rfl, sPre.of hEE hPs hKs hE hS (hBR.sa _ hS.1) hU hW⟩⟩ rfl rfl hl.1 rfl (lv_room (Nat.le_of_ble_eq_true rfl)) dX11_appendName_35 ⟨Nat.le_of_ble_eq_true rfl, Nat.le_of_ble_eq_true rfl⟩) hS (fun q _ h => hBR.sa _ hS.1 q h) (hBR.sa _ hS.1) (fun x r118 t H5 locs ht hvm hw hB hz hk hS => ?_)
      obtain ⟨hw, hr9, hB⟩ := hB
      replace hr9 := hr9.symm
      subst hr9
      obtain ⟨hPt, hK2, hne2, hv2, hF2⟩ := hB
      rw [ht] at hPt
      obtain ⟨v119, cB120, nb121, f122, ml123, cn124⟩ := x
      dsimp only at hPt hK2 hne2 hv2 hF2 hw
      obtain ⟨rfl, rfl, rfl, rfl, hw⟩ := hw
      have hK3 := va_K.moved hvm.symm hK2
      have hj := xjoin hN hP hK hBR hS0.1 hPt hK3 hk hne2 hv2
      rw [A19_self, C19_self] at hj
      obtain ⟨st125, est125⟩ : ∃ y, y = st19 st4 f122 ml123 (nI (g6 + 1)) := ⟨_, rfl⟩
      rw [← est125] at hj
      have hst125a : st125 18 1 = 0 := by rw [est125]; rfl
      have hst125b : st125 18 3 = (nI (g6 + 1)) := by rw [est125]; rfl
      have hfit : sb_Fit (st125 19) := by rw [est125]; exact hF2
      have hGst125 : XG [1, 2, 3, 4, 5, 6, 7, 8, 9, 10, 11, 12, 14, 15] st4 st125 := by rw [est125]; exact xg19 (XG.rf hG.1) (by decide) _ _ _
      have hG : XG [1, 2, 3, 4, 5, 6, 7, 8, 9, 10, 11, 12, 14, 15] st st125 := by rw [est125]; exact xg19 hG (by decide) _ _ _
      clear hK3 hK2 hne2 hv2 hF2 ht hvm est125 hPs hKs hk hz
      obtain ⟨hP, hK, hN, hBR⟩ := hj
      clear hw
      refine lv_pop hx hb dX11_appendName_38 rfl ?_
      exact kj18 _ _ _ _ ⟨st125, sl5, (g6 + 1), by omega, by rw [hst125b], by rw [hst125a], hfit, by omega, hP, hG, hL, hS, lv_sub hl [1, 2, 3] rfl, rfl⟩
  refine lv_if_eq (tgt := 39) hx hb dX11_appendName_20 (by decide) (fun c15 => ?_) (fun c15 => ?_)
  · have c15 : n3 = 0 := (nI_eq (a := n3) (b := 0) (by omega) (by omega)).mp c15
    exact kj7 _ _ _ _ ⟨st, sl, 0, by omega, by rw [hc3]; rfl, by rw [hco], hfit, by omega, hP, hG, hL, hS, lv_sub hl [1, 2, 3] rfl, rfl⟩
  · have c15 : ¬ n3 = 0 := fun hh => c15 ((nI_eq (a := n3) (b := 0) (by omega) (by omega)).mpr hh)
    refine lv_aload_n hx hb dX11_appendName_23 rfl (lv_at hl 2 rfl) ?_
    refine va_get (D := (dC, dI)) (ci := 10) (v := .ref (A 18)) (C := RX11) (T := TX11) (N := 19) hx hb hts ii_X11_appendName_X11 hown hK hP 0 (xw_is (r := 0) (by omega) (xc_fix (r := 0) (by omega))) rfl 14 (by decide) (hts _ mm_X11_appendName_1) (fun _ hh => hh) rfl dX11_appendName_24 ?_
    refine lv_bipush (v := 97) hx hb dX11_appendName_27 (by decide) ?_
    refine lv_iload hx hb dX11_appendName_29 (lv_at hl 0 rfl) ?_
    refine lv_iadd hx hb dX11_appendName_31 ?_
    refine zz_top (v := nI (97 + n3)) (nI_add 97 n3) ?_
    refine lv_iconst (v := 1) hx hb dX11_appendName_32 (by decide) ?_
    refine lv_isub hx hb dX11_appendName_33 ?_
    refine zz_top (v := nI ((97 + n3) - 1)) (nI_subN (a := (97 + n3)) (b := 1) (by omega) (by omega)) ?_
    refine lv_i2c (v := (nI ((97 + n3) - 1))) hx hb dX11_appendName_34 ((sb_byte ((97 + n3) - 1) (by omega)).2.1) ?_
    have hPs := xsub (cn := 0) hP (by rw [hco]) (by rw [hc3]; rfl)
    have hKs := xKsub hK
    have hns : A 18 ≠ A 19 := fun h9 => absurd (hN 18 19 (by omega) (by omega) h9) (by decide)
    have hS0 := hS
    refine va_callr (va_runV (As := [.int (nI ((97 + n3) - 1))]) (rest := []) ⟨hx, hb, hml, hown, hts⟩ (s_J4_append_cf468 l dC dI ad E hEE (A 18) (A 19) (C 19) nb (st 19) (st 18 2) 0 _ ((97 + n3) - 1) hns hfit (by omega) (by omega) (by omega) (by omega)) (cwV 1 hts gX11_appendName_J4_append_cf468 rfl rfl rfl (by decide +kernel) ⟨Nat.le_of_ble_eq_true rfl, Nat.le_of_ble_eq_true rfl⟩) ⟨fun a U g mk q => ⟨q.1, sPre.blind hEE q.2⟩, va_recv hKs hPs (ci := 0) (q0 := 0) rfl rfl, fun U hU hW => ⟨rfl, sPre.of hEE hPs hKs hE hS (hBR.sa _ hS.1) hU hW⟩⟩ rfl rfl hl.1 rfl (lv_room (Nat.le_of_ble_eq_true rfl)) dX11_appendName_35 ⟨Nat.le_of_ble_eq_true rfl, Nat.le_of_ble_eq_true rfl⟩) hS (fun q _ h => hBR.sa _ hS.1 q h) (hBR.sa _ hS.1) (fun x r126 t H5 locs ht hvm hw hB hz hk hS => ?_)
    obtain ⟨hw, hr9, hB⟩ := hB
    replace hr9 := hr9.symm
    subst hr9
    obtain ⟨hPt, hK2, hne2, hv2, hF2⟩ := hB
    rw [ht] at hPt
    obtain ⟨v127, cB128, nb129, f130, ml131, cn132⟩ := x
    dsimp only at hPt hK2 hne2 hv2 hF2 hw
    obtain ⟨rfl, rfl, rfl, rfl, hw⟩ := hw
    have hK3 := va_K.moved hvm.symm hK2
    have hj := xjoin hN hP hK hBR hS0.1 hPt hK3 hk hne2 hv2
    rw [A19_self, C19_self] at hj
    obtain ⟨st133, est133⟩ : ∃ y, y = st19 st f130 ml131 (nI (0 + 1)) := ⟨_, rfl⟩
    rw [← est133] at hj
    have hst133a : st133 18 1 = 0 := by rw [est133]; rfl
    have hst133b : st133 18 3 = (nI (0 + 1)) := by rw [est133]; rfl
    have hfit : sb_Fit (st133 19) := by rw [est133]; exact hF2
    have hGst133 : XG [1, 2, 3, 4, 5, 6, 7, 8, 9, 10, 11, 12, 14, 15] st st133 := by rw [est133]; exact xg19 (XG.rf hG.1) (by decide) _ _ _
    have hG : XG [1, 2, 3, 4, 5, 6, 7, 8, 9, 10, 11, 12, 14, 15] st st133 := by rw [est133]; exact xg19 hG (by decide) _ _ _
    clear hK3 hK2 hne2 hv2 hF2 ht hvm est133 hPs hKs hk hz
    obtain ⟨hP, hK, hN, hBR⟩ := hj
    clear hw
    refine lv_pop hx hb dX11_appendName_38 rfl ?_
    exact kj7 _ _ _ _ ⟨st133, sl, (0 + 1), by omega, by rw [hst133b], by rw [hst133a], hfit, by omega, hP, hG, hL, hS, lv_sub hl [1, 2, 3] rfl, rfl⟩
set_option maxHeartbeats 4000000 in
set_option maxRecDepth 100000 in
theorem x_X11_appendFree (l : Launch) (dC : Nat → ClassId) (dI : Nat → Nat → Nat) (ad : Nat → Nat) (E : EP) (hEE : EC ad E) (A : Nat → Nat) (C : Nat → ClassId) (nb sz : Nat) (hN : XN A) (st : Nat → Nat → Int32) (sl : Nat → Nat → Int64) (so : Nat → XR) (va : Int32) (gn : Nat) (hI : XI st) (hco : st 18 1 = 0) (hc3 : st 18 3 = nI gn) (hgn7 : gn ≤ 7) (hgnb : gn ≤ nb) (hnb : nb = 16 ∨ nb = 34) (hfit : sb_Fit (st 19)) : Met l yX11_appendFree wsX11_appendFree ({ frames := 6, cells := 5, slots := 170, locals := 148 }) (va_Pc [.ref (A 0), .int va] (xPre E dC dI A C nb sz st sl so)) (va_Qv (fun (x : XTB) => XG [1, 2, 3, 4, 5, 6, 7, 8, 9, 10, 11, 12, 14, 15] st x.1.1 ∧ LGq sl x.1.2.1 ∧ x.1.2.2 = so ∧ BD x.2.2.2 x.1.1) (xBB dC dI A sz) (XA A sz)) 5 170 (XA A sz) := by
  refine Met.ofW (cc := cX11_appendFree) (maxL := 4) (ret := none) (by decide) rfl ?_
  intro p e s m args below meth c s₁ B hml hv
  obtain ⟨rfl, hsz, hP, hK, hE⟩ := hv
  have hx := B.exec
  have hb := B.bytes
  have hr := B.returns
  have hts := atoms_spec (ws := wsX11_appendFree) B.pre
  have hown : s.vm.findClass RX11 = some m.cls := findClass_of_methodNamed B.named
  subst hsz
  have hEv := hEE.1 _ _ _ hE
  have hS : va_S (XA A s.heap.size) s.heap s.heap [] := va_S.rf
  have hG : XG [1, 2, 3, 4, 5, 6, 7, 8, 9, 10, 11, 12, 14, 15] st st := XG.rf hI
  have hBR : BR A A s.heap.size := BR.rf
  have hl := lv_entry ([.ref (A 0), .int va]) (n := 4) (Nat.le_of_ble_eq_true rfl)
  rw [lg_entry_eq]
  generalize (lg_sl ([.ref (A 0), .int va]) ++ List.replicate (4 - (lg_sl ([.ref (A 0), .int va])).length) Slot.unset).toArray = ls at hl ⊢
  have hl : lv_has ls 4 [(0, .ref (A 0)), (1, .int va)] := hl
  have hL : LGq sl sl := LGq.rf
  refine lv_iload_n hx hb dX11_appendFree_0 rfl (lv_at hl 1 rfl) ?_
  refine lv_if_ne (tgt := 16) hx hb dX11_appendFree_1 (by decide) (fun c1 => ?_) (fun c1 => ?_)
  · refine lv_iconst (v := 0) hx hb dX11_appendFree_16 (by decide) ?_
    refine lv_istore_n (lv' := [(2, .int 0), (0, .ref (A 0)), (1, .int va)]) hx hb dX11_appendFree_17 rfl hl (by decide) rfl (fun ls hl => ?_)
    refine zz_wf (fun n stk H locs ls => ∃ k1 : Nat, n = 24 - k1 ∧ 0 ≤ k1 ∧ k1 < 24 ∧ va_P (dC, dI) vwCl (xw A C nb st sl so) H ∧ va_S (XA A s.heap.size) s.heap H locs ∧ lv_has ls 4 [(2, .int (nI k1)), (0, .ref (A 0)), (1, .int va)] ∧ stk = []) ?_ (24 - 0) _ _ _ _ ⟨0, rfl, by omega, by omega, hP, hS, lv_sub hl [0, 1, 2] rfl, rfl⟩
    rintro nn stk H locs ls ⟨k1, hm3, hv2_0, hv3_1, hP, hS, hl, rfl⟩ ih4
    refine lv_iload_n hx hb dX11_appendFree_18 rfl (lv_at hl 0 rfl) ?_
    refine lv_bipush (v := 23) hx hb dX11_appendFree_19 (by decide) ?_
    refine lv_icmp_ge (tgt := 38) hx hb dX11_appendFree_21 (by decide) (fun c2 => ?_) (fun c2 => ?_)
    · have c2 : 23 ≤ k1 := (nI_leI (a := 23) (b := k1) (by omega) (by omega)).mp c2
      refine lv_iload_n hx hb dX11_appendFree_38 rfl (lv_at hl 0 rfl) ?_
      refine lv_istore_n (lv' := [(3, .int (nI k1)), (2, .int (nI k1)), (0, .ref (A 0)), (1, .int va)]) hx hb dX11_appendFree_39 rfl hl (by decide) rfl (fun ls hl => ?_)
      refine zz_wf (fun n stk H locs ls => ∃ k5 : Nat, n = 24 - k5 ∧ 23 ≤ k5 ∧ k5 < 24 ∧ va_P (dC, dI) vwCl (xw A C nb st sl so) H ∧ va_S (XA A s.heap.size) s.heap H locs ∧ lv_has ls 4 [(3, .int (nI k5)), (2, .int (nI k1)), (0, .ref (A 0)), (1, .int va)] ∧ stk = []) ?_ (24 - k1) _ _ _ _ ⟨k1, rfl, by omega, by omega, hP, hS, lv_sub hl [0, 1, 2, 3] rfl, rfl⟩
      rintro nn stk H locs ls ⟨k5, hm7, hv6_0, hv7_1, hP, hS, hl, rfl⟩ ih8
      refine lv_iload_n hx hb dX11_appendFree_40 rfl (lv_at hl 0 rfl) ?_
      refine lv_bipush (v := 23) hx hb dX11_appendFree_41 (by decide) ?_
      refine lv_icmp_ge (tgt := 63) hx hb dX11_appendFree_43 (by decide) (fun _ => ?_) (fun cc => absurd ((nI_leI (a := 23) (b := k5) (by omega) (by omega)).mpr (by omega)) cc)
      refine lv_aload_n hx hb dX11_appendFree_63 rfl (lv_at hl 2 rfl) ?_
      refine va_get (D := (dC, dI)) (ci := 10) (v := .ref (A 18)) (C := RX11) (T := TX11) (N := 19) hx hb hts ii_X11_appendFree_X11 hown hK hP 0 (xw_is (r := 0) (by omega) (xc_fix (r := 0) (by omega))) rfl 14 (by decide) (hts _ mm_X11_appendFree_1) (fun _ hh => hh) rfl dX11_appendFree_64 ?_
      refine va_ldcwS (q := ad (100 + 27)) hx hb hown (hEv.sv.2.2.1.2.1) dX11_appendFree_67 ?_
      have hPs := xsub (cn := gn) hP (by rw [hco]) (by rw [hc3])
      have hKs := xKsub hK
      have hns : A 18 ≠ A 19 := fun h9 => absurd (hN 18 19 (by omega) (by omega) h9) (by decide)
      have hslx9 : sv_len.getD 27 0 = 6 := rfl
      have hS0 := hS
      refine va_callr (va_runV (As := [.ref (ad (100 + 27))]) (rest := []) ⟨hx, hb, hml, hown, hts⟩ (s_J4_append_15ec4 l dC dI ad E hEE (A 18) (A 19) (C 19) nb (st 19) (st 18 2) gn _ 27 hns hfit (by omega) (by omega) (by omega) (by omega)) (cwV 1 hts gX11_appendFree_J4_append_15ec4 rfl rfl rfl (by decide +kernel) ⟨Nat.le_of_ble_eq_true rfl, Nat.le_of_ble_eq_true rfl⟩) ⟨fun a U g mk q => ⟨q.1, sPre.blind hEE q.2⟩, va_recv hKs hPs (ci := 0) (q0 := 0) rfl rfl, fun U hU hW => ⟨rfl, sPre.of hEE hPs hKs hE hS (hBR.sa _ hS.1) hU hW⟩⟩ rfl rfl hl.1 rfl (lv_room (Nat.le_of_ble_eq_true rfl)) dX11_appendFree_70 ⟨Nat.le_of_ble_eq_true rfl, Nat.le_of_ble_eq_true rfl⟩) hS (fun q _ h => hBR.sa _ hS.1 q h) (hBR.sa _ hS.1) (fun x r10 t H5 locs ht hvm hw hB hz hk hS => ?_)
      obtain ⟨hw, hr9, hB⟩ := hB
      replace hr9 := hr9.symm
      subst hr9
      obtain ⟨hPt, hK2, hne2, hv2, hF2⟩ := hB
      rw [ht] at hPt
      obtain ⟨v11, cB12, nb13, f14, ml15, cn16⟩ := x
      dsimp only at hPt hK2 hne2 hv2 hF2 hw
      obtain ⟨hnb9, rfl, hcn9, hw⟩ := hw
      have hK3 := va_K.moved hvm.symm hK2
      have hj := xjoin hN hP hK hBR hS0.1 hPt hK3 hk hne2 hv2
      obtain ⟨st17, est17⟩ : ∃ y, y = st19 st f14 ml15 (nI (gn + sv_len.getD 27 0)) := ⟨_, rfl⟩
      rw [← est17] at hj
      have hst17a : st17 18 1 = 0 := by rw [est17]; rfl
      have hst17b : st17 18 3 = (nI (gn + sv_len.getD 27 0)) := by rw [est17]; rfl
      have hfit : sb_Fit (st17 19) := by rw [est17]; exact hF2
      have hGst17 : XG [1, 2, 3, 4, 5, 6, 7, 8, 9, 10, 11, 12, 14, 15] st st17 := by rw [est17]; exact xg19 (XG.rf hG.1) (by decide) _ _ _
      have hG : XG [1, 2, 3, 4, 5, 6, 7, 8, 9, 10, 11, 12, 14, 15] st st17 := by rw [est17]; exact xg19 hG (by decide) _ _ _
      clear hK3 hK2 hne2 hv2 hF2 ht hvm est17 hPs hKs hk hz
      obtain ⟨hP, hK, hN, hBR⟩ := hj
      clear hw
      refine lv_pop hx hb dX11_appendFree_73 rfl ?_
      refine lv_aload_n hx hb dX11_appendFree_74 rfl (lv_at hl 2 rfl) ?_
      refine va_get (D := (dC, dI)) (ci := 10) (v := .ref (A 18)) (C := RX11) (T := TX11) (N := 19) hx hb hts ii_X11_appendFree_X11 hown hK hP 0 (xw_is (r := 0) (by omega) (xc_fix (r := 0) (by omega))) rfl 14 (by decide) (hts _ mm_X11_appendFree_1) (fun _ hh => hh) rfl dX11_appendFree_75 ?_
      refine lv_iload_n hx hb dX11_appendFree_78 rfl (lv_at hl 1 rfl) ?_
      have hPs := xsub (cn := (gn + sv_len.getD 27 0)) hP (by rw [hst17a]) (by rw [hst17b])
      have hKs := xKsub hK
      have hns : (A19 A v11) 18 ≠ (A19 A v11) 19 := fun h9 => absurd (hN 18 19 (by omega) (by omega) h9) (by decide)
      have hS0 := hS
      refine va_callr (va_runV (As := [.int (nI k1)]) (rest := []) ⟨hx, hb, hml, hown, hts⟩ (s_J4_append_bf812 l dC dI ad E hEE ((A19 A v11) 18) ((A19 A v11) 19) ((C19 C cB12) 19) nb13 (st17 19) (st17 18 2) (gn + sv_len.getD 27 0) _ k1 hns hfit (by omega) (by omega) (by omega) (by omega)) (cwV 1 hts gX11_appendFree_J4_append_bf812 rfl rfl rfl (by decide +kernel) ⟨Nat.le_of_ble_eq_true rfl, Nat.le_of_ble_eq_true rfl⟩) ⟨fun a U g mk q => ⟨q.1, sPre.blind hEE q.2⟩, va_recv hKs hPs (ci := 0) (q0 := 0) rfl rfl, fun U hU hW => ⟨rfl, sPre.of hEE hPs hKs hE hS (hBR.sa _ hS.1) hU hW⟩⟩ rfl rfl hl.1 rfl (lv_room (Nat.le_of_ble_eq_true rfl)) dX11_appendFree_79 ⟨Nat.le_of_ble_eq_true rfl, Nat.le_of_ble_eq_true rfl⟩) hS (fun q _ h => hBR.sa _ hS.1 q h) (hBR.sa _ hS.1) (fun x r18 t H5 locs ht hvm hw hB hz hk hS => ?_)
      obtain ⟨hw, hr9, hB⟩ := hB
      replace hr9 := hr9.symm
      subst hr9
      obtain ⟨hPt, hK2, hne2, hv2, hF2⟩ := hB
      rw [ht] at hPt
      obtain ⟨v19, cB20, nb21, f22, ml23, cn24⟩ := x
      dsimp only at hPt hK2 hne2 hv2 hF2 hw
      obtain ⟨hnb9, rfl, hcn9, hw⟩ := hw
      have hK3 := va_K.moved hvm.symm hK2
      have hj := xjoin hN hP hK hBR hS0.1 hPt hK3 hk hne2 hv2
      obtain ⟨st25, est25⟩ : ∃ y, y = st19 st17 f22 ml23 (nI ((gn + sv_len.getD 27 0) + if k1 < 10 then 1 else 2)) := ⟨_, rfl⟩
      rw [← est25] at hj
      have hst25a : st25 18 1 = 0 := by rw [est25]; rfl
      have hst25b : st25 18 3 = (nI ((gn + sv_len.getD 27 0) + if k1 < 10 then 1 else 2)) := by rw [est25]; rfl
      have hfit : sb_Fit (st25 19) := by rw [est25]; exact hF2
      have hGst25 : XG [1, 2, 3, 4, 5, 6, 7, 8, 9, 10, 11, 12, 14, 15] st17 st25 := by rw [est25]; exact xg19 (XG.rf hG.1) (by decide) _ _ _
      have hG : XG [1, 2, 3, 4, 5, 6, 7, 8, 9, 10, 11, 12, 14, 15] st st25 := by rw [est25]; exact xg19 hG (by decide) _ _ _
      clear hK3 hK2 hne2 hv2 hF2 ht hvm est25 hPs hKs hk hz
      obtain ⟨hP, hK, hN, hBR⟩ := hj
      clear hw
      have hit26 : (if k1 < 10 then 1 else 2) ≤ 2 := by split <;> omega
      refine lv_pop hx hb dX11_appendFree_82 rfl ?_
      refine lv_iload_n hx hb dX11_appendFree_83 rfl (lv_at hl 0 rfl) ?_
      refine lv_iload_n hx hb dX11_appendFree_84 rfl (lv_at hl 1 rfl) ?_
      refine lv_icmp_le (tgt := 108) hx hb dX11_appendFree_85 (by decide) (fun _ => ?_) (fun cc => absurd ((nI_leI (a := k5) (b := k1) (by omega) (by omega)).mpr (by omega)) cc)
      refine lv_iload_n hx hb dX11_appendFree_108 rfl (lv_at hl 3 rfl) ?_
      refine lv_iload_n hx hb dX11_appendFree_109 rfl (lv_at hl 1 rfl) ?_
      refine lv_iload_n hx hb dX11_appendFree_110 rfl (lv_at hl 0 rfl) ?_
      refine va_calli (va_runS (As := [.int (nI k1), .int (nI k5)]) (rest := [.int va]) ⟨hx, hb, hml, hown, hts⟩ (x_X11_hoursOf l dC dI ad E hEE (A19 (A19 A v11) v19) (C19 (C19 C cB12) cB20) nb21 _ hN st25 sl so (nI k1) (nI k5)  hG.1) (va_cwS 2 hts gX11_appendFree_X11_hoursOf rfl rfl rfl (by decide +kernel) ⟨Nat.le_of_ble_eq_true rfl, Nat.le_of_ble_eq_true rfl⟩) ⟨fun a U g mk q => ⟨q.1, xPre.blind hEE q.2⟩, fun U hU hW => ⟨rfl, xPre.ofg hEE hP hK hE hS (hBR.xa _ hS.1) hU hW⟩⟩ rfl rfl hl.1 rfl (lv_room (Nat.le_of_ble_eq_true rfl)) dX11_appendFree_111 ⟨Nat.le_of_ble_eq_true rfl, Nat.le_of_ble_eq_true rfl⟩) hS (fun q _ h => hBR.xa _ hS.1 q h) (hBR.xa _ hS.1) (fun r27 x t H locs ht hvm hw hB _ _ hS => ?_)
      have hP := xB.at ht hB
      clear hB ht hvm
      obtain ⟨rfl, hw⟩ := hw
      have hP : va_P (dC, dI) vwCl (xw (A19 (A19 A v11) v19) (C19 (C19 C cB12) cB20) nb21 st25 sl so) _ := hP
      clear hw
      refine lv_iconst (v := (-1)) hx hb dX11_appendFree_114 (by decide) ?_
      refine lv_ixor hx hb dX11_appendFree_115 ?_
      refine lv_topi (fun z28 ez28 => ?_)
      clear ez28
      refine lv_iand hx hb dX11_appendFree_116 ?_
      refine lv_topi (fun z29 ez29 => ?_)
      clear ez29
      refine lv_if_eq (tgt := 131) hx hb dX11_appendFree_117 (by decide) (fun c5 => ?_) (fun c5 => ?_)
      · refine W.widen (k := 5) (n := 170) (Nat.le_of_ble_eq_true rfl) (Nat.le_of_ble_eq_true rfl) ?_
        exact W.vret hx hb hr (fun t ht hW => ⟨⟨((st25, sl, so), (A19 (A19 A v11) v19), (C19 (C19 C cB12) cB20), nb21), rfl, ⟨hG, hL, rfl, ⟨by show st25 18 1 = 0; rw [hst25a], by omega, ⟨((gn + sv_len.getD 27 0) + if k1 < 10 then 1 else 2), by show st25 18 3 = _; rw [hst25b], by omega, by omega⟩, hfit⟩⟩, ⟨xB.of ht hP, va_K.moved hW.alike hK, hN, hBR⟩⟩, hS.F ht⟩) hS.2.2 dX11_appendFree_131
      · refine lv_aload_n hx hb dX11_appendFree_120 rfl (lv_at hl 2 rfl) ?_
        refine va_get (D := (dC, dI)) (ci := 10) (v := .ref (A 18)) (C := RX11) (T := TX11) (N := 19) hx hb hts ii_X11_appendFree_X11 hown hK hP 0 (xw_is (r := 0) (by omega) (xc_fix (r := 0) (by omega))) rfl 14 (by decide) (hts _ mm_X11_appendFree_1) (fun _ hh => hh) rfl dX11_appendFree_121 ?_
        refine va_ldcwS (q := ad (100 + 29)) hx hb hown (hEv.sv.2.2.1.2.2.2) dX11_appendFree_124 ?_
        have hPs := xsub (cn := ((gn + sv_len.getD 27 0) + if k1 < 10 then 1 else 2)) hP (by rw [hst25a]) (by rw [hst25b])
        have hKs := xKsub hK
        have hns : (A19 (A19 A v11) v19) 18 ≠ (A19 (A19 A v11) v19) 19 := fun h9 => absurd (hN 18 19 (by omega) (by omega) h9) (by decide)
        have hslx30 : sv_len.getD 29 0 = 9 := rfl
        have hS0 := hS
        refine va_callr (va_runV (As := [.ref (ad (100 + 29))]) (rest := []) ⟨hx, hb, hml, hown, hts⟩ (s_J4_append_15ec4 l dC dI ad E hEE ((A19 (A19 A v11) v19) 18) ((A19 (A19 A v11) v19) 19) ((C19 (C19 C cB12) cB20) 19) nb21 (st25 19) (st25 18 2) ((gn + sv_len.getD 27 0) + if k1 < 10 then 1 else 2) _ 29 hns hfit (by omega) (by omega) (by omega) (by omega)) (cwV 1 hts gX11_appendFree_J4_append_15ec4 rfl rfl rfl (by decide +kernel) ⟨Nat.le_of_ble_eq_true rfl, Nat.le_of_ble_eq_true rfl⟩) ⟨fun a U g mk q => ⟨q.1, sPre.blind hEE q.2⟩, va_recv hKs hPs (ci := 0) (q0 := 0) rfl rfl, fun U hU hW => ⟨rfl, sPre.of hEE hPs hKs hE hS (hBR.sa _ hS.1) hU hW⟩⟩ rfl rfl hl.1 rfl (lv_room (Nat.le_of_ble_eq_true rfl)) dX11_appendFree_127 ⟨Nat.le_of_ble_eq_true rfl, Nat.le_of_ble_eq_true rfl⟩) hS (fun q _ h => hBR.sa _ hS.1 q h) (hBR.sa _ hS.1) (fun x r31 t H5 locs ht hvm hw hB hz hk hS => ?_)
        obtain ⟨hw, hr9, hB⟩ := hB
        replace hr9 := hr9.symm
        subst hr9
        obtain ⟨hPt, hK2, hne2, hv2, hF2⟩ := hB
        rw [ht] at hPt
        obtain ⟨v32, cB33, nb34, f35, ml36, cn37⟩ := x
        dsimp only at hPt hK2 hne2 hv2 hF2 hw
        obtain ⟨hnb9, rfl, hcn9, hw⟩ := hw
        have hK3 := va_K.moved hvm.symm hK2
        have hj := xjoin hN hP hK hBR hS0.1 hPt hK3 hk hne2 hv2
        obtain ⟨st38, est38⟩ : ∃ y, y = st19 st25 f35 ml36 (nI (((gn + sv_len.getD 27 0) + if k1 < 10 then 1 else 2) + sv_len.getD 29 0)) := ⟨_, rfl⟩
        rw [← est38] at hj
        have hst38a : st38 18 1 = 0 := by rw [est38]; rfl
        have hst38b : st38 18 3 = (nI (((gn + sv_len.getD 27 0) + if k1 < 10 then 1 else 2) + sv_len.getD 29 0)) := by rw [est38]; rfl
        have hfit : sb_Fit (st38 19) := by rw [est38]; exact hF2
        have hGst38 : XG [1, 2, 3, 4, 5, 6, 7, 8, 9, 10, 11, 12, 14, 15] st25 st38 := by rw [est38]; exact xg19 (XG.rf hG.1) (by decide) _ _ _
        have hG : XG [1, 2, 3, 4, 5, 6, 7, 8, 9, 10, 11, 12, 14, 15] st st38 := by rw [est38]; exact xg19 hG (by decide) _ _ _
        clear hK3 hK2 hne2 hv2 hF2 ht hvm est38 hPs hKs hk hz
        obtain ⟨hP, hK, hN, hBR⟩ := hj
        clear hw
        have hit39 : (if 29 < 10 then 1 else 2) ≤ 2 := by split <;> omega
        refine lv_pop hx hb dX11_appendFree_130 rfl ?_
        refine W.widen (k := 5) (n := 170) (Nat.le_of_ble_eq_true rfl) (Nat.le_of_ble_eq_true rfl) ?_
        exact W.vret hx hb hr (fun t ht hW => ⟨⟨((st38, sl, so), (A19 (A19 (A19 A v11) v19) v32), (C19 (C19 (C19 C cB12) cB20) cB33), nb34), rfl, ⟨hG, hL, rfl, ⟨by show st38 18 1 = 0; rw [hst38a], by omega, ⟨(((gn + sv_len.getD 27 0) + if k1 < 10 then 1 else 2) + sv_len.getD 29 0), by show st38 18 3 = _; rw [hst38b], by omega, by omega⟩, hfit⟩⟩, ⟨xB.of ht hP, va_K.moved hW.alike hK, hN, hBR⟩⟩, hS.F ht⟩) hS.2.2 dX11_appendFree_131
    · have c2 : ¬ 23 ≤ k1 := fun hh => c2 ((nI_leI (a := 23) (b := k1) (by omega) (by omega)).mpr hh)
      refine lv_iload_n hx hb dX11_appendFree_24 rfl (lv_at hl 2 rfl) ?_
      refine lv_iload_n hx hb dX11_appendFree_25 rfl (lv_at hl 0 rfl) ?_
      refine lv_ishr hx hb dX11_appendFree_26 ?_
      refine lv_topi (fun z40 ez40 => ?_)
      clear ez40
      refine lv_iconst (v := 1) hx hb dX11_appendFree_27 (by decide) ?_
      refine lv_iand hx hb dX11_appendFree_28 ?_
      refine lv_topi (fun z41 ez41 => ?_)
      clear ez41
      refine lv_if_ne (tgt := 38) hx hb dX11_appendFree_29 (by decide) (fun c6 => ?_) (fun c6 => ?_)
      · refine lv_iload_n hx hb dX11_appendFree_38 rfl (lv_at hl 0 rfl) ?_
        refine lv_istore_n (lv' := [(3, .int (nI k1)), (2, .int (nI k1)), (0, .ref (A 0)), (1, .int va)]) hx hb dX11_appendFree_39 rfl hl (by decide) rfl (fun ls hl => ?_)
        refine zz_wf (fun n stk H locs ls => ∃ k42 : Nat, n = 24 - k42 ∧ 0 ≤ k42 ∧ k42 < 24 ∧ va_P (dC, dI) vwCl (xw A C nb st sl so) H ∧ va_S (XA A s.heap.size) s.heap H locs ∧ lv_has ls 4 [(3, .int (nI k42)), (2, .int (nI k1)), (0, .ref (A 0)), (1, .int va)] ∧ stk = []) ?_ (24 - k1) _ _ _ _ ⟨k1, rfl, by omega, by omega, hP, hS, lv_sub hl [0, 1, 2, 3] rfl, rfl⟩
        rintro nn stk H locs ls ⟨k42, hm44, hv43_0, hv44_1, hP, hS, hl, rfl⟩ ih45
        refine lv_iload_n hx hb dX11_appendFree_40 rfl (lv_at hl 0 rfl) ?_
        refine lv_bipush (v := 23) hx hb dX11_appendFree_41 (by decide) ?_
        refine lv_icmp_ge (tgt := 63) hx hb dX11_appendFree_43 (by decide) (fun c7 => ?_) (fun c7 => ?_)
        · have c7 : 23 ≤ k42 := (nI_leI (a := 23) (b := k42) (by omega) (by omega)).mp c7
          refine lv_aload_n hx hb dX11_appendFree_63 rfl (lv_at hl 2 rfl) ?_
          refine va_get (D := (dC, dI)) (ci := 10) (v := .ref (A 18)) (C := RX11) (T := TX11) (N := 19) hx hb hts ii_X11_appendFree_X11 hown hK hP 0 (xw_is (r := 0) (by omega) (xc_fix (r := 0) (by omega))) rfl 14 (by decide) (hts _ mm_X11_appendFree_1) (fun _ hh => hh) rfl dX11_appendFree_64 ?_
          refine va_ldcwS (q := ad (100 + 27)) hx hb hown (hEv.sv.2.2.1.2.1) dX11_appendFree_67 ?_
          have hPs := xsub (cn := gn) hP (by rw [hco]) (by rw [hc3])
          have hKs := xKsub hK
          have hns : A 18 ≠ A 19 := fun h9 => absurd (hN 18 19 (by omega) (by omega) h9) (by decide)
          have hslx46 : sv_len.getD 27 0 = 6 := rfl
          have hS0 := hS
          refine va_callr (va_runV (As := [.ref (ad (100 + 27))]) (rest := []) ⟨hx, hb, hml, hown, hts⟩ (s_J4_append_15ec4 l dC dI ad E hEE (A 18) (A 19) (C 19) nb (st 19) (st 18 2) gn _ 27 hns hfit (by omega) (by omega) (by omega) (by omega)) (cwV 1 hts gX11_appendFree_J4_append_15ec4 rfl rfl rfl (by decide +kernel) ⟨Nat.le_of_ble_eq_true rfl, Nat.le_of_ble_eq_true rfl⟩) ⟨fun a U g mk q => ⟨q.1, sPre.blind hEE q.2⟩, va_recv hKs hPs (ci := 0) (q0 := 0) rfl rfl, fun U hU hW => ⟨rfl, sPre.of hEE hPs hKs hE hS (hBR.sa _ hS.1) hU hW⟩⟩ rfl rfl hl.1 rfl (lv_room (Nat.le_of_ble_eq_true rfl)) dX11_appendFree_70 ⟨Nat.le_of_ble_eq_true rfl, Nat.le_of_ble_eq_true rfl⟩) hS (fun q _ h => hBR.sa _ hS.1 q h) (hBR.sa _ hS.1) (fun x r47 t H5 locs ht hvm hw hB hz hk hS => ?_)
          obtain ⟨hw, hr9, hB⟩ := hB
          replace hr9 := hr9.symm
          subst hr9
          obtain ⟨hPt, hK2, hne2, hv2, hF2⟩ := hB
          rw [ht] at hPt
          obtain ⟨v48, cB49, nb50, f51, ml52, cn53⟩ := x
          dsimp only at hPt hK2 hne2 hv2 hF2 hw
          obtain ⟨hnb9, rfl, hcn9, hw⟩ := hw
          have hK3 := va_K.moved hvm.symm hK2
          have hj := xjoin hN hP hK hBR hS0.1 hPt hK3 hk hne2 hv2
          obtain ⟨st54, est54⟩ : ∃ y, y = st19 st f51 ml52 (nI (gn + sv_len.getD 27 0)) := ⟨_, rfl⟩
          rw [← est54] at hj
          have hst54a : st54 18 1 = 0 := by rw [est54]; rfl
          have hst54b : st54 18 3 = (nI (gn + sv_len.getD 27 0)) := by rw [est54]; rfl
          have hfit : sb_Fit (st54 19) := by rw [est54]; exact hF2
          have hGst54 : XG [1, 2, 3, 4, 5, 6, 7, 8, 9, 10, 11, 12, 14, 15] st st54 := by rw [est54]; exact xg19 (XG.rf hG.1) (by decide) _ _ _
          have hG : XG [1, 2, 3, 4, 5, 6, 7, 8, 9, 10, 11, 12, 14, 15] st st54 := by rw [est54]; exact xg19 hG (by decide) _ _ _
          clear hK3 hK2 hne2 hv2 hF2 ht hvm est54 hPs hKs hk hz
          obtain ⟨hP, hK, hN, hBR⟩ := hj
          clear hw
          refine lv_pop hx hb dX11_appendFree_73 rfl ?_
          refine lv_aload_n hx hb dX11_appendFree_74 rfl (lv_at hl 2 rfl) ?_
          refine va_get (D := (dC, dI)) (ci := 10) (v := .ref (A 18)) (C := RX11) (T := TX11) (N := 19) hx hb hts ii_X11_appendFree_X11 hown hK hP 0 (xw_is (r := 0) (by omega) (xc_fix (r := 0) (by omega))) rfl 14 (by decide) (hts _ mm_X11_appendFree_1) (fun _ hh => hh) rfl dX11_appendFree_75 ?_
          refine lv_iload_n hx hb dX11_appendFree_78 rfl (lv_at hl 1 rfl) ?_
          have hPs := xsub (cn := (gn + sv_len.getD 27 0)) hP (by rw [hst54a]) (by rw [hst54b])
          have hKs := xKsub hK
          have hns : (A19 A v48) 18 ≠ (A19 A v48) 19 := fun h9 => absurd (hN 18 19 (by omega) (by omega) h9) (by decide)
          have hS0 := hS
          refine va_callr (va_runV (As := [.int (nI k1)]) (rest := []) ⟨hx, hb, hml, hown, hts⟩ (s_J4_append_bf812 l dC dI ad E hEE ((A19 A v48) 18) ((A19 A v48) 19) ((C19 C cB49) 19) nb50 (st54 19) (st54 18 2) (gn + sv_len.getD 27 0) _ k1 hns hfit (by omega) (by omega) (by omega) (by omega)) (cwV 1 hts gX11_appendFree_J4_append_bf812 rfl rfl rfl (by decide +kernel) ⟨Nat.le_of_ble_eq_true rfl, Nat.le_of_ble_eq_true rfl⟩) ⟨fun a U g mk q => ⟨q.1, sPre.blind hEE q.2⟩, va_recv hKs hPs (ci := 0) (q0 := 0) rfl rfl, fun U hU hW => ⟨rfl, sPre.of hEE hPs hKs hE hS (hBR.sa _ hS.1) hU hW⟩⟩ rfl rfl hl.1 rfl (lv_room (Nat.le_of_ble_eq_true rfl)) dX11_appendFree_79 ⟨Nat.le_of_ble_eq_true rfl, Nat.le_of_ble_eq_true rfl⟩) hS (fun q _ h => hBR.sa _ hS.1 q h) (hBR.sa _ hS.1) (fun x r55 t H5 locs ht hvm hw hB hz hk hS => ?_)
          obtain ⟨hw, hr9, hB⟩ := hB
          replace hr9 := hr9.symm
          subst hr9
          obtain ⟨hPt, hK2, hne2, hv2, hF2⟩ := hB
          rw [ht] at hPt
          obtain ⟨v56, cB57, nb58, f59, ml60, cn61⟩ := x
          dsimp only at hPt hK2 hne2 hv2 hF2 hw
          obtain ⟨hnb9, rfl, hcn9, hw⟩ := hw
          have hK3 := va_K.moved hvm.symm hK2
          have hj := xjoin hN hP hK hBR hS0.1 hPt hK3 hk hne2 hv2
          obtain ⟨st62, est62⟩ : ∃ y, y = st19 st54 f59 ml60 (nI ((gn + sv_len.getD 27 0) + if k1 < 10 then 1 else 2)) := ⟨_, rfl⟩
          rw [← est62] at hj
          have hst62a : st62 18 1 = 0 := by rw [est62]; rfl
          have hst62b : st62 18 3 = (nI ((gn + sv_len.getD 27 0) + if k1 < 10 then 1 else 2)) := by rw [est62]; rfl
          have hfit : sb_Fit (st62 19) := by rw [est62]; exact hF2
          have hGst62 : XG [1, 2, 3, 4, 5, 6, 7, 8, 9, 10, 11, 12, 14, 15] st54 st62 := by rw [est62]; exact xg19 (XG.rf hG.1) (by decide) _ _ _
          have hG : XG [1, 2, 3, 4, 5, 6, 7, 8, 9, 10, 11, 12, 14, 15] st st62 := by rw [est62]; exact xg19 hG (by decide) _ _ _
          clear hK3 hK2 hne2 hv2 hF2 ht hvm est62 hPs hKs hk hz
          obtain ⟨hP, hK, hN, hBR⟩ := hj
          clear hw
          have hit63 : (if k1 < 10 then 1 else 2) ≤ 2 := by split <;> omega
          refine lv_pop hx hb dX11_appendFree_82 rfl ?_
          refine lv_iload_n hx hb dX11_appendFree_83 rfl (lv_at hl 0 rfl) ?_
          refine lv_iload_n hx hb dX11_appendFree_84 rfl (lv_at hl 1 rfl) ?_
          refine lv_icmp_le (tgt := 108) hx hb dX11_appendFree_85 (by decide) (fun cc => absurd ((nI_leI (a := k42) (b := k1) (by omega) (by omega)).mp cc) (by omega)) (fun _ => ?_)
          refine lv_aload_n hx hb dX11_appendFree_88 rfl (lv_at hl 2 rfl) ?_
          refine va_get (D := (dC, dI)) (ci := 10) (v := .ref (A 18)) (C := RX11) (T := TX11) (N := 19) hx hb hts ii_X11_appendFree_X11 hown hK hP 0 (xw_is (r := 0) (by omega) (xc_fix (r := 0) (by omega))) rfl 14 (by decide) (hts _ mm_X11_appendFree_1) (fun _ hh => hh) rfl dX11_appendFree_89 ?_
          refine va_ldcwS (q := ad (100 + 28)) hx hb hown (hEv.sv.2.2.1.2.2.1) dX11_appendFree_92 ?_
          have hPs := xsub (cn := ((gn + sv_len.getD 27 0) + if k1 < 10 then 1 else 2)) hP (by rw [hst62a]) (by rw [hst62b])
          have hKs := xKsub hK
          have hns : (A19 (A19 A v48) v56) 18 ≠ (A19 (A19 A v48) v56) 19 := fun h9 => absurd (hN 18 19 (by omega) (by omega) h9) (by decide)
          have hslx64 : sv_len.getD 28 0 = 4 := rfl
          have hS0 := hS
          refine va_callr (va_runV (As := [.ref (ad (100 + 28))]) (rest := []) ⟨hx, hb, hml, hown, hts⟩ (s_J4_append_15ec4 l dC dI ad E hEE ((A19 (A19 A v48) v56) 18) ((A19 (A19 A v48) v56) 19) ((C19 (C19 C cB49) cB57) 19) nb58 (st62 19) (st62 18 2) ((gn + sv_len.getD 27 0) + if k1 < 10 then 1 else 2) _ 28 hns hfit (by omega) (by omega) (by omega) (by omega)) (cwV 1 hts gX11_appendFree_J4_append_15ec4 rfl rfl rfl (by decide +kernel) ⟨Nat.le_of_ble_eq_true rfl, Nat.le_of_ble_eq_true rfl⟩) ⟨fun a U g mk q => ⟨q.1, sPre.blind hEE q.2⟩, va_recv hKs hPs (ci := 0) (q0 := 0) rfl rfl, fun U hU hW => ⟨rfl, sPre.of hEE hPs hKs hE hS (hBR.sa _ hS.1) hU hW⟩⟩ rfl rfl hl.1 rfl (lv_room (Nat.le_of_ble_eq_true rfl)) dX11_appendFree_95 ⟨Nat.le_of_ble_eq_true rfl, Nat.le_of_ble_eq_true rfl⟩) hS (fun q _ h => hBR.sa _ hS.1 q h) (hBR.sa _ hS.1) (fun x r65 t H5 locs ht hvm hw hB hz hk hS => ?_)
          obtain ⟨hw, hr9, hB⟩ := hB
          replace hr9 := hr9.symm
          subst hr9
          obtain ⟨hPt, hK2, hne2, hv2, hF2⟩ := hB
          rw [ht] at hPt
          obtain ⟨v66, cB67, nb68, f69, ml70, cn71⟩ := x
          dsimp only at hPt hK2 hne2 hv2 hF2 hw
          obtain ⟨hnb9, rfl, hcn9, hw⟩ := hw
          have hK3 := va_K.moved hvm.symm hK2
          have hj := xjoin hN hP hK hBR hS0.1 hPt hK3 hk hne2 hv2
          obtain ⟨st72, est72⟩ : ∃ y, y = st19 st62 f69 ml70 (nI (((gn + sv_len.getD 27 0) + if k1 < 10 then 1 else 2) + sv_len.getD 28 0)) := ⟨_, rfl⟩
          rw [← est72] at hj
          have hst72a : st72 18 1 = 0 := by rw [est72]; rfl
          have hst72b : st72 18 3 = (nI (((gn + sv_len.getD 27 0) + if k1 < 10 then 1 else 2) + sv_len.getD 28 0)) := by rw [est72]; rfl
          have hfit : sb_Fit (st72 19) := by rw [est72]; exact hF2
          have hGst72 : XG [1, 2, 3, 4, 5, 6, 7, 8, 9, 10, 11, 12, 14, 15] st62 st72 := by rw [est72]; exact xg19 (XG.rf hG.1) (by decide) _ _ _
          have hG : XG [1, 2, 3, 4, 5, 6, 7, 8, 9, 10, 11, 12, 14, 15] st st72 := by rw [est72]; exact xg19 hG (by decide) _ _ _
          clear hK3 hK2 hne2 hv2 hF2 ht hvm est72 hPs hKs hk hz
          obtain ⟨hP, hK, hN, hBR⟩ := hj
          clear hw
          have hit73 : (if 28 < 10 then 1 else 2) ≤ 2 := by split <;> omega
          refine lv_pop hx hb dX11_appendFree_98 rfl ?_
          refine lv_aload_n hx hb dX11_appendFree_99 rfl (lv_at hl 2 rfl) ?_
          refine va_get (D := (dC, dI)) (ci := 10) (v := .ref (A 18)) (C := RX11) (T := TX11) (N := 19) hx hb hts ii_X11_appendFree_X11 hown hK hP 0 (xw_is (r := 0) (by omega) (xc_fix (r := 0) (by omega))) rfl 14 (by decide) (hts _ mm_X11_appendFree_1) (fun _ hh => hh) rfl dX11_appendFree_100 ?_
          refine lv_iload_n hx hb dX11_appendFree_103 rfl (lv_at hl 0 rfl) ?_
          have hPs := xsub (cn := (((gn + sv_len.getD 27 0) + if k1 < 10 then 1 else 2) + sv_len.getD 28 0)) hP (by rw [hst72a]) (by rw [hst72b])
          have hKs := xKsub hK
          have hns : (A19 (A19 (A19 A v48) v56) v66) 18 ≠ (A19 (A19 (A19 A v48) v56) v66) 19 := fun h9 => absurd (hN 18 19 (by omega) (by omega) h9) (by decide)
          have hS0 := hS
          refine va_callr (va_runV (As := [.int (nI k42)]) (rest := []) ⟨hx, hb, hml, hown, hts⟩ (s_J4_append_bf812 l dC dI ad E hEE ((A19 (A19 (A19 A v48) v56) v66) 18) ((A19 (A19 (A19 A v48) v56) v66) 19) ((C19 (C19 (C19 C cB49) cB57) cB67) 19) nb68 (st72 19) (st72 18 2) (((gn + sv_len.getD 27 0) + if k1 < 10 then 1 else 2) + sv_len.getD 28 0) _ k42 hns hfit (by omega) (by omega) (by omega) (by omega)) (cwV 1 hts gX11_appendFree_J4_append_bf812 rfl rfl rfl (by decide +kernel) ⟨Nat.le_of_ble_eq_true rfl, Nat.le_of_ble_eq_true rfl⟩) ⟨fun a U g mk q => ⟨q.1, sPre.blind hEE q.2⟩, va_recv hKs hPs (ci := 0) (q0 := 0) rfl rfl, fun U hU hW => ⟨rfl, sPre.of hEE hPs hKs hE hS (hBR.sa _ hS.1) hU hW⟩⟩ rfl rfl hl.1 rfl (lv_room (Nat.le_of_ble_eq_true rfl)) dX11_appendFree_104 ⟨Nat.le_of_ble_eq_true rfl, Nat.le_of_ble_eq_true rfl⟩) hS (fun q _ h => hBR.sa _ hS.1 q h) (hBR.sa _ hS.1) (fun x r74 t H5 locs ht hvm hw hB hz hk hS => ?_)
          obtain ⟨hw, hr9, hB⟩ := hB
          replace hr9 := hr9.symm
          subst hr9
          obtain ⟨hPt, hK2, hne2, hv2, hF2⟩ := hB
          rw [ht] at hPt
          obtain ⟨v75, cB76, nb77, f78, ml79, cn80⟩ := x
          dsimp only at hPt hK2 hne2 hv2 hF2 hw
          obtain ⟨hnb9, rfl, hcn9, hw⟩ := hw
          have hK3 := va_K.moved hvm.symm hK2
          have hj := xjoin hN hP hK hBR hS0.1 hPt hK3 hk hne2 hv2
          obtain ⟨st81, est81⟩ : ∃ y, y = st19 st72 f78 ml79 (nI ((((gn + sv_len.getD 27 0) + if k1 < 10 then 1 else 2) + sv_len.getD 28 0) + if k42 < 10 then 1 else 2)) := ⟨_, rfl⟩
          rw [← est81] at hj
          have hst81a : st81 18 1 = 0 := by rw [est81]; rfl
          have hst81b : st81 18 3 = (nI ((((gn + sv_len.getD 27 0) + if k1 < 10 then 1 else 2) + sv_len.getD 28 0) + if k42 < 10 then 1 else 2)) := by rw [est81]; rfl
          have hfit : sb_Fit (st81 19) := by rw [est81]; exact hF2
          have hGst81 : XG [1, 2, 3, 4, 5, 6, 7, 8, 9, 10, 11, 12, 14, 15] st72 st81 := by rw [est81]; exact xg19 (XG.rf hG.1) (by decide) _ _ _
          have hG : XG [1, 2, 3, 4, 5, 6, 7, 8, 9, 10, 11, 12, 14, 15] st st81 := by rw [est81]; exact xg19 hG (by decide) _ _ _
          clear hK3 hK2 hne2 hv2 hF2 ht hvm est81 hPs hKs hk hz
          obtain ⟨hP, hK, hN, hBR⟩ := hj
          clear hw
          have hit82 : (if k42 < 10 then 1 else 2) ≤ 2 := by split <;> omega
          refine lv_pop hx hb dX11_appendFree_107 rfl ?_
          refine lv_iload_n hx hb dX11_appendFree_108 rfl (lv_at hl 3 rfl) ?_
          refine lv_iload_n hx hb dX11_appendFree_109 rfl (lv_at hl 1 rfl) ?_
          refine lv_iload_n hx hb dX11_appendFree_110 rfl (lv_at hl 0 rfl) ?_
          refine va_calli (va_runS (As := [.int (nI k1), .int (nI k42)]) (rest := [.int va]) ⟨hx, hb, hml, hown, hts⟩ (x_X11_hoursOf l dC dI ad E hEE (A19 (A19 (A19 (A19 A v48) v56) v66) v75) (C19 (C19 (C19 (C19 C cB49) cB57) cB67) cB76) nb77 _ hN st81 sl so (nI k1) (nI k42)  hG.1) (va_cwS 2 hts gX11_appendFree_X11_hoursOf rfl rfl rfl (by decide +kernel) ⟨Nat.le_of_ble_eq_true rfl, Nat.le_of_ble_eq_true rfl⟩) ⟨fun a U g mk q => ⟨q.1, xPre.blind hEE q.2⟩, fun U hU hW => ⟨rfl, xPre.ofg hEE hP hK hE hS (hBR.xa _ hS.1) hU hW⟩⟩ rfl rfl hl.1 rfl (lv_room (Nat.le_of_ble_eq_true rfl)) dX11_appendFree_111 ⟨Nat.le_of_ble_eq_true rfl, Nat.le_of_ble_eq_true rfl⟩) hS (fun q _ h => hBR.xa _ hS.1 q h) (hBR.xa _ hS.1) (fun r83 x t H locs ht hvm hw hB _ _ hS => ?_)
          have hP := xB.at ht hB
          clear hB ht hvm
          obtain ⟨rfl, hw⟩ := hw
          have hP : va_P (dC, dI) vwCl (xw (A19 (A19 (A19 (A19 A v48) v56) v66) v75) (C19 (C19 (C19 (C19 C cB49) cB57) cB67) cB76) nb77 st81 sl so) _ := hP
          clear hw
          refine lv_iconst (v := (-1)) hx hb dX11_appendFree_114 (by decide) ?_
          refine lv_ixor hx hb dX11_appendFree_115 ?_
          refine lv_topi (fun z84 ez84 => ?_)
          clear ez84
          refine lv_iand hx hb dX11_appendFree_116 ?_
          refine lv_topi (fun z85 ez85 => ?_)
          clear ez85
          refine lv_if_eq (tgt := 131) hx hb dX11_appendFree_117 (by decide) (fun c9 => ?_) (fun c9 => ?_)
          · refine W.widen (k := 5) (n := 170) (Nat.le_of_ble_eq_true rfl) (Nat.le_of_ble_eq_true rfl) ?_
            exact W.vret hx hb hr (fun t ht hW => ⟨⟨((st81, sl, so), (A19 (A19 (A19 (A19 A v48) v56) v66) v75), (C19 (C19 (C19 (C19 C cB49) cB57) cB67) cB76), nb77), rfl, ⟨hG, hL, rfl, ⟨by show st81 18 1 = 0; rw [hst81a], by omega, ⟨((((gn + sv_len.getD 27 0) + if k1 < 10 then 1 else 2) + sv_len.getD 28 0) + if k42 < 10 then 1 else 2), by show st81 18 3 = _; rw [hst81b], by omega, by omega⟩, hfit⟩⟩, ⟨xB.of ht hP, va_K.moved hW.alike hK, hN, hBR⟩⟩, hS.F ht⟩) hS.2.2 dX11_appendFree_131
          · refine lv_aload_n hx hb dX11_appendFree_120 rfl (lv_at hl 2 rfl) ?_
            refine va_get (D := (dC, dI)) (ci := 10) (v := .ref (A 18)) (C := RX11) (T := TX11) (N := 19) hx hb hts ii_X11_appendFree_X11 hown hK hP 0 (xw_is (r := 0) (by omega) (xc_fix (r := 0) (by omega))) rfl 14 (by decide) (hts _ mm_X11_appendFree_1) (fun _ hh => hh) rfl dX11_appendFree_121 ?_
            refine va_ldcwS (q := ad (100 + 29)) hx hb hown (hEv.sv.2.2.1.2.2.2) dX11_appendFree_124 ?_
            have hPs := xsub (cn := ((((gn + sv_len.getD 27 0) + if k1 < 10 then 1 else 2) + sv_len.getD 28 0) + if k42 < 10 then 1 else 2)) hP (by rw [hst81a]) (by rw [hst81b])
            have hKs := xKsub hK
            have hns : (A19 (A19 (A19 (A19 A v48) v56) v66) v75) 18 ≠ (A19 (A19 (A19 (A19 A v48) v56) v66) v75) 19 := fun h9 => absurd (hN 18 19 (by omega) (by omega) h9) (by decide)
            have hslx86 : sv_len.getD 29 0 = 9 := rfl
            have hS0 := hS
            refine va_callr (va_runV (As := [.ref (ad (100 + 29))]) (rest := []) ⟨hx, hb, hml, hown, hts⟩ (s_J4_append_15ec4 l dC dI ad E hEE ((A19 (A19 (A19 (A19 A v48) v56) v66) v75) 18) ((A19 (A19 (A19 (A19 A v48) v56) v66) v75) 19) ((C19 (C19 (C19 (C19 C cB49) cB57) cB67) cB76) 19) nb77 (st81 19) (st81 18 2) ((((gn + sv_len.getD 27 0) + if k1 < 10 then 1 else 2) + sv_len.getD 28 0) + if k42 < 10 then 1 else 2) _ 29 hns hfit (by omega) (by omega) (by omega) (by omega)) (cwV 1 hts gX11_appendFree_J4_append_15ec4 rfl rfl rfl (by decide +kernel) ⟨Nat.le_of_ble_eq_true rfl, Nat.le_of_ble_eq_true rfl⟩) ⟨fun a U g mk q => ⟨q.1, sPre.blind hEE q.2⟩, va_recv hKs hPs (ci := 0) (q0 := 0) rfl rfl, fun U hU hW => ⟨rfl, sPre.of hEE hPs hKs hE hS (hBR.sa _ hS.1) hU hW⟩⟩ rfl rfl hl.1 rfl (lv_room (Nat.le_of_ble_eq_true rfl)) dX11_appendFree_127 ⟨Nat.le_of_ble_eq_true rfl, Nat.le_of_ble_eq_true rfl⟩) hS (fun q _ h => hBR.sa _ hS.1 q h) (hBR.sa _ hS.1) (fun x r87 t H5 locs ht hvm hw hB hz hk hS => ?_)
            obtain ⟨hw, hr9, hB⟩ := hB
            replace hr9 := hr9.symm
            subst hr9
            obtain ⟨hPt, hK2, hne2, hv2, hF2⟩ := hB
            rw [ht] at hPt
            obtain ⟨v88, cB89, nb90, f91, ml92, cn93⟩ := x
            dsimp only at hPt hK2 hne2 hv2 hF2 hw
            obtain ⟨hnb9, rfl, hcn9, hw⟩ := hw
            have hK3 := va_K.moved hvm.symm hK2
            have hj := xjoin hN hP hK hBR hS0.1 hPt hK3 hk hne2 hv2
            obtain ⟨st94, est94⟩ : ∃ y, y = st19 st81 f91 ml92 (nI (((((gn + sv_len.getD 27 0) + if k1 < 10 then 1 else 2) + sv_len.getD 28 0) + if k42 < 10 then 1 else 2) + sv_len.getD 29 0)) := ⟨_, rfl⟩
            rw [← est94] at hj
            have hst94a : st94 18 1 = 0 := by rw [est94]; rfl
            have hst94b : st94 18 3 = (nI (((((gn + sv_len.getD 27 0) + if k1 < 10 then 1 else 2) + sv_len.getD 28 0) + if k42 < 10 then 1 else 2) + sv_len.getD 29 0)) := by rw [est94]; rfl
            have hfit : sb_Fit (st94 19) := by rw [est94]; exact hF2
            have hGst94 : XG [1, 2, 3, 4, 5, 6, 7, 8, 9, 10, 11, 12, 14, 15] st81 st94 := by rw [est94]; exact xg19 (XG.rf hG.1) (by decide) _ _ _
            have hG : XG [1, 2, 3, 4, 5, 6, 7, 8, 9, 10, 11, 12, 14, 15] st st94 := by rw [est94]; exact xg19 hG (by decide) _ _ _
            clear hK3 hK2 hne2 hv2 hF2 ht hvm est94 hPs hKs hk hz
            obtain ⟨hP, hK, hN, hBR⟩ := hj
            clear hw
            have hit95 : (if 29 < 10 then 1 else 2) ≤ 2 := by split <;> omega
            refine lv_pop hx hb dX11_appendFree_130 rfl ?_
            exact W.vret hx hb hr (fun t ht hW => ⟨⟨((st94, sl, so), (A19 (A19 (A19 (A19 (A19 A v48) v56) v66) v75) v88), (C19 (C19 (C19 (C19 (C19 C cB49) cB57) cB67) cB76) cB89), nb90), rfl, ⟨hG, hL, rfl, ⟨by show st94 18 1 = 0; rw [hst94a], by omega, ⟨(((((gn + sv_len.getD 27 0) + if k1 < 10 then 1 else 2) + sv_len.getD 28 0) + if k42 < 10 then 1 else 2) + sv_len.getD 29 0), by show st94 18 3 = _; rw [hst94b], by omega, by omega⟩, hfit⟩⟩, ⟨xB.of ht hP, va_K.moved hW.alike hK, hN, hBR⟩⟩, hS.F ht⟩) hS.2.2 dX11_appendFree_131
        · have c7 : ¬ 23 ≤ k42 := fun hh => c7 ((nI_leI (a := 23) (b := k42) (by omega) (by omega)).mpr hh)
          refine lv_iload_n hx hb dX11_appendFree_46 rfl (lv_at hl 3 rfl) ?_
          refine lv_iload_n hx hb dX11_appendFree_47 rfl (lv_at hl 0 rfl) ?_
          refine lv_iconst (v := 1) hx hb dX11_appendFree_48 (by decide) ?_
          refine lv_iadd hx hb dX11_appendFree_49 ?_
          refine zz_top (v := nI (k42 + 1)) (nI_add k42 1) ?_
          refine lv_ishr hx hb dX11_appendFree_50 ?_
          refine lv_topi (fun z96 ez96 => ?_)
          clear ez96
          refine lv_iconst (v := 1) hx hb dX11_appendFree_51 (by decide) ?_
          refine lv_iand hx hb dX11_appendFree_52 ?_
          refine lv_topi (fun z97 ez97 => ?_)
          clear ez97
          refine lv_iconst (v := 1) hx hb dX11_appendFree_53 (by decide) ?_
          refine lv_icmp_ne (tgt := 63) hx hb dX11_appendFree_54 (by decide) (fun c10 => ?_) (fun c10 => ?_)
          · refine lv_aload_n hx hb dX11_appendFree_63 rfl (lv_at hl 2 rfl) ?_
            refine va_get (D := (dC, dI)) (ci := 10) (v := .ref (A 18)) (C := RX11) (T := TX11) (N := 19) hx hb hts ii_X11_appendFree_X11 hown hK hP 0 (xw_is (r := 0) (by omega) (xc_fix (r := 0) (by omega))) rfl 14 (by decide) (hts _ mm_X11_appendFree_1) (fun _ hh => hh) rfl dX11_appendFree_64 ?_
            refine va_ldcwS (q := ad (100 + 27)) hx hb hown (hEv.sv.2.2.1.2.1) dX11_appendFree_67 ?_
            have hPs := xsub (cn := gn) hP (by rw [hco]) (by rw [hc3])
            have hKs := xKsub hK
            have hns : A 18 ≠ A 19 := fun h9 => absurd (hN 18 19 (by omega) (by omega) h9) (by decide)
            have hslx98 : sv_len.getD 27 0 = 6 := rfl
            have hS0 := hS
            refine va_callr (va_runV (As := [.ref (ad (100 + 27))]) (rest := []) ⟨hx, hb, hml, hown, hts⟩ (s_J4_append_15ec4 l dC dI ad E hEE (A 18) (A 19) (C 19) nb (st 19) (st 18 2) gn _ 27 hns hfit (by omega) (by omega) (by omega) (by omega)) (cwV 1 hts gX11_appendFree_J4_append_15ec4 rfl rfl rfl (by decide +kernel) ⟨Nat.le_of_ble_eq_true rfl, Nat.le_of_ble_eq_true rfl⟩) ⟨fun a U g mk q => ⟨q.1, sPre.blind hEE q.2⟩, va_recv hKs hPs (ci := 0) (q0 := 0) rfl rfl, fun U hU hW => ⟨rfl, sPre.of hEE hPs hKs hE hS (hBR.sa _ hS.1) hU hW⟩⟩ rfl rfl hl.1 rfl (lv_room (Nat.le_of_ble_eq_true rfl)) dX11_appendFree_70 ⟨Nat.le_of_ble_eq_true rfl, Nat.le_of_ble_eq_true rfl⟩) hS (fun q _ h => hBR.sa _ hS.1 q h) (hBR.sa _ hS.1) (fun x r99 t H5 locs ht hvm hw hB hz hk hS => ?_)
            obtain ⟨hw, hr9, hB⟩ := hB
            replace hr9 := hr9.symm
            subst hr9
            obtain ⟨hPt, hK2, hne2, hv2, hF2⟩ := hB
            rw [ht] at hPt
            obtain ⟨v100, cB101, nb102, f103, ml104, cn105⟩ := x
            dsimp only at hPt hK2 hne2 hv2 hF2 hw
            obtain ⟨hnb9, rfl, hcn9, hw⟩ := hw
            have hK3 := va_K.moved hvm.symm hK2
            have hj := xjoin hN hP hK hBR hS0.1 hPt hK3 hk hne2 hv2
            obtain ⟨st106, est106⟩ : ∃ y, y = st19 st f103 ml104 (nI (gn + sv_len.getD 27 0)) := ⟨_, rfl⟩
            rw [← est106] at hj
            have hst106a : st106 18 1 = 0 := by rw [est106]; rfl
            have hst106b : st106 18 3 = (nI (gn + sv_len.getD 27 0)) := by rw [est106]; rfl
            have hfit : sb_Fit (st106 19) := by rw [est106]; exact hF2
            have hGst106 : XG [1, 2, 3, 4, 5, 6, 7, 8, 9, 10, 11, 12, 14, 15] st st106 := by rw [est106]; exact xg19 (XG.rf hG.1) (by decide) _ _ _
            have hG : XG [1, 2, 3, 4, 5, 6, 7, 8, 9, 10, 11, 12, 14, 15] st st106 := by rw [est106]; exact xg19 hG (by decide) _ _ _
            clear hK3 hK2 hne2 hv2 hF2 ht hvm est106 hPs hKs hk hz
            obtain ⟨hP, hK, hN, hBR⟩ := hj
            clear hw
            refine lv_pop hx hb dX11_appendFree_73 rfl ?_
            refine lv_aload_n hx hb dX11_appendFree_74 rfl (lv_at hl 2 rfl) ?_
            refine va_get (D := (dC, dI)) (ci := 10) (v := .ref (A 18)) (C := RX11) (T := TX11) (N := 19) hx hb hts ii_X11_appendFree_X11 hown hK hP 0 (xw_is (r := 0) (by omega) (xc_fix (r := 0) (by omega))) rfl 14 (by decide) (hts _ mm_X11_appendFree_1) (fun _ hh => hh) rfl dX11_appendFree_75 ?_
            refine lv_iload_n hx hb dX11_appendFree_78 rfl (lv_at hl 1 rfl) ?_
            have hPs := xsub (cn := (gn + sv_len.getD 27 0)) hP (by rw [hst106a]) (by rw [hst106b])
            have hKs := xKsub hK
            have hns : (A19 A v100) 18 ≠ (A19 A v100) 19 := fun h9 => absurd (hN 18 19 (by omega) (by omega) h9) (by decide)
            have hS0 := hS
            refine va_callr (va_runV (As := [.int (nI k1)]) (rest := []) ⟨hx, hb, hml, hown, hts⟩ (s_J4_append_bf812 l dC dI ad E hEE ((A19 A v100) 18) ((A19 A v100) 19) ((C19 C cB101) 19) nb102 (st106 19) (st106 18 2) (gn + sv_len.getD 27 0) _ k1 hns hfit (by omega) (by omega) (by omega) (by omega)) (cwV 1 hts gX11_appendFree_J4_append_bf812 rfl rfl rfl (by decide +kernel) ⟨Nat.le_of_ble_eq_true rfl, Nat.le_of_ble_eq_true rfl⟩) ⟨fun a U g mk q => ⟨q.1, sPre.blind hEE q.2⟩, va_recv hKs hPs (ci := 0) (q0 := 0) rfl rfl, fun U hU hW => ⟨rfl, sPre.of hEE hPs hKs hE hS (hBR.sa _ hS.1) hU hW⟩⟩ rfl rfl hl.1 rfl (lv_room (Nat.le_of_ble_eq_true rfl)) dX11_appendFree_79 ⟨Nat.le_of_ble_eq_true rfl, Nat.le_of_ble_eq_true rfl⟩) hS (fun q _ h => hBR.sa _ hS.1 q h) (hBR.sa _ hS.1) (fun x r107 t H5 locs ht hvm hw hB hz hk hS => ?_)
            obtain ⟨hw, hr9, hB⟩ := hB
            replace hr9 := hr9.symm
            subst hr9
            obtain ⟨hPt, hK2, hne2, hv2, hF2⟩ := hB
            rw [ht] at hPt
            obtain ⟨v108, cB109, nb110, f111, ml112, cn113⟩ := x
            dsimp only at hPt hK2 hne2 hv2 hF2 hw
            obtain ⟨hnb9, rfl, hcn9, hw⟩ := hw
            have hK3 := va_K.moved hvm.symm hK2
            have hj := xjoin hN hP hK hBR hS0.1 hPt hK3 hk hne2 hv2
            obtain ⟨st114, est114⟩ : ∃ y, y = st19 st106 f111 ml112 (nI ((gn + sv_len.getD 27 0) + if k1 < 10 then 1 else 2)) := ⟨_, rfl⟩
            rw [← est114] at hj
            have hst114a : st114 18 1 = 0 := by rw [est114]; rfl
            have hst114b : st114 18 3 = (nI ((gn + sv_len.getD 27 0) + if k1 < 10 then 1 else 2)) := by rw [est114]; rfl
            have hfit : sb_Fit (st114 19) := by rw [est114]; exact hF2
            have hGst114 : XG [1, 2, 3, 4, 5, 6, 7, 8, 9, 10, 11, 12, 14, 15] st106 st114 := by rw [est114]; exact xg19 (XG.rf hG.1) (by decide) _ _ _
            have hG : XG [1, 2, 3, 4, 5, 6, 7, 8, 9, 10, 11, 12, 14, 15] st st114 := by rw [est114]; exact xg19 hG (by decide) _ _ _
            clear hK3 hK2 hne2 hv2 hF2 ht hvm est114 hPs hKs hk hz
            obtain ⟨hP, hK, hN, hBR⟩ := hj
            clear hw
            have hit115 : (if k1 < 10 then 1 else 2) ≤ 2 := by split <;> omega
            refine lv_pop hx hb dX11_appendFree_82 rfl ?_
            refine lv_iload_n hx hb dX11_appendFree_83 rfl (lv_at hl 0 rfl) ?_
            refine lv_iload_n hx hb dX11_appendFree_84 rfl (lv_at hl 1 rfl) ?_
            refine lv_icmp_le (tgt := 108) hx hb dX11_appendFree_85 (by decide) (fun c11 => ?_) (fun c11 => ?_)
            · have c11 : k42 ≤ k1 := (nI_leI (a := k42) (b := k1) (by omega) (by omega)).mp c11
              refine lv_iload_n hx hb dX11_appendFree_108 rfl (lv_at hl 3 rfl) ?_
              refine lv_iload_n hx hb dX11_appendFree_109 rfl (lv_at hl 1 rfl) ?_
              refine lv_iload_n hx hb dX11_appendFree_110 rfl (lv_at hl 0 rfl) ?_
              refine va_calli (va_runS (As := [.int (nI k1), .int (nI k42)]) (rest := [.int va]) ⟨hx, hb, hml, hown, hts⟩ (x_X11_hoursOf l dC dI ad E hEE (A19 (A19 A v100) v108) (C19 (C19 C cB101) cB109) nb110 _ hN st114 sl so (nI k1) (nI k42)  hG.1) (va_cwS 2 hts gX11_appendFree_X11_hoursOf rfl rfl rfl (by decide +kernel) ⟨Nat.le_of_ble_eq_true rfl, Nat.le_of_ble_eq_true rfl⟩) ⟨fun a U g mk q => ⟨q.1, xPre.blind hEE q.2⟩, fun U hU hW => ⟨rfl, xPre.ofg hEE hP hK hE hS (hBR.xa _ hS.1) hU hW⟩⟩ rfl rfl hl.1 rfl (lv_room (Nat.le_of_ble_eq_true rfl)) dX11_appendFree_111 ⟨Nat.le_of_ble_eq_true rfl, Nat.le_of_ble_eq_true rfl⟩) hS (fun q _ h => hBR.xa _ hS.1 q h) (hBR.xa _ hS.1) (fun r116 x t H locs ht hvm hw hB _ _ hS => ?_)
              have hP := xB.at ht hB
              clear hB ht hvm
              obtain ⟨rfl, hw⟩ := hw
              have hP : va_P (dC, dI) vwCl (xw (A19 (A19 A v100) v108) (C19 (C19 C cB101) cB109) nb110 st114 sl so) _ := hP
              clear hw
              refine lv_iconst (v := (-1)) hx hb dX11_appendFree_114 (by decide) ?_
              refine lv_ixor hx hb dX11_appendFree_115 ?_
              refine lv_topi (fun z117 ez117 => ?_)
              clear ez117
              refine lv_iand hx hb dX11_appendFree_116 ?_
              refine lv_topi (fun z118 ez118 => ?_)
              clear ez118
              refine lv_if_eq (tgt := 131) hx hb dX11_appendFree_117 (by decide) (fun c12 => ?_) (fun c12 => ?_)
              · refine W.widen (k := 5) (n := 170) (Nat.le_of_ble_eq_true rfl) (Nat.le_of_ble_eq_true rfl) ?_
                exact W.vret hx hb hr (fun t ht hW => ⟨⟨((st114, sl, so), (A19 (A19 A v100) v108), (C19 (C19 C cB101) cB109), nb110), rfl, ⟨hG, hL, rfl, ⟨by show st114 18 1 = 0; rw [hst114a], by omega, ⟨((gn + sv_len.getD 27 0) + if k1 < 10 then 1 else 2), by show st114 18 3 = _; rw [hst114b], by omega, by omega⟩, hfit⟩⟩, ⟨xB.of ht hP, va_K.moved hW.alike hK, hN, hBR⟩⟩, hS.F ht⟩) hS.2.2 dX11_appendFree_131
              · refine lv_aload_n hx hb dX11_appendFree_120 rfl (lv_at hl 2 rfl) ?_
                refine va_get (D := (dC, dI)) (ci := 10) (v := .ref (A 18)) (C := RX11) (T := TX11) (N := 19) hx hb hts ii_X11_appendFree_X11 hown hK hP 0 (xw_is (r := 0) (by omega) (xc_fix (r := 0) (by omega))) rfl 14 (by decide) (hts _ mm_X11_appendFree_1) (fun _ hh => hh) rfl dX11_appendFree_121 ?_
                refine va_ldcwS (q := ad (100 + 29)) hx hb hown (hEv.sv.2.2.1.2.2.2) dX11_appendFree_124 ?_
                have hPs := xsub (cn := ((gn + sv_len.getD 27 0) + if k1 < 10 then 1 else 2)) hP (by rw [hst114a]) (by rw [hst114b])
                have hKs := xKsub hK
                have hns : (A19 (A19 A v100) v108) 18 ≠ (A19 (A19 A v100) v108) 19 := fun h9 => absurd (hN 18 19 (by omega) (by omega) h9) (by decide)
                have hslx119 : sv_len.getD 29 0 = 9 := rfl
                have hS0 := hS
                refine va_callr (va_runV (As := [.ref (ad (100 + 29))]) (rest := []) ⟨hx, hb, hml, hown, hts⟩ (s_J4_append_15ec4 l dC dI ad E hEE ((A19 (A19 A v100) v108) 18) ((A19 (A19 A v100) v108) 19) ((C19 (C19 C cB101) cB109) 19) nb110 (st114 19) (st114 18 2) ((gn + sv_len.getD 27 0) + if k1 < 10 then 1 else 2) _ 29 hns hfit (by omega) (by omega) (by omega) (by omega)) (cwV 1 hts gX11_appendFree_J4_append_15ec4 rfl rfl rfl (by decide +kernel) ⟨Nat.le_of_ble_eq_true rfl, Nat.le_of_ble_eq_true rfl⟩) ⟨fun a U g mk q => ⟨q.1, sPre.blind hEE q.2⟩, va_recv hKs hPs (ci := 0) (q0 := 0) rfl rfl, fun U hU hW => ⟨rfl, sPre.of hEE hPs hKs hE hS (hBR.sa _ hS.1) hU hW⟩⟩ rfl rfl hl.1 rfl (lv_room (Nat.le_of_ble_eq_true rfl)) dX11_appendFree_127 ⟨Nat.le_of_ble_eq_true rfl, Nat.le_of_ble_eq_true rfl⟩) hS (fun q _ h => hBR.sa _ hS.1 q h) (hBR.sa _ hS.1) (fun x r120 t H5 locs ht hvm hw hB hz hk hS => ?_)
                obtain ⟨hw, hr9, hB⟩ := hB
                replace hr9 := hr9.symm
                subst hr9
                obtain ⟨hPt, hK2, hne2, hv2, hF2⟩ := hB
                rw [ht] at hPt
                obtain ⟨v121, cB122, nb123, f124, ml125, cn126⟩ := x
                dsimp only at hPt hK2 hne2 hv2 hF2 hw
                obtain ⟨hnb9, rfl, hcn9, hw⟩ := hw
                have hK3 := va_K.moved hvm.symm hK2
                have hj := xjoin hN hP hK hBR hS0.1 hPt hK3 hk hne2 hv2
                obtain ⟨st127, est127⟩ : ∃ y, y = st19 st114 f124 ml125 (nI (((gn + sv_len.getD 27 0) + if k1 < 10 then 1 else 2) + sv_len.getD 29 0)) := ⟨_, rfl⟩
                rw [← est127] at hj
                have hst127a : st127 18 1 = 0 := by rw [est127]; rfl
                have hst127b : st127 18 3 = (nI (((gn + sv_len.getD 27 0) + if k1 < 10 then 1 else 2) + sv_len.getD 29 0)) := by rw [est127]; rfl
                have hfit : sb_Fit (st127 19) := by rw [est127]; exact hF2
                have hGst127 : XG [1, 2, 3, 4, 5, 6, 7, 8, 9, 10, 11, 12, 14, 15] st114 st127 := by rw [est127]; exact xg19 (XG.rf hG.1) (by decide) _ _ _
                have hG : XG [1, 2, 3, 4, 5, 6, 7, 8, 9, 10, 11, 12, 14, 15] st st127 := by rw [est127]; exact xg19 hG (by decide) _ _ _
                clear hK3 hK2 hne2 hv2 hF2 ht hvm est127 hPs hKs hk hz
                obtain ⟨hP, hK, hN, hBR⟩ := hj
                clear hw
                have hit128 : (if 29 < 10 then 1 else 2) ≤ 2 := by split <;> omega
                refine lv_pop hx hb dX11_appendFree_130 rfl ?_
                refine W.widen (k := 5) (n := 170) (Nat.le_of_ble_eq_true rfl) (Nat.le_of_ble_eq_true rfl) ?_
                exact W.vret hx hb hr (fun t ht hW => ⟨⟨((st127, sl, so), (A19 (A19 (A19 A v100) v108) v121), (C19 (C19 (C19 C cB101) cB109) cB122), nb123), rfl, ⟨hG, hL, rfl, ⟨by show st127 18 1 = 0; rw [hst127a], by omega, ⟨(((gn + sv_len.getD 27 0) + if k1 < 10 then 1 else 2) + sv_len.getD 29 0), by show st127 18 3 = _; rw [hst127b], by omega, by omega⟩, hfit⟩⟩, ⟨xB.of ht hP, va_K.moved hW.alike hK, hN, hBR⟩⟩, hS.F ht⟩) hS.2.2 dX11_appendFree_131
            · have c11 : ¬ k42 ≤ k1 := fun hh => c11 ((nI_leI (a := k42) (b := k1) (by omega) (by omega)).mpr hh)
              refine lv_aload_n hx hb dX11_appendFree_88 rfl (lv_at hl 2 rfl) ?_
              refine va_get (D := (dC, dI)) (ci := 10) (v := .ref (A 18)) (C := RX11) (T := TX11) (N := 19) hx hb hts ii_X11_appendFree_X11 hown hK hP 0 (xw_is (r := 0) (by omega) (xc_fix (r := 0) (by omega))) rfl 14 (by decide) (hts _ mm_X11_appendFree_1) (fun _ hh => hh) rfl dX11_appendFree_89 ?_
              refine va_ldcwS (q := ad (100 + 28)) hx hb hown (hEv.sv.2.2.1.2.2.1) dX11_appendFree_92 ?_
              have hPs := xsub (cn := ((gn + sv_len.getD 27 0) + if k1 < 10 then 1 else 2)) hP (by rw [hst114a]) (by rw [hst114b])
              have hKs := xKsub hK
              have hns : (A19 (A19 A v100) v108) 18 ≠ (A19 (A19 A v100) v108) 19 := fun h9 => absurd (hN 18 19 (by omega) (by omega) h9) (by decide)
              have hslx129 : sv_len.getD 28 0 = 4 := rfl
              have hS0 := hS
              refine va_callr (va_runV (As := [.ref (ad (100 + 28))]) (rest := []) ⟨hx, hb, hml, hown, hts⟩ (s_J4_append_15ec4 l dC dI ad E hEE ((A19 (A19 A v100) v108) 18) ((A19 (A19 A v100) v108) 19) ((C19 (C19 C cB101) cB109) 19) nb110 (st114 19) (st114 18 2) ((gn + sv_len.getD 27 0) + if k1 < 10 then 1 else 2) _ 28 hns hfit (by omega) (by omega) (by omega) (by omega)) (cwV 1 hts gX11_appendFree_J4_append_15ec4 rfl rfl rfl (by decide +kernel) ⟨Nat.le_of_ble_eq_true rfl, Nat.le_of_ble_eq_true rfl⟩) ⟨fun a U g mk q => ⟨q.1, sPre.blind hEE q.2⟩, va_recv hKs hPs (ci := 0) (q0 := 0) rfl rfl, fun U hU hW => ⟨rfl, sPre.of hEE hPs hKs hE hS (hBR.sa _ hS.1) hU hW⟩⟩ rfl rfl hl.1 rfl (lv_room (Nat.le_of_ble_eq_true rfl)) dX11_appendFree_95 ⟨Nat.le_of_ble_eq_true rfl, Nat.le_of_ble_eq_true rfl⟩) hS (fun q _ h => hBR.sa _ hS.1 q h) (hBR.sa _ hS.1) (fun x r130 t H5 locs ht hvm hw hB hz hk hS => ?_)
              obtain ⟨hw, hr9, hB⟩ := hB
              replace hr9 := hr9.symm
              subst hr9
              obtain ⟨hPt, hK2, hne2, hv2, hF2⟩ := hB
              rw [ht] at hPt
              obtain ⟨v131, cB132, nb133, f134, ml135, cn136⟩ := x
              dsimp only at hPt hK2 hne2 hv2 hF2 hw
              obtain ⟨hnb9, rfl, hcn9, hw⟩ := hw
              have hK3 := va_K.moved hvm.symm hK2
              have hj := xjoin hN hP hK hBR hS0.1 hPt hK3 hk hne2 hv2
              obtain ⟨st137, est137⟩ : ∃ y, y = st19 st114 f134 ml135 (nI (((gn + sv_len.getD 27 0) + if k1 < 10 then 1 else 2) + sv_len.getD 28 0)) := ⟨_, rfl⟩
              rw [← est137] at hj
              have hst137a : st137 18 1 = 0 := by rw [est137]; rfl
              have hst137b : st137 18 3 = (nI (((gn + sv_len.getD 27 0) + if k1 < 10 then 1 else 2) + sv_len.getD 28 0)) := by rw [est137]; rfl
              have hfit : sb_Fit (st137 19) := by rw [est137]; exact hF2
              have hGst137 : XG [1, 2, 3, 4, 5, 6, 7, 8, 9, 10, 11, 12, 14, 15] st114 st137 := by rw [est137]; exact xg19 (XG.rf hG.1) (by decide) _ _ _
              have hG : XG [1, 2, 3, 4, 5, 6, 7, 8, 9, 10, 11, 12, 14, 15] st st137 := by rw [est137]; exact xg19 hG (by decide) _ _ _
              clear hK3 hK2 hne2 hv2 hF2 ht hvm est137 hPs hKs hk hz
              obtain ⟨hP, hK, hN, hBR⟩ := hj
              clear hw
              have hit138 : (if 28 < 10 then 1 else 2) ≤ 2 := by split <;> omega
              refine lv_pop hx hb dX11_appendFree_98 rfl ?_
              refine lv_aload_n hx hb dX11_appendFree_99 rfl (lv_at hl 2 rfl) ?_
              refine va_get (D := (dC, dI)) (ci := 10) (v := .ref (A 18)) (C := RX11) (T := TX11) (N := 19) hx hb hts ii_X11_appendFree_X11 hown hK hP 0 (xw_is (r := 0) (by omega) (xc_fix (r := 0) (by omega))) rfl 14 (by decide) (hts _ mm_X11_appendFree_1) (fun _ hh => hh) rfl dX11_appendFree_100 ?_
              refine lv_iload_n hx hb dX11_appendFree_103 rfl (lv_at hl 0 rfl) ?_
              have hPs := xsub (cn := (((gn + sv_len.getD 27 0) + if k1 < 10 then 1 else 2) + sv_len.getD 28 0)) hP (by rw [hst137a]) (by rw [hst137b])
              have hKs := xKsub hK
              have hns : (A19 (A19 (A19 A v100) v108) v131) 18 ≠ (A19 (A19 (A19 A v100) v108) v131) 19 := fun h9 => absurd (hN 18 19 (by omega) (by omega) h9) (by decide)
              have hS0 := hS
              refine va_callr (va_runV (As := [.int (nI k42)]) (rest := []) ⟨hx, hb, hml, hown, hts⟩ (s_J4_append_bf812 l dC dI ad E hEE ((A19 (A19 (A19 A v100) v108) v131) 18) ((A19 (A19 (A19 A v100) v108) v131) 19) ((C19 (C19 (C19 C cB101) cB109) cB132) 19) nb133 (st137 19) (st137 18 2) (((gn + sv_len.getD 27 0) + if k1 < 10 then 1 else 2) + sv_len.getD 28 0) _ k42 hns hfit (by omega) (by omega) (by omega) (by omega)) (cwV 1 hts gX11_appendFree_J4_append_bf812 rfl rfl rfl (by decide +kernel) ⟨Nat.le_of_ble_eq_true rfl, Nat.le_of_ble_eq_true rfl⟩) ⟨fun a U g mk q => ⟨q.1, sPre.blind hEE q.2⟩, va_recv hKs hPs (ci := 0) (q0 := 0) rfl rfl, fun U hU hW => ⟨rfl, sPre.of hEE hPs hKs hE hS (hBR.sa _ hS.1) hU hW⟩⟩ rfl rfl hl.1 rfl (lv_room (Nat.le_of_ble_eq_true rfl)) dX11_appendFree_104 ⟨Nat.le_of_ble_eq_true rfl, Nat.le_of_ble_eq_true rfl⟩) hS (fun q _ h => hBR.sa _ hS.1 q h) (hBR.sa _ hS.1) (fun x r139 t H5 locs ht hvm hw hB hz hk hS => ?_)
              obtain ⟨hw, hr9, hB⟩ := hB
              replace hr9 := hr9.symm
              subst hr9
              obtain ⟨hPt, hK2, hne2, hv2, hF2⟩ := hB
              rw [ht] at hPt
              obtain ⟨v140, cB141, nb142, f143, ml144, cn145⟩ := x
              dsimp only at hPt hK2 hne2 hv2 hF2 hw
              obtain ⟨hnb9, rfl, hcn9, hw⟩ := hw
              have hK3 := va_K.moved hvm.symm hK2
              have hj := xjoin hN hP hK hBR hS0.1 hPt hK3 hk hne2 hv2
              obtain ⟨st146, est146⟩ : ∃ y, y = st19 st137 f143 ml144 (nI ((((gn + sv_len.getD 27 0) + if k1 < 10 then 1 else 2) + sv_len.getD 28 0) + if k42 < 10 then 1 else 2)) := ⟨_, rfl⟩
              rw [← est146] at hj
              have hst146a : st146 18 1 = 0 := by rw [est146]; rfl
              have hst146b : st146 18 3 = (nI ((((gn + sv_len.getD 27 0) + if k1 < 10 then 1 else 2) + sv_len.getD 28 0) + if k42 < 10 then 1 else 2)) := by rw [est146]; rfl
              have hfit : sb_Fit (st146 19) := by rw [est146]; exact hF2
              have hGst146 : XG [1, 2, 3, 4, 5, 6, 7, 8, 9, 10, 11, 12, 14, 15] st137 st146 := by rw [est146]; exact xg19 (XG.rf hG.1) (by decide) _ _ _
              have hG : XG [1, 2, 3, 4, 5, 6, 7, 8, 9, 10, 11, 12, 14, 15] st st146 := by rw [est146]; exact xg19 hG (by decide) _ _ _
              clear hK3 hK2 hne2 hv2 hF2 ht hvm est146 hPs hKs hk hz
              obtain ⟨hP, hK, hN, hBR⟩ := hj
              clear hw
              have hit147 : (if k42 < 10 then 1 else 2) ≤ 2 := by split <;> omega
              refine lv_pop hx hb dX11_appendFree_107 rfl ?_
              refine lv_iload_n hx hb dX11_appendFree_108 rfl (lv_at hl 3 rfl) ?_
              refine lv_iload_n hx hb dX11_appendFree_109 rfl (lv_at hl 1 rfl) ?_
              refine lv_iload_n hx hb dX11_appendFree_110 rfl (lv_at hl 0 rfl) ?_
              refine va_calli (va_runS (As := [.int (nI k1), .int (nI k42)]) (rest := [.int va]) ⟨hx, hb, hml, hown, hts⟩ (x_X11_hoursOf l dC dI ad E hEE (A19 (A19 (A19 (A19 A v100) v108) v131) v140) (C19 (C19 (C19 (C19 C cB101) cB109) cB132) cB141) nb142 _ hN st146 sl so (nI k1) (nI k42)  hG.1) (va_cwS 2 hts gX11_appendFree_X11_hoursOf rfl rfl rfl (by decide +kernel) ⟨Nat.le_of_ble_eq_true rfl, Nat.le_of_ble_eq_true rfl⟩) ⟨fun a U g mk q => ⟨q.1, xPre.blind hEE q.2⟩, fun U hU hW => ⟨rfl, xPre.ofg hEE hP hK hE hS (hBR.xa _ hS.1) hU hW⟩⟩ rfl rfl hl.1 rfl (lv_room (Nat.le_of_ble_eq_true rfl)) dX11_appendFree_111 ⟨Nat.le_of_ble_eq_true rfl, Nat.le_of_ble_eq_true rfl⟩) hS (fun q _ h => hBR.xa _ hS.1 q h) (hBR.xa _ hS.1) (fun r148 x t H locs ht hvm hw hB _ _ hS => ?_)
              have hP := xB.at ht hB
              clear hB ht hvm
              obtain ⟨rfl, hw⟩ := hw
              have hP : va_P (dC, dI) vwCl (xw (A19 (A19 (A19 (A19 A v100) v108) v131) v140) (C19 (C19 (C19 (C19 C cB101) cB109) cB132) cB141) nb142 st146 sl so) _ := hP
              clear hw
              refine lv_iconst (v := (-1)) hx hb dX11_appendFree_114 (by decide) ?_
              refine lv_ixor hx hb dX11_appendFree_115 ?_
              refine lv_topi (fun z149 ez149 => ?_)
              clear ez149
              refine lv_iand hx hb dX11_appendFree_116 ?_
              refine lv_topi (fun z150 ez150 => ?_)
              clear ez150
              refine lv_if_eq (tgt := 131) hx hb dX11_appendFree_117 (by decide) (fun c13 => ?_) (fun c13 => ?_)
              · refine W.widen (k := 5) (n := 170) (Nat.le_of_ble_eq_true rfl) (Nat.le_of_ble_eq_true rfl) ?_
                exact W.vret hx hb hr (fun t ht hW => ⟨⟨((st146, sl, so), (A19 (A19 (A19 (A19 A v100) v108) v131) v140), (C19 (C19 (C19 (C19 C cB101) cB109) cB132) cB141), nb142), rfl, ⟨hG, hL, rfl, ⟨by show st146 18 1 = 0; rw [hst146a], by omega, ⟨((((gn + sv_len.getD 27 0) + if k1 < 10 then 1 else 2) + sv_len.getD 28 0) + if k42 < 10 then 1 else 2), by show st146 18 3 = _; rw [hst146b], by omega, by omega⟩, hfit⟩⟩, ⟨xB.of ht hP, va_K.moved hW.alike hK, hN, hBR⟩⟩, hS.F ht⟩) hS.2.2 dX11_appendFree_131
              · refine lv_aload_n hx hb dX11_appendFree_120 rfl (lv_at hl 2 rfl) ?_
                refine va_get (D := (dC, dI)) (ci := 10) (v := .ref (A 18)) (C := RX11) (T := TX11) (N := 19) hx hb hts ii_X11_appendFree_X11 hown hK hP 0 (xw_is (r := 0) (by omega) (xc_fix (r := 0) (by omega))) rfl 14 (by decide) (hts _ mm_X11_appendFree_1) (fun _ hh => hh) rfl dX11_appendFree_121 ?_
                refine va_ldcwS (q := ad (100 + 29)) hx hb hown (hEv.sv.2.2.1.2.2.2) dX11_appendFree_124 ?_
                have hPs := xsub (cn := ((((gn + sv_len.getD 27 0) + if k1 < 10 then 1 else 2) + sv_len.getD 28 0) + if k42 < 10 then 1 else 2)) hP (by rw [hst146a]) (by rw [hst146b])
                have hKs := xKsub hK
                have hns : (A19 (A19 (A19 (A19 A v100) v108) v131) v140) 18 ≠ (A19 (A19 (A19 (A19 A v100) v108) v131) v140) 19 := fun h9 => absurd (hN 18 19 (by omega) (by omega) h9) (by decide)
                have hslx151 : sv_len.getD 29 0 = 9 := rfl
                have hS0 := hS
                refine va_callr (va_runV (As := [.ref (ad (100 + 29))]) (rest := []) ⟨hx, hb, hml, hown, hts⟩ (s_J4_append_15ec4 l dC dI ad E hEE ((A19 (A19 (A19 (A19 A v100) v108) v131) v140) 18) ((A19 (A19 (A19 (A19 A v100) v108) v131) v140) 19) ((C19 (C19 (C19 (C19 C cB101) cB109) cB132) cB141) 19) nb142 (st146 19) (st146 18 2) ((((gn + sv_len.getD 27 0) + if k1 < 10 then 1 else 2) + sv_len.getD 28 0) + if k42 < 10 then 1 else 2) _ 29 hns hfit (by omega) (by omega) (by omega) (by omega)) (cwV 1 hts gX11_appendFree_J4_append_15ec4 rfl rfl rfl (by decide +kernel) ⟨Nat.le_of_ble_eq_true rfl, Nat.le_of_ble_eq_true rfl⟩) ⟨fun a U g mk q => ⟨q.1, sPre.blind hEE q.2⟩, va_recv hKs hPs (ci := 0) (q0 := 0) rfl rfl, fun U hU hW => ⟨rfl, sPre.of hEE hPs hKs hE hS (hBR.sa _ hS.1) hU hW⟩⟩ rfl rfl hl.1 rfl (lv_room (Nat.le_of_ble_eq_true rfl)) dX11_appendFree_127 ⟨Nat.le_of_ble_eq_true rfl, Nat.le_of_ble_eq_true rfl⟩) hS (fun q _ h => hBR.sa _ hS.1 q h) (hBR.sa _ hS.1) (fun x r152 t H5 locs ht hvm hw hB hz hk hS => ?_)
                obtain ⟨hw, hr9, hB⟩ := hB
                replace hr9 := hr9.symm
                subst hr9
                obtain ⟨hPt, hK2, hne2, hv2, hF2⟩ := hB
                rw [ht] at hPt
                obtain ⟨v153, cB154, nb155, f156, ml157, cn158⟩ := x
                dsimp only at hPt hK2 hne2 hv2 hF2 hw
                obtain ⟨hnb9, rfl, hcn9, hw⟩ := hw
                have hK3 := va_K.moved hvm.symm hK2
                have hj := xjoin hN hP hK hBR hS0.1 hPt hK3 hk hne2 hv2
                obtain ⟨st159, est159⟩ : ∃ y, y = st19 st146 f156 ml157 (nI (((((gn + sv_len.getD 27 0) + if k1 < 10 then 1 else 2) + sv_len.getD 28 0) + if k42 < 10 then 1 else 2) + sv_len.getD 29 0)) := ⟨_, rfl⟩
                rw [← est159] at hj
                have hst159a : st159 18 1 = 0 := by rw [est159]; rfl
                have hst159b : st159 18 3 = (nI (((((gn + sv_len.getD 27 0) + if k1 < 10 then 1 else 2) + sv_len.getD 28 0) + if k42 < 10 then 1 else 2) + sv_len.getD 29 0)) := by rw [est159]; rfl
                have hfit : sb_Fit (st159 19) := by rw [est159]; exact hF2
                have hGst159 : XG [1, 2, 3, 4, 5, 6, 7, 8, 9, 10, 11, 12, 14, 15] st146 st159 := by rw [est159]; exact xg19 (XG.rf hG.1) (by decide) _ _ _
                have hG : XG [1, 2, 3, 4, 5, 6, 7, 8, 9, 10, 11, 12, 14, 15] st st159 := by rw [est159]; exact xg19 hG (by decide) _ _ _
                clear hK3 hK2 hne2 hv2 hF2 ht hvm est159 hPs hKs hk hz
                obtain ⟨hP, hK, hN, hBR⟩ := hj
                clear hw
                have hit160 : (if 29 < 10 then 1 else 2) ≤ 2 := by split <;> omega
                refine lv_pop hx hb dX11_appendFree_130 rfl ?_
                exact W.vret hx hb hr (fun t ht hW => ⟨⟨((st159, sl, so), (A19 (A19 (A19 (A19 (A19 A v100) v108) v131) v140) v153), (C19 (C19 (C19 (C19 (C19 C cB101) cB109) cB132) cB141) cB154), nb155), rfl, ⟨hG, hL, rfl, ⟨by show st159 18 1 = 0; rw [hst159a], by omega, ⟨(((((gn + sv_len.getD 27 0) + if k1 < 10 then 1 else 2) + sv_len.getD 28 0) + if k42 < 10 then 1 else 2) + sv_len.getD 29 0), by show st159 18 3 = _; rw [hst159b], by omega, by omega⟩, hfit⟩⟩, ⟨xB.of ht hP, va_K.moved hW.alike hK, hN, hBR⟩⟩, hS.F ht⟩) hS.2.2 dX11_appendFree_131
          · refine lv_iinc (v := (nI (k42 + 1))) (lv' := [(3, .int (nI (k42 + 1))), (2, .int (nI k1)), (0, .ref (A 0)), (1, .int va)]) hx hb dX11_appendFree_57 hl (k := 0) rfl (nI_add k42 1) (by decide) rfl (fun ls hl => ?_)
            refine lv_goto (tgt := 40) hx hb dX11_appendFree_60 (by decide) ?_
            exact ih45 (24 - (k42 + 1)) _ _ _ _ (by omega) ⟨(k42 + 1), rfl, by omega, by omega, hP, hS, lv_sub hl [0, 1, 2, 3] rfl, rfl⟩
      · refine lv_iinc (v := (nI (k1 + 1))) (lv' := [(2, .int (nI (k1 + 1))), (0, .ref (A 0)), (1, .int va)]) hx hb dX11_appendFree_32 hl (k := 0) rfl (nI_add k1 1) (by decide) rfl (fun ls hl => ?_)
        refine lv_goto (tgt := 18) hx hb dX11_appendFree_35 (by decide) ?_
        exact ih4 (24 - (k1 + 1)) _ _ _ _ (by omega) ⟨(k1 + 1), rfl, by omega, by omega, hP, hS, lv_sub hl [0, 1, 2] rfl, rfl⟩
  · refine lv_aload_n hx hb dX11_appendFree_4 rfl (lv_at hl 0 rfl) ?_
    refine va_get (D := (dC, dI)) (ci := 10) (v := .ref (A 18)) (C := RX11) (T := TX11) (N := 19) hx hb hts ii_X11_appendFree_X11 hown hK hP 0 (xw_is (r := 0) (by omega) (xc_fix (r := 0) (by omega))) rfl 14 (by decide) (hts _ mm_X11_appendFree_1) (fun _ hh => hh) rfl dX11_appendFree_5 ?_
    refine va_ldcwS (q := ad (100 + 26)) hx hb hown (hEv.sv.2.2.1.1) dX11_appendFree_8 ?_
    have hPs := xsub (cn := gn) hP (by rw [hco]) (by rw [hc3])
    have hKs := xKsub hK
    have hns : A 18 ≠ A 19 := fun h9 => absurd (hN 18 19 (by omega) (by omega) h9) (by decide)
    have hslx161 : sv_len.getD 26 0 = 12 := rfl
    have hS0 := hS
    refine va_callr (va_runV (As := [.ref (ad (100 + 26))]) (rest := []) ⟨hx, hb, hml, hown, hts⟩ (s_J4_append_15ec4 l dC dI ad E hEE (A 18) (A 19) (C 19) nb (st 19) (st 18 2) gn _ 26 hns hfit (by omega) (by omega) (by omega) (by omega)) (cwV 1 hts gX11_appendFree_J4_append_15ec4 rfl rfl rfl (by decide +kernel) ⟨Nat.le_of_ble_eq_true rfl, Nat.le_of_ble_eq_true rfl⟩) ⟨fun a U g mk q => ⟨q.1, sPre.blind hEE q.2⟩, va_recv hKs hPs (ci := 0) (q0 := 0) rfl rfl, fun U hU hW => ⟨rfl, sPre.of hEE hPs hKs hE hS (hBR.sa _ hS.1) hU hW⟩⟩ rfl rfl hl.1 rfl (lv_room (Nat.le_of_ble_eq_true rfl)) dX11_appendFree_11 ⟨Nat.le_of_ble_eq_true rfl, Nat.le_of_ble_eq_true rfl⟩) hS (fun q _ h => hBR.sa _ hS.1 q h) (hBR.sa _ hS.1) (fun x r162 t H5 locs ht hvm hw hB hz hk hS => ?_)
    obtain ⟨hw, hr9, hB⟩ := hB
    replace hr9 := hr9.symm
    subst hr9
    obtain ⟨hPt, hK2, hne2, hv2, hF2⟩ := hB
    rw [ht] at hPt
    obtain ⟨v163, cB164, nb165, f166, ml167, cn168⟩ := x
    dsimp only at hPt hK2 hne2 hv2 hF2 hw
    obtain ⟨hnb9, rfl, hcn9, hw⟩ := hw
    have hK3 := va_K.moved hvm.symm hK2
    have hj := xjoin hN hP hK hBR hS0.1 hPt hK3 hk hne2 hv2
    obtain ⟨st169, est169⟩ : ∃ y, y = st19 st f166 ml167 (nI (gn + sv_len.getD 26 0)) := ⟨_, rfl⟩
    rw [← est169] at hj
    have hst169a : st169 18 1 = 0 := by rw [est169]; rfl
    have hst169b : st169 18 3 = (nI (gn + sv_len.getD 26 0)) := by rw [est169]; rfl
    have hfit : sb_Fit (st169 19) := by rw [est169]; exact hF2
    have hGst169 : XG [1, 2, 3, 4, 5, 6, 7, 8, 9, 10, 11, 12, 14, 15] st st169 := by rw [est169]; exact xg19 (XG.rf hG.1) (by decide) _ _ _
    have hG : XG [1, 2, 3, 4, 5, 6, 7, 8, 9, 10, 11, 12, 14, 15] st st169 := by rw [est169]; exact xg19 hG (by decide) _ _ _
    clear hK3 hK2 hne2 hv2 hF2 ht hvm est169 hPs hKs hk hz
    obtain ⟨hP, hK, hN, hBR⟩ := hj
    clear hw
    refine lv_pop hx hb dX11_appendFree_14 rfl ?_
    refine W.widen (k := 5) (n := 170) (Nat.le_of_ble_eq_true rfl) (Nat.le_of_ble_eq_true rfl) ?_
    exact W.vret hx hb hr (fun t ht hW => ⟨⟨((st169, sl, so), (A19 A v163), (C19 C cB164), nb165), rfl, ⟨hG, hL, rfl, ⟨by show st169 18 1 = 0; rw [hst169a], by omega, ⟨(gn + sv_len.getD 26 0), by show st169 18 3 = _; rw [hst169b], by omega, by omega⟩, hfit⟩⟩, ⟨xB.of ht hP, va_K.moved hW.alike hK, hN, hBR⟩⟩, hS.F ht⟩) hS.2.2 dX11_appendFree_15
set_option maxHeartbeats 4000000 in
set_option maxRecDepth 100000 in
theorem x_X11_board (l : Launch) (dC : Nat → ClassId) (dI : Nat → Nat → Nat) (ad : Nat → Nat) (E : EP) (hEE : EC ad E) (A : Nat → Nat) (C : Nat → ClassId) (nb sz : Nat) (hN : XN A) (st : Nat → Nat → Int32) (sl : Nat → Nat → Int64) (so : Nat → XR) (va : Int32) (hI : XI st) (hBD : BD nb st) : Met l yX11_board wsX11_board ({ frames := 7, cells := 5, slots := 170, locals := 171 }) (va_Pc [.ref (A 0), .int va] (xPre E dC dI A C nb sz st sl so)) (va_Qi (fun (r : Int32) (x : XTB) => XG [1, 2, 3, 4, 5, 6, 7, 8, 9, 10, 11, 12, 14, 15] st x.1.1 ∧ LGq sl x.1.2.1 ∧ x.1.2.2 = so ∧ BD x.2.2.2 x.1.1) (xBB dC dI A sz) (XA A sz)) 5 170 (XA A sz) := by
  refine Met.ofW (cc := cX11_board) (maxL := 2) (ret := (some .int)) (by decide) rfl ?_
  intro p e s m args below meth c s₁ B hml hv
  obtain ⟨rfl, hsz, hP, hK, hE⟩ := hv
  have hx := B.exec
  have hb := B.bytes
  have hr := B.returns
  have hts := atoms_spec (ws := wsX11_board) B.pre
  have hown : s.vm.findClass RX11 = some m.cls := findClass_of_methodNamed B.named
  subst hsz
  have hEv := hEE.1 _ _ _ hE
  have hS : va_S (XA A s.heap.size) s.heap s.heap [] := va_S.rf
  have hG : XG [1, 2, 3, 4, 5, 6, 7, 8, 9, 10, 11, 12, 14, 15] st st := XG.rf hI
  have hBR : BR A A s.heap.size := BR.rf
  have hl := lv_entry ([.ref (A 0), .int va]) (n := 2) (Nat.le_of_ble_eq_true rfl)
  rw [lg_entry_eq]
  generalize (lg_sl ([.ref (A 0), .int va]) ++ List.replicate (2 - (lg_sl ([.ref (A 0), .int va])).length) Slot.unset).toArray = ls at hl ⊢
  have hl : lv_has ls 2 [(0, .ref (A 0)), (1, .int va)] := hl
  obtain ⟨hco, hnb, ⟨gn, hc3, hcle, hc30⟩, hfit⟩ := hBD
  have hL : LGq sl sl := LGq.rf
  refine lv_aload_n hx hb dX11_board_0 rfl (lv_at hl 0 rfl) ?_
  refine va_get (D := (dC, dI)) (ci := 10) (v := .ref (A (36 + 20 * 0))) (C := RX11) (T := TX11) (N := 19) hx hb hts ii_X11_board_X11 hown hK hP 0 (xw_is (r := 0) (by omega) (xc_fix (r := 0) (by omega))) rfl 1 (by decide) (hts _ mm_X11_board_1) (fun _ hh => hh) rfl dX11_board_1 ?_
  refine lv_iload_n hx hb dX11_board_4 rfl (lv_at hl 1 rfl) ?_
  refine va_calli (va_runV (As := [.int va]) (rest := []) ⟨hx, hb, hml, hown, hts⟩ (x_X4_hasPlace l dC dI ad E hEE A C nb _ hN st sl so 0 va (by omega) hG.1) (cwV 1 hts gX11_board_X4_hasPlace rfl rfl rfl (by decide +kernel) ⟨Nat.le_of_ble_eq_true rfl, Nat.le_of_ble_eq_true rfl⟩) ⟨fun a U g mk q => ⟨q.1, xPre.blind hEE q.2⟩, va_recv hK hP (ci := 5) (q0 := (36 + 20 * 0)) rfl (xw_is (r := (36 + 20 * 0)) (by omega) (xc_pk (i := 0) (o := 0) (by omega) (by omega))), fun U hU hW => ⟨rfl, xPre.of hEE hP hK hE hS hU hW⟩⟩ rfl rfl hl.1 rfl (lv_room (Nat.le_of_ble_eq_true rfl)) dX11_board_5 ⟨Nat.le_of_ble_eq_true rfl, Nat.le_of_ble_eq_true rfl⟩) hS (fun q _ h => XA.le hS.1 q h) (XA.le hS.1) (fun r1 x t H locs ht hvm hw hB _ _ hS => ?_)
  have hP := xB.at ht hB
  clear hB ht hvm
  obtain ⟨rfl, hw⟩ := hw
  have hP : va_P (dC, dI) vwCl (xw A C nb st sl so) _ := hP
  rcases hw with ⟨n2, rfl, hf3, rfl⟩ | rfl
  · refine lv_if_ne (tgt := 13) hx hb dX11_board_8 (by decide) (fun _ => ?_) (fun cc => absurd cc (by decide))
    refine lv_aload_n hx hb dX11_board_13 rfl (lv_at hl 0 rfl) ?_
    refine va_get (D := (dC, dI)) (ci := 10) (v := .ref (A 18)) (C := RX11) (T := TX11) (N := 19) hx hb hts ii_X11_board_X11 hown hK hP 0 (xw_is (r := 0) (by omega) (xc_fix (r := 0) (by omega))) rfl 14 (by decide) (hts _ mm_X11_board_2) (fun _ hh => hh) rfl dX11_board_14 ?_
    refine lv_iconst (v := 0) hx hb dX11_board_17 (by decide) ?_
    have hPs := xsub (cn := gn) hP (by rw [hco]) (by rw [hc3])
    have hKs := xKsub hK
    have hns : A 18 ≠ A 19 := fun h9 => absurd (hN 18 19 (by omega) (by omega) h9) (by decide)
    have hS0 := hS
    refine va_callv (va_runV (As := [.int 0]) (rest := []) ⟨hx, hb, hml, hown, hts⟩ (s_setLength4 l dC dI ad E hEE (A 18) (A 19) (C 19) nb (st 19) (st 18 2) gn _ hns hfit (by omega) (by omega) ) (cwV 1 hts gX11_board_J4_setLength_d00df rfl rfl rfl (by decide +kernel) ⟨Nat.le_of_ble_eq_true rfl, Nat.le_of_ble_eq_true rfl⟩) ⟨fun a U g mk q => ⟨q.1, sPre.blind hEE q.2⟩, va_recv hKs hPs (ci := 0) (q0 := 0) rfl rfl, fun U hU hW => ⟨rfl, sPre.of hEE hPs hKs hE hS (hBR.sa _ hS.1) hU hW⟩⟩ rfl rfl hl.1 rfl (lv_room (Nat.le_of_ble_eq_true rfl)) dX11_board_18 ⟨Nat.le_of_ble_eq_true rfl, Nat.le_of_ble_eq_true rfl⟩) hS (fun q _ h => hBR.sa _ hS.1 q h) (hBR.sa _ hS.1) (fun x t H5 locs ht hvm hw hB hz hk hS => ?_)
    obtain ⟨hPt, hK2, hne2, hv2, hF2⟩ := hB
    rw [ht] at hPt
    obtain ⟨v5, cB6, nb7, f8, ml9, cn10⟩ := x
    dsimp only at hPt hK2 hne2 hv2 hF2 hw
    obtain ⟨rfl, rfl, rfl, rfl, hw⟩ := hw
    have hK3 := va_K.moved hvm.symm hK2
    have hj := xjoin hN hP hK hBR hS0.1 hPt hK3 hk hne2 hv2
    rw [A19_self, C19_self] at hj
    obtain ⟨st11, est11⟩ : ∃ y, y = st19 st f8 ml9 (nI 0) := ⟨_, rfl⟩
    rw [← est11] at hj
    have hst11a : st11 18 1 = 0 := by rw [est11]; rfl
    have hst11b : st11 18 3 = (nI 0) := by rw [est11]; rfl
    have hfit : sb_Fit (st11 19) := by rw [est11]; exact hF2
    have hGst11 : XG [1, 2, 3, 4, 5, 6, 7, 8, 9, 10, 11, 12, 14, 15] st st11 := by rw [est11]; exact xg19 (XG.rf hG.1) (by decide) _ _ _
    have hG : XG [1, 2, 3, 4, 5, 6, 7, 8, 9, 10, 11, 12, 14, 15] st st11 := by rw [est11]; exact xg19 hG (by decide) _ _ _
    clear hK3 hK2 hne2 hv2 hF2 ht hvm est11 hPs hKs hk hz
    obtain ⟨hP, hK, hN, hBR⟩ := hj
    clear hw
    refine lv_aload_n hx hb dX11_board_21 rfl (lv_at hl 0 rfl) ?_
    refine lv_aload_n hx hb dX11_board_22 rfl (lv_at hl 0 rfl) ?_
    refine va_get (D := (dC, dI)) (ci := 10) (v := .ref (A (36 + 20 * 0))) (C := RX11) (T := TX11) (N := 19) hx hb hts ii_X11_board_X11 hown hK hP 0 (xw_is (r := 0) (by omega) (xc_fix (r := 0) (by omega))) rfl 1 (by decide) (hts _ mm_X11_board_1) (fun _ hh => hh) rfl dX11_board_23 ?_
    refine va_getN (host := "OffTheLead") (D := (dC, dI)) (ci := 5) (v := .ref (A (36 + 20 * 0 + 1))) (C := RX4) (T := TX4) (N := 12) hx hb hts ii_X11_board_X4 hown hK hP (36 + 20 * 0) (xw_is (r := (36 + 20 * 0)) (by omega) (xc_pk (i := 0) (o := 0) (by omega) (by omega))) rfl 0 (by decide) (va_Nw.use rfl (nf_X11_329 hEv)) (fun _ hh => hh) rfl dX11_board_26 ?_
    refine lv_iload_n hx hb dX11_board_29 rfl (lv_at hl 1 rfl) ?_
    refine va_lald hx hb hK hP (36 + 20 * 0 + 1) (36 + 20 * 0 + 1) (xw_is (r := (36 + 20 * 0 + 1)) (by omega) (xc_pk (i := 0) (o := 1) (by omega) (by omega))) (xt_is (r := (36 + 20 * 0 + 1)) (by omega) ((xty_pk (i := 0) (o := 1) (by omega)).trans rfl)) (i := (nI n2)) (vp_in_nI (by omega) (by decide)) dX11_board_30 ?_
    refine lv_topl (fun z12 ez12 => ?_)
    clear ez12
    refine va_callv (va_runV (As := [.long z12]) (rest := []) ⟨hx, hb, hml, hown, hts⟩ (x_X11_appendName l dC dI ad E hEE A C nb _ hN st11 sl so z12  hG.1 (by rw [hst11a]) (by rw [hst11b]; rfl) (hnb) (hfit)) (cwV 1 hts gX11_board_X11_appendName rfl rfl rfl (by decide +kernel) ⟨Nat.le_of_ble_eq_true rfl, Nat.le_of_ble_eq_true rfl⟩) ⟨fun a U g mk q => ⟨q.1, xPre.blind hEE q.2⟩, va_recv hK hP (ci := 10) (q0 := 0) rfl (xw_is (r := 0) (by omega) (xc_fix (r := 0) (by omega))), fun U hU hW => ⟨rfl, xPre.of hEE hP hK hE hS hU hW⟩⟩ rfl rfl hl.1 rfl (lv_room (Nat.le_of_ble_eq_true rfl)) dX11_board_31 ⟨Nat.le_of_ble_eq_true rfl, Nat.le_of_ble_eq_true rfl⟩) hS (fun q _ h => XA.le hS.1 q h) (XA.le hS.1) (fun x t H locs ht hvm hw hB _ _ hS => ?_)
    have hP := xB.at ht hB
    clear hB ht hvm
    obtain ⟨st14, sl15, so16⟩ := x
    obtain ⟨hGst14, hLGst14, hOst14, hw⟩ := hw
    dsimp only at hGst14 hLGst14 hOst14 hw
    have hL : LGq sl sl15 := hL.tr hLGst14
    replace hOst14 := hOst14.symm
    subst hOst14
    have hP : va_P (dC, dI) vwCl (xw A C nb st14 sl15 so) _ := hP
    have hG : XG [1, 2, 3, 4, 5, 6, 7, 8, 9, 10, 11, 12, 14, 15] st st14 := hG.tr hGst14 (by decide)
    obtain ⟨n17, hf18, hf19, hf20, hf21⟩ := hw
    have hfit := hf21
    refine lv_aload_n hx hb dX11_board_34 rfl (lv_at hl 0 rfl) ?_
    refine lv_aload_n hx hb dX11_board_35 rfl (lv_at hl 0 rfl) ?_
    refine va_get (D := (dC, dI)) (ci := 10) (v := .ref (A (36 + 20 * 0))) (C := RX11) (T := TX11) (N := 19) hx hb hts ii_X11_board_X11 hown hK hP 0 (xw_is (r := 0) (by omega) (xc_fix (r := 0) (by omega))) rfl 1 (by decide) (hts _ mm_X11_board_1) (fun _ hh => hh) rfl dX11_board_36 ?_
    refine va_getN (host := "OffTheLead") (D := (dC, dI)) (ci := 5) (v := .ref (A (36 + 20 * 0 + 2))) (C := RX4) (T := TX4) (N := 12) hx hb hts ii_X11_board_X4 hown hK hP (36 + 20 * 0) (xw_is (r := (36 + 20 * 0)) (by omega) (xc_pk (i := 0) (o := 0) (by omega) (by omega))) rfl 1 (by decide) (va_Nw.use rfl (nf_X11_202 hEv)) (fun _ hh => hh) rfl dX11_board_39 ?_
    refine lv_iload_n hx hb dX11_board_42 rfl (lv_at hl 1 rfl) ?_
    refine va_iald hx hb hK hP (36 + 20 * 0 + 2) (36 + 20 * 0 + 2) (xw_is (r := (36 + 20 * 0 + 2)) (by omega) (xc_pk (i := 0) (o := 2) (by omega) (by omega))) (xt_is (r := (36 + 20 * 0 + 2)) (by omega) ((xty_pk (i := 0) (o := 2) (by omega)).trans rfl)) (i := (nI n2)) (vp_in_nI (by omega) (by decide)) dX11_board_43 ?_
    obtain ⟨z22, ez22⟩ : ∃ y : Int32, st14 (36 + 20 * 0 + 2) n2 = y := ⟨_, rfl⟩
    refine zz_top (v := z22) (by rw [nI_clamp (by omega)]; exact ez22) ?_
    have hS0 := hS
    refine va_callv (va_runV (As := [.int z22]) (rest := []) ⟨hx, hb, hml, hown, hts⟩ (x_X11_appendFree l dC dI ad E hEE A C nb _ hN st14 sl15 so z22 n17 hG.1 (by rw [hf18]) (by rw [hf19]) (by omega) (by omega) (by omega) hfit) (cwV 1 hts gX11_board_X11_appendFree rfl rfl rfl (by decide +kernel) ⟨Nat.le_of_ble_eq_true rfl, Nat.le_of_ble_eq_true rfl⟩) ⟨fun a U g mk q => ⟨q.1, xPre.blind hEE q.2⟩, va_recv hK hP (ci := 10) (q0 := 0) rfl (xw_is (r := 0) (by omega) (xc_fix (r := 0) (by omega))), fun U hU hW => ⟨rfl, xPre.of hEE hP hK hE hS hU hW⟩⟩ rfl rfl hl.1 rfl (lv_room (Nat.le_of_ble_eq_true rfl)) dX11_board_44 ⟨Nat.le_of_ble_eq_true rfl, Nat.le_of_ble_eq_true rfl⟩) hS (fun q _ h => XA.le hS.1 q h) (XA.le hS.1) (fun x t H locs ht hvm hw hB _ _ hS => ?_)
    obtain ⟨⟨st23, sl24, so25⟩, A26, C27, nb28⟩ := x
    obtain ⟨hB, hK2, hN2, hBR2⟩ := hB
    dsimp only at hB hK2 hN2 hBR2 hw
    obtain ⟨hGst23, hL2, hO9, hBD2⟩ := hw
    have hL : LGq sl sl24 := hL.tr hL2
    replace hO9 := hO9.symm
    subst hO9
    have hP := xB.at ht hB
    have hK := va_K.moved hvm.symm hK2
    have hN := hN2
    have hBR : BR A A26 s.heap.size := ⟨hBR2.1, hBR2.2.imp id (Nat.le_trans hS0.1)⟩
    have hP : va_P (dC, dI) vwCl (xw A26 C27 nb28 st23 sl24 so) _ := hP
    have hG : XG [1, 2, 3, 4, 5, 6, 7, 8, 9, 10, 11, 12, 14, 15] st st23 := hG.tr hGst23 (by decide)
    obtain ⟨hco2, hnb2, ⟨cn2, hc32, hcle2, hc302⟩, hfit⟩ := hBD2
    have hA0 : A26 0 = A 0 := hBR.1 0 (by decide)
    have hA18 : A26 18 = A 18 := hBR.1 18 (by decide)
    rw [← hA0] at hl
    refine lv_aload_n hx hb dX11_board_47 rfl (lv_at hl 0 rfl) ?_
    refine va_get (D := (dC, dI)) (ci := 10) (v := .ref (A26 18)) (C := RX11) (T := TX11) (N := 19) hx hb hts ii_X11_board_X11 hown hK hP 0 (xw_is (r := 0) (by omega) (xc_fix (r := 0) (by omega))) rfl 14 (by decide) (hts _ mm_X11_board_2) (fun _ hh => hh) rfl dX11_board_48 ?_
    have hPs := xsub (cn := cn2) hP (by rw [hco2]) (by rw [hc32])
    have hKs := xKsub hK
    have hns : A26 18 ≠ A26 19 := fun h9 => absurd (hN 18 19 (by omega) (by omega) h9) (by decide)
    have hS0 := hS
    refine va_calli (va_runV (As := []) (rest := []) ⟨hx, hb, hml, hown, hts⟩ (s_J4_length_8abf5 l dC dI ad E hEE (A26 18) (A26 19) (C27 19) nb28 (st23 19) (st23 18 2) cn2 _ hns hfit (by omega) (by omega) ) (cwV 0 hts gX11_board_J4_length_8abf5 rfl rfl rfl (by decide +kernel) ⟨Nat.le_of_ble_eq_true rfl, Nat.le_of_ble_eq_true rfl⟩) ⟨fun a U g mk q => ⟨q.1, sPre.blind hEE q.2⟩, va_recv hKs hPs (ci := 0) (q0 := 0) rfl rfl, fun U hU hW => ⟨rfl, sPre.of hEE hPs hKs hE hS (hBR.sa _ hS.1) hU hW⟩⟩ rfl rfl hl.1 rfl (lv_room (Nat.le_of_ble_eq_true rfl)) dX11_board_51 ⟨Nat.le_of_ble_eq_true rfl, Nat.le_of_ble_eq_true rfl⟩) hS (fun q _ h => hBR.sa _ hS.1 q h) (hBR.sa _ hS.1) (fun r29 x t H5 locs ht hvm hw hB hz hk hS => ?_)
    obtain ⟨hPt, hK2, hne2, hv2, hF2⟩ := hB
    rw [ht] at hPt
    obtain ⟨rfl, hw⟩ := hw
    dsimp only at hPt hK2 hne2 hv2 hF2
    have hK3 := va_K.moved hvm.symm hK2
    have hj := xjoin hN hP hK hBR hS0.1 hPt hK3 hk hne2 hv2
    rw [A19_self, C19_self] at hj
    obtain ⟨st36, est36⟩ : ∃ y, y = st19 st23 (st23 19) (st23 18 2) (nI cn2) := ⟨_, rfl⟩
    rw [← est36] at hj
    have hst36a : st36 18 1 = 0 := by rw [est36]; rfl
    have hst36b : st36 18 3 = (nI cn2) := by rw [est36]; rfl
    have hfit : sb_Fit (st36 19) := by rw [est36]; exact hF2
    have hGst36 : XG [1, 2, 3, 4, 5, 6, 7, 8, 9, 10, 11, 12, 14, 15] st23 st36 := by rw [est36]; exact xg19 (XG.rf hG.1) (by decide) _ _ _
    have hG : XG [1, 2, 3, 4, 5, 6, 7, 8, 9, 10, 11, 12, 14, 15] st st36 := by rw [est36]; exact xg19 hG (by decide) _ _ _
    clear hK3 hK2 hne2 hv2 hF2 ht hvm est36 hPs hKs hk hz
    obtain ⟨hP, hK, hN, hBR⟩ := hj
    obtain ⟨n37, rfl, hf38⟩ := hw
    exact W.iret (v := (nI n37)) hx hb hr (fun t ht hW => ⟨⟨(nI n37), ((st36, sl24, so), A26, C27, nb28), rfl, ⟨hG, hL, rfl, ⟨by show st36 18 1 = 0; rw [hst36a], by omega, ⟨cn2, by show st36 18 3 = _; rw [hst36b], by omega, by omega⟩, hfit⟩⟩, ⟨xB.of ht hP, va_K.moved hW.alike hK, hN, hBR⟩⟩, hS.F ht⟩) hS.2.2 dX11_board_54
  · refine lv_if_ne (tgt := 13) hx hb dX11_board_8 (by decide) (fun cc => absurd (by decide) cc) (fun _ => ?_)
    refine lv_iconst (v := (-1)) hx hb dX11_board_11 (by decide) ?_
    refine W.widen (k := 5) (n := 170) (Nat.le_of_ble_eq_true rfl) (Nat.le_of_ble_eq_true rfl) ?_
    exact W.iret (v := (-1)) hx hb hr (fun t ht hW => ⟨⟨(-1), ((st, sl, so), A, C, nb), rfl, ⟨hG, hL, rfl, ⟨by show st 18 1 = 0; rw [hco], by omega, ⟨gn, by show st 18 3 = _; rw [hc3], by omega, by omega⟩, hfit⟩⟩, ⟨xB.of ht hP, va_K.moved hW.alike hK, hN, hBR⟩⟩, hS.F ht⟩) hS.2.2 dX11_board_12
set_option maxHeartbeats 4000000 in
set_option maxRecDepth 100000 in
theorem x_X11_byteAt (l : Launch) (dC : Nat → ClassId) (dI : Nat → Nat → Nat) (ad : Nat → Nat) (E : EP) (hEE : EC ad E) (A : Nat → Nat) (C : Nat → ClassId) (nb sz : Nat) (hN : XN A) (st : Nat → Nat → Int32) (sl : Nat → Nat → Int64) (so : Nat → XR) (va : Int32) (hI : XI st) (hBD : BD nb st) : Met l yX11_byteAt wsX11_byteAt ({ frames := 4, cells := 0, slots := 0, locals := 88 }) (va_Pc [.ref (A 0), .int va] (xPre E dC dI A C nb sz st sl so)) (va_Qi (fun (r : Int32) (x : XT) => XG [1, 2, 3, 4, 5, 6, 7, 8, 9, 10, 11, 12, 14, 15] st x.1 ∧ LGq sl x.2.1 ∧ x.2.2 = so ∧ (True)) (xB dC dI A C nb) (XA A sz)) 0 0 (XA A sz) := by
  refine Met.ofW (cc := cX11_byteAt) (maxL := 2) (ret := (some .int)) (by decide) rfl ?_
  intro p e s m args below meth c s₁ B hml hv
  obtain ⟨rfl, hsz, hP, hK, hE⟩ := hv
  have hx := B.exec
  have hb := B.bytes
  have hr := B.returns
  have hts := atoms_spec (ws := wsX11_byteAt) B.pre
  have hown : s.vm.findClass RX11 = some m.cls := findClass_of_methodNamed B.named
  subst hsz
  have hEv := hEE.1 _ _ _ hE
  have hS : va_S (XA A s.heap.size) s.heap s.heap [] := va_S.rf
  have hG : XG [1, 2, 3, 4, 5, 6, 7, 8, 9, 10, 11, 12, 14, 15] st st := XG.rf hI
  have hBR : BR A A s.heap.size := BR.rf
  have hl := lv_entry ([.ref (A 0), .int va]) (n := 2) (Nat.le_of_ble_eq_true rfl)
  rw [lg_entry_eq]
  generalize (lg_sl ([.ref (A 0), .int va]) ++ List.replicate (2 - (lg_sl ([.ref (A 0), .int va])).length) Slot.unset).toArray = ls at hl ⊢
  have hl : lv_has ls 2 [(0, .ref (A 0)), (1, .int va)] := hl
  obtain ⟨hco, hnb, ⟨gn, hc3, hcle, hc30⟩, hfit⟩ := hBD
  have hL : LGq sl sl := LGq.rf
  refine lv_iload_n hx hb dX11_byteAt_0 rfl (lv_at hl 1 rfl) ?_
  refine lv_if_lt (tgt := 15) hx hb dX11_byteAt_1 (by decide) (fun c1 => ?_) (fun c1 => ?_)
  · refine lv_iconst (v := (-1)) hx hb dX11_byteAt_15 (by decide) ?_
    exact W.iret (v := (-1)) hx hb hr (fun t ht hW => ⟨⟨(-1), (st, sl, so), rfl, ⟨hG, hL, rfl, trivial⟩, xB.of ht hP⟩, hS.F ht⟩) hS.2.2 dX11_byteAt_16
  · obtain ⟨jn1, hjn1, rfl⟩ := nI_of c1
    refine lv_iload_n hx hb dX11_byteAt_4 rfl (lv_at hl 1 rfl) ?_
    refine lv_aload_n hx hb dX11_byteAt_5 rfl (lv_at hl 0 rfl) ?_
    refine va_get (D := (dC, dI)) (ci := 10) (v := .ref (A 18)) (C := RX11) (T := TX11) (N := 19) hx hb hts ii_X11_byteAt_X11 hown hK hP 0 (xw_is (r := 0) (by omega) (xc_fix (r := 0) (by omega))) rfl 14 (by decide) (hts _ mm_X11_byteAt_1) (fun _ hh => hh) rfl dX11_byteAt_6 ?_
    have hPs := xsub (cn := gn) hP (by rw [hco]) (by rw [hc3])
    have hKs := xKsub hK
    have hns : A 18 ≠ A 19 := fun h9 => absurd (hN 18 19 (by omega) (by omega) h9) (by decide)
    have hS0 := hS
    refine va_calli (va_runV (As := []) (rest := [.int (nI jn1)]) ⟨hx, hb, hml, hown, hts⟩ (s_J4_length_8abf5 l dC dI ad E hEE (A 18) (A 19) (C 19) nb (st 19) (st 18 2) gn _ hns hfit (by omega) (by omega) ) (cwV 0 hts gX11_byteAt_J4_length_8abf5 rfl rfl rfl (by decide +kernel) ⟨Nat.le_of_ble_eq_true rfl, Nat.le_of_ble_eq_true rfl⟩) ⟨fun a U g mk q => ⟨q.1, sPre.blind hEE q.2⟩, va_recv hKs hPs (ci := 0) (q0 := 0) rfl rfl, fun U hU hW => ⟨rfl, sPre.of hEE hPs hKs hE hS (hBR.sa _ hS.1) hU hW⟩⟩ rfl rfl hl.1 rfl (lv_room (Nat.le_of_ble_eq_true rfl)) dX11_byteAt_9 ⟨Nat.le_of_ble_eq_true rfl, Nat.le_of_ble_eq_true rfl⟩) hS (fun q _ h => hBR.sa _ hS.1 q h) (hBR.sa _ hS.1) (fun r2 x t H5 locs ht hvm hw hB hz hk hS => ?_)
    obtain ⟨hPt, hK2, hne2, hv2, hF2⟩ := hB
    rw [ht] at hPt
    obtain ⟨rfl, hw⟩ := hw
    dsimp only at hPt hK2 hne2 hv2 hF2
    have hK3 := va_K.moved hvm.symm hK2
    have hj := xjoin hN hP hK hBR hS0.1 hPt hK3 hk hne2 hv2
    rw [A19_self, C19_self] at hj
    obtain ⟨st9, est9⟩ : ∃ y, y = st19 st (st 19) (st 18 2) (nI gn) := ⟨_, rfl⟩
    rw [← est9] at hj
    have hst9a : st9 18 1 = 0 := by rw [est9]; rfl
    have hst9b : st9 18 3 = (nI gn) := by rw [est9]; rfl
    have hfit : sb_Fit (st9 19) := by rw [est9]; exact hF2
    have hGst9 : XG [1, 2, 3, 4, 5, 6, 7, 8, 9, 10, 11, 12, 14, 15] st st9 := by rw [est9]; exact xg19 (XG.rf hG.1) (by decide) _ _ _
    have hG : XG [1, 2, 3, 4, 5, 6, 7, 8, 9, 10, 11, 12, 14, 15] st st9 := by rw [est9]; exact xg19 hG (by decide) _ _ _
    clear hK3 hK2 hne2 hv2 hF2 ht hvm est9 hPs hKs hk hz
    obtain ⟨hP, hK, hN, hBR⟩ := hj
    obtain ⟨n10, rfl, hf11⟩ := hw
    refine lv_icmp_lt (tgt := 17) hx hb dX11_byteAt_12 (by decide) (fun c2 => ?_) (fun c2 => ?_)
    · have c2 : jn1 < n10 := (nI_ltI (a := jn1) (b := n10) (by omega) (by omega)).mp c2
      refine lv_aload_n hx hb dX11_byteAt_17 rfl (lv_at hl 0 rfl) ?_
      refine va_get (D := (dC, dI)) (ci := 10) (v := .ref (A 18)) (C := RX11) (T := TX11) (N := 19) hx hb hts ii_X11_byteAt_X11 hown hK hP 0 (xw_is (r := 0) (by omega) (xc_fix (r := 0) (by omega))) rfl 14 (by decide) (hts _ mm_X11_byteAt_1) (fun _ hh => hh) rfl dX11_byteAt_18 ?_
      refine lv_iload_n hx hb dX11_byteAt_21 rfl (lv_at hl 1 rfl) ?_
      have hPs := xsub (cn := gn) hP (by rw [hst9a]) (by rw [hst9b])
      have hKs := xKsub hK
      have hns : A 18 ≠ A 19 := fun h9 => absurd (hN 18 19 (by omega) (by omega) h9) (by decide)
      have hS0 := hS
      refine va_calli (va_runV (As := [.int (nI jn1)]) (rest := []) ⟨hx, hb, hml, hown, hts⟩ (s_J4_charAt_5068e l dC dI ad E hEE (A 18) (A 19) (C 19) nb (st9 19) (st9 18 2) gn _ jn1 hns hfit (by omega) (by omega) (by omega) (by omega)) (cwV 1 hts gX11_byteAt_J4_charAt_5068e rfl rfl rfl (by decide +kernel) ⟨Nat.le_of_ble_eq_true rfl, Nat.le_of_ble_eq_true rfl⟩) ⟨fun a U g mk q => ⟨q.1, sPre.blind hEE q.2⟩, va_recv hKs hPs (ci := 0) (q0 := 0) rfl rfl, fun U hU hW => ⟨rfl, sPre.of hEE hPs hKs hE hS (hBR.sa _ hS.1) hU hW⟩⟩ rfl rfl hl.1 rfl (lv_room (Nat.le_of_ble_eq_true rfl)) dX11_byteAt_22 ⟨Nat.le_of_ble_eq_true rfl, Nat.le_of_ble_eq_true rfl⟩) hS (fun q _ h => hBR.sa _ hS.1 q h) (hBR.sa _ hS.1) (fun r12 x t H5 locs ht hvm hw hB hz hk hS => ?_)
      obtain ⟨hPt, hK2, hne2, hv2, hF2⟩ := hB
      rw [ht] at hPt
      obtain ⟨rfl, hw⟩ := hw
      dsimp only at hPt hK2 hne2 hv2 hF2
      have hK3 := va_K.moved hvm.symm hK2
      have hj := xjoin hN hP hK hBR hS0.1 hPt hK3 hk hne2 hv2
      rw [A19_self, C19_self] at hj
      obtain ⟨st19, est19⟩ : ∃ y, y = st19 st9 (st9 19) (st9 18 2) (nI gn) := ⟨_, rfl⟩
      rw [← est19] at hj
      have hst19a : st19 18 1 = 0 := by rw [est19]; rfl
      have hst19b : st19 18 3 = (nI gn) := by rw [est19]; rfl
      have hfit : sb_Fit (st19 19) := by rw [est19]; exact hF2
      have hGst19 : XG [1, 2, 3, 4, 5, 6, 7, 8, 9, 10, 11, 12, 14, 15] st9 st19 := by rw [est19]; exact xg19 (XG.rf hG.1) (by decide) _ _ _
      have hG : XG [1, 2, 3, 4, 5, 6, 7, 8, 9, 10, 11, 12, 14, 15] st st19 := by rw [est19]; exact xg19 hG (by decide) _ _ _
      clear hK3 hK2 hne2 hv2 hF2 ht hvm est19 hPs hKs hk hz
      obtain ⟨hP, hK, hN, hBR⟩ := hj
      have hf20 := hw
      exact W.iret (v := r12) hx hb hr (fun t ht hW => ⟨⟨r12, (st19, sl, so), rfl, ⟨hG, hL, rfl, trivial⟩, xB.of ht hP⟩, hS.F ht⟩) hS.2.2 dX11_byteAt_25
    · have c2 : ¬ jn1 < n10 := fun hh => c2 ((nI_ltI (a := jn1) (b := n10) (by omega) (by omega)).mpr hh)
      refine lv_iconst (v := (-1)) hx hb dX11_byteAt_15 (by decide) ?_
      exact W.iret (v := (-1)) hx hb hr (fun t ht hW => ⟨⟨(-1), (st9, sl, so), rfl, ⟨hG, hL, rfl, trivial⟩, xB.of ht hP⟩, hS.F ht⟩) hS.2.2 dX11_byteAt_16
